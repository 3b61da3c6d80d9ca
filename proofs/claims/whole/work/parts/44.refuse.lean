
/-! what a call refuses -/
theorem num_n {q k : Nat} {Vm : Mm} (hq : q < 12) (h : Vm 0 21 = nI q) (hk : k < 5) : eX6_number (nI k) Vm = some (Vm 6 (5 * q + k)) := by
  unfold eX6_number
  rw [h]
  simp (disch := omega) only [q0a, q0b, q0c, q0d, q0e, q0f, p0_l, p0_r, p0_s, q1a, q1b, q1c, q1d, q1e, q1f, p1_l, p1_r, p1_s, q2a, q2b, q2c, q2d, q2e, q2f, p2_l, p2_r, p2_s, q3a, q3b, q3c, q3d, q3e, q3f, p3_l, p3_r, p3_s, q4a, q4b, q4c, q4d, q4e, q4f, p4_l, p4_r, p4_s, p4_m, q5a, q5b, q5c, q5d, q5e, q5f, p5_l, p5_r, p5_s, p5_m, q6a, q6b, q6c, q6d, q6e, q6f, p6_l, p6_r, p6_s, q7a, q7b, q7c, q7d, q7e, q7f, p7_l, p7_r, p7_s, q8a, q8b, q8c, q8d, q8e, q8f, p8_l, p8_r, p8_s, q9a, q9b, q9c, q9d, q9e, q9f, p9_l, p9_r, p9_s, q10a, q10b, q10c, q10d, q10e, q10f, p10_l, p10_r, p10_s, p10_m, q11a, q11b, q11c, q11d, q11e, q11f, p11_l, p11_r, p11_s, q12a, q12b, q12c, q12d, q12e, q12f, p12_l, p12_r, p12_s, q15a, q15b, q15c, q15d, q15e, q15f, p15_l, p15_r, p15_s, q19a, q19b, q19c, q19d, q19e, q19f, p19_l, p19_r, p19_s, q20a, q20b, q20c, q20d, q20e, q20f, p20_l, p20_r, p20_s, q31a, q31b, q31c, q31d, q31e, q31f, p31_l, p31_r, p31_s, q40a, q40b, q40c, q40d, q40e, q40f, p40_l, p40_r, p40_s, q48a, q48b, q48c, q48d, q48e, q48f, p48_l, p48_r, p48_s, q50a, q50b, q50c, q50d, q50e, q50f, p50_l, p50_r, p50_s, p50_m, q52a, q52b, q52c, q52d, q52e, q52f, p52_l, p52_r, p52_s, q60a, q60b, q60c, q60d, q60e, q60f, p60_l, p60_r, p60_s, q63a, q63b, q63c, q63d, q63e, q63f, p63_l, p63_r, p63_s, q80a, q80b, q80c, q80d, q80e, q80f, p80_l, p80_r, p80_s, q99a, q99b, q99c, q99d, q99e, q99f, p99_l, p99_r, p99_s, q100a, q100b, q100c, q100d, q100e, q100f, p100_l, p100_r, p100_s, q120a, q120b, q120c, q120d, q120e, q120f, p120_l, p120_r, p120_s, q240a, q240b, q240c, q240d, q240e, q240f, p240_l, p240_r, p240_s, q243a, q243b, q243c, q243d, q243e, q243f, p243_l, p243_r, p243_s, q244a, q244b, q244c, q244d, q244e, q244f, p244_l, p244_r, p244_s, q580a, q580b, q580c, q580d, q580e, q580f, p580_l, p580_r, p580_s, q581a, q581b, q581c, q581d, q581e, q581f, p581_l, p581_r, p581_s, q582a, q582b, q582c, q582d, q582e, q582f, p582_l, p582_r, p582_s, q583a, q583b, q583c, q583d, q583e, q583f, p583_l, p583_r, p583_s, q584a, q584b, q584c, q584d, q584e, q584f, p584_l, p584_r, p584_s, q585a, q585b, q585c, q585d, q585e, q585f, p585_l, p585_r, p585_s, q586a, q586b, q586c, q586d, q586e, q586f, p586_l, p586_r, p586_s, q999a, q999b, q999c, q999d, q999e, q999f, p999_l, p999_r, p999_s, q1000a, q1000b, q1000c, q1000d, q1000e, q1000f, p1000_l, p1000_r, p1000_s, q2400a, q2400b, q2400c, q2400d, q2400e, q2400f, p2400_l, p2400_r, p2400_s, q9999a, q9999b, q9999c, q9999d, q9999e, q9999f, p9999_l, p9999_r, p9999_s, I00, I01, I10, I11, n_le, n_lt, n_eq, n_cl, n_add, n_ne9, n_ne1, if_true, if_false, Option.bind_some, if_pos, if_neg]
theorem drafted_n {q k : Nat} {Vm : Mm} (hq : q < 12) (h : Vm 0 21 = nI q) (hk : k < 10) : eX6_drafted (nI k) Vm = some (Vm 7 (10 * q + k)) := by
  unfold eX6_drafted
  rw [h]
  simp (disch := omega) only [q0a, q0b, q0c, q0d, q0e, q0f, p0_l, p0_r, p0_s, q1a, q1b, q1c, q1d, q1e, q1f, p1_l, p1_r, p1_s, q2a, q2b, q2c, q2d, q2e, q2f, p2_l, p2_r, p2_s, q3a, q3b, q3c, q3d, q3e, q3f, p3_l, p3_r, p3_s, q4a, q4b, q4c, q4d, q4e, q4f, p4_l, p4_r, p4_s, p4_m, q5a, q5b, q5c, q5d, q5e, q5f, p5_l, p5_r, p5_s, p5_m, q6a, q6b, q6c, q6d, q6e, q6f, p6_l, p6_r, p6_s, q7a, q7b, q7c, q7d, q7e, q7f, p7_l, p7_r, p7_s, q8a, q8b, q8c, q8d, q8e, q8f, p8_l, p8_r, p8_s, q9a, q9b, q9c, q9d, q9e, q9f, p9_l, p9_r, p9_s, q10a, q10b, q10c, q10d, q10e, q10f, p10_l, p10_r, p10_s, p10_m, q11a, q11b, q11c, q11d, q11e, q11f, p11_l, p11_r, p11_s, q12a, q12b, q12c, q12d, q12e, q12f, p12_l, p12_r, p12_s, q15a, q15b, q15c, q15d, q15e, q15f, p15_l, p15_r, p15_s, q19a, q19b, q19c, q19d, q19e, q19f, p19_l, p19_r, p19_s, q20a, q20b, q20c, q20d, q20e, q20f, p20_l, p20_r, p20_s, q31a, q31b, q31c, q31d, q31e, q31f, p31_l, p31_r, p31_s, q40a, q40b, q40c, q40d, q40e, q40f, p40_l, p40_r, p40_s, q48a, q48b, q48c, q48d, q48e, q48f, p48_l, p48_r, p48_s, q50a, q50b, q50c, q50d, q50e, q50f, p50_l, p50_r, p50_s, p50_m, q52a, q52b, q52c, q52d, q52e, q52f, p52_l, p52_r, p52_s, q60a, q60b, q60c, q60d, q60e, q60f, p60_l, p60_r, p60_s, q63a, q63b, q63c, q63d, q63e, q63f, p63_l, p63_r, p63_s, q80a, q80b, q80c, q80d, q80e, q80f, p80_l, p80_r, p80_s, q99a, q99b, q99c, q99d, q99e, q99f, p99_l, p99_r, p99_s, q100a, q100b, q100c, q100d, q100e, q100f, p100_l, p100_r, p100_s, q120a, q120b, q120c, q120d, q120e, q120f, p120_l, p120_r, p120_s, q240a, q240b, q240c, q240d, q240e, q240f, p240_l, p240_r, p240_s, q243a, q243b, q243c, q243d, q243e, q243f, p243_l, p243_r, p243_s, q244a, q244b, q244c, q244d, q244e, q244f, p244_l, p244_r, p244_s, q580a, q580b, q580c, q580d, q580e, q580f, p580_l, p580_r, p580_s, q581a, q581b, q581c, q581d, q581e, q581f, p581_l, p581_r, p581_s, q582a, q582b, q582c, q582d, q582e, q582f, p582_l, p582_r, p582_s, q583a, q583b, q583c, q583d, q583e, q583f, p583_l, p583_r, p583_s, q584a, q584b, q584c, q584d, q584e, q584f, p584_l, p584_r, p584_s, q585a, q585b, q585c, q585d, q585e, q585f, p585_l, p585_r, p585_s, q586a, q586b, q586c, q586d, q586e, q586f, p586_l, p586_r, p586_s, q999a, q999b, q999c, q999d, q999e, q999f, p999_l, p999_r, p999_s, q1000a, q1000b, q1000c, q1000d, q1000e, q1000f, p1000_l, p1000_r, p1000_s, q2400a, q2400b, q2400c, q2400d, q2400e, q2400f, p2400_l, p2400_r, p2400_s, q9999a, q9999b, q9999c, q9999d, q9999e, q9999f, p9999_l, p9999_r, p9999_s, I00, I01, I10, I11, n_le, n_lt, n_eq, n_cl, n_add, n_ne9, n_ne1, if_true, if_false, Option.bind_some, if_pos, if_neg]
theorem within_c (x y z : Int32) (V : Mm) : (eX6_within x y z V = some 0 ∧ (x < y ∨ z < x)) ∨ (eX6_within x y z V = some 1 ∧ ¬ x < y ∧ ¬ z < x) := by
  unfold eX6_within
  by_cases h : x < y
  · left; exact ⟨if_pos h, Or.inl h⟩
  · by_cases h2 : z < x
    · left; exact ⟨by rw [if_neg h, if_pos h2], Or.inr h2⟩
    · right; exact ⟨by rw [if_neg h, if_neg h2], h, h2⟩
theorem within_x (x y z : Int32) (V W : Mm) : eX5_isWithin x y z V = eX6_within x y z W := rfl
theorem within_y (x y z : Int32) (V W : Mm) : eX6_within x y z V = eX6_within x y z W := rfl
/-- between 0 and k: a small number -/
theorem btw {x : Int32} {k : Nat} (hk : k < 2147483648) (h1 : ¬ x < 0) (h2 : ¬ nI k < x) : ∃ j, j ≤ k ∧ x = nI j := by
  rcases n_cases x with hx | ⟨j, hj, rfl⟩
  · exact absurd hx h1
  · refine ⟨j, ?_, rfl⟩
    rw [n_lt hk hj] at h2
    omega
/-- the first of the named -/
def fstHold (a1 q : Nat) (V : Mm) : Option Int32 := if V a1 3 < 0 then eX5_doesOneHold (V a1 4) (nI q) V else eX5_isGoodAhead (V a1 3) (nI q) V
theorem dnh {a1 q : Nat} {V : Mm} : eX5_doNamedHold a1 (nI q) V = (fstHold a1 q V).bind fun r => if r = 0 then some 0 else (eX5_oneBeside a1 V).bind fun r5 => (eX5_doesOneHold r5 (nI q) V).bind fun r7 => if r7 = 0 then some 0 else some 1 := by
  unfold eX5_doNamedHold fstHold
  split
  · rfl
  · rfl
theorem hold0 {q : Nat} {V : Mm} : eX5_doesOneHold 0 (nI q) V = some 1 := by
  unfold eX5_doesOneHold
  rw [if_pos (by decide)]
theorem ids_check {q : Nat} {Vc Vm : Mm} (h : Ahead q Vc Vm) (a1 : Nat) :
    (eX5_areIdsAsTold a1 Vc = some 0 ∧ eX6_isRow (Vc a1 3) (Vc a1 4) Vm = some 0) ∨
    (eX5_areIdsAsTold a1 Vc = some 1 ∧ eX6_isRow (Vc a1 3) (Vc a1 4) Vm = some 1 ∧ ((fstHold a1 q Vc = some 0 ∧ eX6_areIds (Vc a1 3) (Vc a1 4) Vm = some 0) ∨ (fstHold a1 q Vc = some 1 ∧ eX6_areIds (Vc a1 3) (Vc a1 4) Vm = some 1 ∧ Named q Vc Vm (Vc a1 3) (Vc a1 4)))) := by
  unfold eX5_areIdsAsTold eX6_isRow fstHold eX6_areIds
  by_cases e1 : Vc a1 3 = -1
  · right
    rw [if_pos e1, if_pos e1, if_pos e1, if_pos (by rw [e1]; decide)]
    refine ⟨rfl, rfl, ?_⟩
    rcases isOne_n h (Vc a1 4) with ⟨g1, g2⟩ | ⟨g1, g2, g3⟩
    · left; exact ⟨g1, by rw [g2]; rfl⟩
    · right; exact ⟨g1, by rw [g2]; rfl, Or.inl ⟨e1, g3⟩⟩
  · rw [if_neg e1, if_neg e1, if_neg e1]
    by_cases e2 : Vc a1 3 < 0
    · left
      rw [if_pos e2, if_pos e2]
      exact ⟨rfl, rfl⟩
    · rw [if_neg e2, if_neg e2, if_neg e2]
      rcases n_cases (Vc a1 3) with hx | ⟨p, hp, ep⟩
      · exact absurd hx e2
      · rcases within_c (Vc a1 4) 0 3 Vm with ⟨g, -⟩ | ⟨g, g2, g3⟩
        · left
          rw [within_x _ _ _ Vc Vm, g]
          exact ⟨rfl, rfl⟩
        · right
          rw [within_x _ _ _ Vc Vm, g]
          refine ⟨rfl, rfl, ?_⟩
          obtain ⟨r, hr, er⟩ := btw (k := 3) (by omega) g2 g3
          rw [ep]
          by_cases hg : p < q ∧ Vm 8 p = 0
          · right
            have hd : Decidable (goodP Vm q p) := isTrue hg
            rw [good_c h hp, known_m h hp, b2i_T (show goodP Vm q p from hg)]
            exact ⟨rfl, rfl, Or.inr ⟨p, r, hg.1, hg.2, by omega, rfl, er⟩⟩
          · left
            have hd : Decidable (goodP Vm q p) := isFalse hg
            rw [good_c h hp, known_m h hp, b2i_F (show ¬ goodP Vm q p from hg)]
            exact ⟨rfl, rfl⟩
/-- one call of the class, after the clearing -/
def callC (q : Nat) (V : Mm) : Option (Int32 × Mm) := (eX5_refusalOf (89 + 9 * q) (nI q) V).bind fun r => if r = 0 then eX5_act (89 + 9 * q) (91 + 9 * q) V else some (r, V)
theorem callC_r {q : Nat} {V : Mm} {r : Int32} (h : eX5_refusalOf (89 + 9 * q) (nI q) V = some r) (h0 : r ≠ 0) : callC q V = some (r, V) := by
  unfold callC
  rw [h, Option.bind_some, if_neg h0]
theorem callC_0 {q : Nat} {V : Mm} (h : eX5_refusalOf (89 + 9 * q) (nI q) V = some 0) : callC q V = eX5_act (89 + 9 * q) (91 + 9 * q) V := by
  unfold callC
  rw [h, Option.bind_some, if_pos rfl]
def frC (q : Nat) (V W : Mm) : Prop := (∀ k, k ≠ 0 → (k < 4 ∨ 75 < k) → k ≠ 83 → k ≠ 88 → (k < 93 + 9 * q ∨ 97 + 9 * q < k) → W k = V k) ∧ ∀ x, x ≠ 9 → W 0 x = V 0 x
def frM (q : Nat) (V W : Mm) : Prop := (∀ k, k ≠ 0 → k ≠ 1 → k ≠ 9 → k ≠ 10 → k ≠ 16 → k ≠ 17 → k ≠ 22 → W k = V k) ∧ (∀ x, x ≠ 20 → W 0 x = V 0 x) ∧ (∀ i, i < 4 * q → W 9 i = V 9 i) ∧ ∀ i, i < 50 * (4 * q) → W 10 i = V 10 i
theorem frC_rfl {q : Nat} {V : Mm} : frC q V V := ⟨fun _ _ _ _ _ _ => rfl, fun _ _ => rfl⟩
theorem frM_rfl {q : Nat} {V : Mm} : frM q V V := ⟨fun _ _ _ _ _ _ _ _ => rfl, fun _ _ => rfl, fun _ _ => rfl, fun _ _ => rfl⟩
theorem frC_tr {q : Nat} {U V W : Mm} (h : frC q U V) (g : frC q V W) : frC q U W := ⟨fun k a b c d e => (g.1 k a b c d e).trans (h.1 k a b c d e), fun x hx => (g.2 x hx).trans (h.2 x hx)⟩
theorem frM_tr {q : Nat} {U V W : Mm} (h : frM q U V) (g : frM q V W) : frM q U W := ⟨fun k a b c d e f i => (g.1 k a b c d e f i).trans (h.1 k a b c d e f i), fun x hx => (g.2.1 x hx).trans (h.2.1 x hx), fun i hi => (g.2.2.1 i hi).trans (h.2.2.1 i hi), fun i hi => (g.2.2.2 i hi).trans (h.2.2.2 i hi)⟩
theorem own_frC {q : Nat} {V W : Mm} (h : ownC V W) : frC q V W := ⟨fun k a _ _ d _ => h.1 k a d, h.2⟩
theorem own_frM {q : Nat} {V W : Mm} (h : ownM V W) : frM q V W := ⟨fun k a _ _ _ e _ _ => h.1 k a e, h.2, fun i _ => by rw [h.1 9 (by omega) (by omega)], fun i _ => by rw [h.1 10 (by omega) (by omega)]⟩
theorem out_frC {q : Nat} {V W : Mm} (h : outC q V W) : frC q V W := ⟨fun k _ _ _ _ e => h k e, fun x _ => by rw [h 0 (by omega)]⟩
theorem out_frM {q : Nat} {V W : Mm} (h : outM q V W) : frM q V W := ⟨fun k _ _ c d _ _ _ => h.1 k c d, fun x _ => by rw [h.1 0 (by omega) (by omega)], h.2.1, h.2.2⟩
/-- the world stays -/
def stay (Vc Vm Vc' Vm' : Mm) : Prop := (∀ k, 4 ≤ k → k ≤ 75 → Vc' k = Vc k) ∧ Vm' 1 = Vm 1
theorem oK_b {κ : Nat} (h : κ < 3) : 4 ≤ oK κ ∧ oK κ ≤ 52 := by unfold oK; omega

/-! GET -/
def getP (q : Nat) (Vc Vm : Mm) : Prop := ∃ κ, κ < 3 ∧ Vc (89 + 9 * q) 2 = nI κ ∧ Named q Vc Vm (Vc (89 + 9 * q) 3) (Vc (89 + 9 * q) 4) ∧ eX6_doGet Vm = (eX6_takeIds (Vc (89 + 9 * q) 3) (Vc (89 + 9 * q) 4) Vm).bind fun r24 => eX6_doGet_b70 fu (nI κ) 0 r24
theorem get_check {q : Nat} {Vc Vm : Mm} (h : Ahead q Vc Vm) (hc : callRel Vc Vm q) (ht : Vm 5 q = 0) :
    (∃ r : Int32, r ≠ 0 ∧ eX5_refusalOf (89 + 9 * q) (nI q) Vc = some r ∧ eX6_doGet Vm = some (r, Vm)) ∨ (eX5_refusalOf (89 + 9 * q) (nI q) Vc = some 0 ∧ getP q Vc Vm) := by
  obtain ⟨g1, g2, g3⟩ := id h
  obtain ⟨t, t6, tc, tm, c0, -⟩ := hc
  have t0 : t = 0 := by
    rw [ht] at tm
    exact ((nI_eq (a := 0) (b := t) (by omega) (by omega)).mp tm).symm
  subst t0
  obtain ⟨f2, f3, f4⟩ := c0 (Or.inl rfl)
  have n0 : eX6_number 0 Vm = some (Vc (89 + 9 * q) 2) := by rw [f2]; exact num_n (k := 0) g1 g2 (by omega)
  have n1 : eX6_number 1 Vm = some (Vc (89 + 9 * q) 3) := by rw [f3]; exact num_n (k := 1) g1 g2 (by omega)
  have n2 : eX6_number 2 Vm = some (Vc (89 + 9 * q) 4) := by rw [f4]; exact num_n (k := 2) g1 g2 (by omega)
  have tc0 : Vc (89 + 9 * q) 1 = 0 := tc
  have ob : eX5_oneBeside (89 + 9 * q) Vc = some 0 := by
    unfold eX5_oneBeside
    rw [tc0, if_neg (by decide), if_neg (by decide)]
  unfold eX5_refusalOf eX5_isAsTold getP eX6_doGet
  simp only [n0, n1, n2, Option.bind_some, if_pos tc0]
  unfold eX5_isKind
  rw [within_x _ _ _ Vc Vm]
  rcases within_c (Vc (89 + 9 * q) 2) 0 2 Vm with ⟨w, -⟩ | ⟨w, w2, w3⟩
  · left
    refine ⟨-2, by decide, ?_, ?_⟩
    · rw [w]; rfl
    · rw [w]; rfl
  · obtain ⟨κ, hκ, eκ⟩ := btw (k := 2) (by omega) w2 w3
    rcases ids_check h (89 + 9 * q) with ⟨i1, i2⟩ | ⟨i1, i2, ⟨i3, i4⟩ | ⟨i3, i4, i5⟩⟩
    · left
      refine ⟨-2, by decide, ?_, ?_⟩
      · rw [w, i1]; rfl
      · rw [w, i2]; rfl
    · left
      refine ⟨-5, by decide, ?_, ?_⟩
      · rw [w, i1, dnh, i3]; rfl
      · rw [w, i2, i4]; rfl
    · right
      refine ⟨?_, κ, by omega, eκ, i5, ?_⟩
      · rw [w, i1, dnh, i3, ob]
        simp only [Option.bind_some, hold0, I10, I11, I00, false_or, true_or, or_true, if_true, if_false]
      · rw [w, i2, i4]
        simp only [Option.bind_some, I10, if_false]
        rw [eκ]
