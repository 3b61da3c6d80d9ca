
/-! MAKE of a box -/
theorem isDraft_n {q k : Nat} {Vm W : Mm} {lo hi : Int32} (hq : q < 12) (h21 : Vm 0 21 = nI q) (hk : k < 10) : eX6_isDraft (nI k) lo hi Vm = eX6_within (Vm 7 (10 * q + k)) lo hi W := by
  unfold eX6_isDraft
  rw [drafted_n hq h21 hk, Option.bind_some]
  rcases within_c (Vm 7 (10 * q + k)) lo hi Vm with ⟨g, -⟩ | ⟨g, -⟩
  · rw [within_y _ _ _ W Vm, g]; rfl
  · rw [within_y _ _ _ W Vm, g]; rfl
theorem draftW_n {a0 k : Nat} {V W : Mm} (hk : k < 10) : eX5_isDraftedWithin a0 (nI k) V = eX6_within (V (a0 + 1) k) 0 (topf k) W := by
  unfold eX5_isDraftedWithin
  simp (disch := omega) only [q0a, q0b, q0c, q0d, q0e, q0f, p0_l, p0_r, p0_s, q1a, q1b, q1c, q1d, q1e, q1f, p1_l, p1_r, p1_s, q2a, q2b, q2c, q2d, q2e, q2f, p2_l, p2_r, p2_s, q3a, q3b, q3c, q3d, q3e, q3f, p3_l, p3_r, p3_s, q4a, q4b, q4c, q4d, q4e, q4f, p4_l, p4_r, p4_s, p4_m, q5a, q5b, q5c, q5d, q5e, q5f, p5_l, p5_r, p5_s, p5_m, q6a, q6b, q6c, q6d, q6e, q6f, p6_l, p6_r, p6_s, q7a, q7b, q7c, q7d, q7e, q7f, p7_l, p7_r, p7_s, q8a, q8b, q8c, q8d, q8e, q8f, p8_l, p8_r, p8_s, q9a, q9b, q9c, q9d, q9e, q9f, p9_l, p9_r, p9_s, q10a, q10b, q10c, q10d, q10e, q10f, p10_l, p10_r, p10_s, p10_m, q11a, q11b, q11c, q11d, q11e, q11f, p11_l, p11_r, p11_s, q12a, q12b, q12c, q12d, q12e, q12f, p12_l, p12_r, p12_s, q15a, q15b, q15c, q15d, q15e, q15f, p15_l, p15_r, p15_s, q19a, q19b, q19c, q19d, q19e, q19f, p19_l, p19_r, p19_s, q20a, q20b, q20c, q20d, q20e, q20f, p20_l, p20_r, p20_s, q31a, q31b, q31c, q31d, q31e, q31f, p31_l, p31_r, p31_s, q40a, q40b, q40c, q40d, q40e, q40f, p40_l, p40_r, p40_s, q48a, q48b, q48c, q48d, q48e, q48f, p48_l, p48_r, p48_s, q50a, q50b, q50c, q50d, q50e, q50f, p50_l, p50_r, p50_s, p50_m, q52a, q52b, q52c, q52d, q52e, q52f, p52_l, p52_r, p52_s, q60a, q60b, q60c, q60d, q60e, q60f, p60_l, p60_r, p60_s, q63a, q63b, q63c, q63d, q63e, q63f, p63_l, p63_r, p63_s, q80a, q80b, q80c, q80d, q80e, q80f, p80_l, p80_r, p80_s, q99a, q99b, q99c, q99d, q99e, q99f, p99_l, p99_r, p99_s, q100a, q100b, q100c, q100d, q100e, q100f, p100_l, p100_r, p100_s, q120a, q120b, q120c, q120d, q120e, q120f, p120_l, p120_r, p120_s, q240a, q240b, q240c, q240d, q240e, q240f, p240_l, p240_r, p240_s, q243a, q243b, q243c, q243d, q243e, q243f, p243_l, p243_r, p243_s, q244a, q244b, q244c, q244d, q244e, q244f, p244_l, p244_r, p244_s, q580a, q580b, q580c, q580d, q580e, q580f, p580_l, p580_r, p580_s, q581a, q581b, q581c, q581d, q581e, q581f, p581_l, p581_r, p581_s, q582a, q582b, q582c, q582d, q582e, q582f, p582_l, p582_r, p582_s, q583a, q583b, q583c, q583d, q583e, q583f, p583_l, p583_r, p583_s, q584a, q584b, q584c, q584d, q584e, q584f, p584_l, p584_r, p584_s, q585a, q585b, q585c, q585d, q585e, q585f, p585_l, p585_r, p585_s, q586a, q586b, q586c, q586d, q586e, q586f, p586_l, p586_r, p586_s, q999a, q999b, q999c, q999d, q999e, q999f, p999_l, p999_r, p999_s, q1000a, q1000b, q1000c, q1000d, q1000e, q1000f, p1000_l, p1000_r, p1000_s, q2400a, q2400b, q2400c, q2400d, q2400e, q2400f, p2400_l, p2400_r, p2400_s, q9999a, q9999b, q9999c, q9999d, q9999e, q9999f, p9999_l, p9999_r, p9999_s, I00, I01, I10, I11, n_le, n_lt, n_eq, n_cl, n_add, n_ne9, n_ne1, if_true, if_false, Option.bind_some, if_pos, if_neg]
  rw [within_x _ _ _ V W]
  rcases within_c (V (a0 + 1) k) 0 (topf k) W with ⟨g, -⟩ | ⟨g, -⟩
  · rw [g]; rfl
  · rw [g]; rfl
/-- what MAKE told, of both worlds -/
def mkF (q : Nat) (Vc Vm : Mm) (κ : Int32) : Prop := Vc (89 + 9 * q) 1 = 3 ∧ Vc (89 + 9 * q) 2 = κ ∧ Vm 6 (5 * q) = κ ∧ Vc (89 + 9 * q) 3 = -1 ∧ Vc (89 + 9 * q) 4 = 0 ∧ Vc (89 + 9 * q) 6 = Vm 6 (5 * q + 1) ∧ ∀ j, j < 10 → Vc (89 + 9 * q + 1) j = Vm 7 (10 * q + j)
theorem mkF_n {q : Nat} {Vc Vm : Mm} (hc : callRel Vc Vm q) (ht : Vm 5 q = 3) : mkF q Vc Vm (Vm 6 (5 * q)) := by
  obtain ⟨t, t6, tc, tm, c0, c1, c2, c3, c4, c5⟩ := hc
  have t3 : t = 3 := by
    rw [ht] at tm
    exact ((nI_eq (a := 3) (b := t) (by omega) (by omega)).mp tm).symm
  subst t3
  obtain ⟨f2, f3, f4⟩ := c5 rfl
  obtain ⟨g3, g4⟩ := c2 (Or.inr (Or.inr rfl))
  exact ⟨tc, f2, rfl, g3, g4, f3, f4⟩
theorem fst_mk {q : Nat} {Vc Vm : Mm} {κ : Int32} (h : mkF q Vc Vm κ) : fstHold (89 + 9 * q) q Vc = some 1 := by
  unfold fstHold
  have hm : (-1 : Int32) < 0 := by decide
  rw [h.2.2.2.1, h.2.2.2.2.1, if_pos hm]
  exact hold0
theorem doMake_n {q : Nat} {Vm : Mm} (hq : q < 12) (h21 : Vm 0 21 = nI q) (ht : Vm 5 q = 3) : eX6_doCall Vm = (eX6_doMake Vm).bind fun r14 => some (r14.1, r14.2) := by
  unfold eX6_doCall
  rw [h21]
  simp (disch := omega) only [q0a, q0b, q0c, q0d, q0e, q0f, p0_l, p0_r, p0_s, q1a, q1b, q1c, q1d, q1e, q1f, p1_l, p1_r, p1_s, q2a, q2b, q2c, q2d, q2e, q2f, p2_l, p2_r, p2_s, q3a, q3b, q3c, q3d, q3e, q3f, p3_l, p3_r, p3_s, q4a, q4b, q4c, q4d, q4e, q4f, p4_l, p4_r, p4_s, p4_m, q5a, q5b, q5c, q5d, q5e, q5f, p5_l, p5_r, p5_s, p5_m, q6a, q6b, q6c, q6d, q6e, q6f, p6_l, p6_r, p6_s, q7a, q7b, q7c, q7d, q7e, q7f, p7_l, p7_r, p7_s, q8a, q8b, q8c, q8d, q8e, q8f, p8_l, p8_r, p8_s, q9a, q9b, q9c, q9d, q9e, q9f, p9_l, p9_r, p9_s, q10a, q10b, q10c, q10d, q10e, q10f, p10_l, p10_r, p10_s, p10_m, q11a, q11b, q11c, q11d, q11e, q11f, p11_l, p11_r, p11_s, q12a, q12b, q12c, q12d, q12e, q12f, p12_l, p12_r, p12_s, q15a, q15b, q15c, q15d, q15e, q15f, p15_l, p15_r, p15_s, q19a, q19b, q19c, q19d, q19e, q19f, p19_l, p19_r, p19_s, q20a, q20b, q20c, q20d, q20e, q20f, p20_l, p20_r, p20_s, q31a, q31b, q31c, q31d, q31e, q31f, p31_l, p31_r, p31_s, q40a, q40b, q40c, q40d, q40e, q40f, p40_l, p40_r, p40_s, q48a, q48b, q48c, q48d, q48e, q48f, p48_l, p48_r, p48_s, q50a, q50b, q50c, q50d, q50e, q50f, p50_l, p50_r, p50_s, p50_m, q52a, q52b, q52c, q52d, q52e, q52f, p52_l, p52_r, p52_s, q60a, q60b, q60c, q60d, q60e, q60f, p60_l, p60_r, p60_s, q63a, q63b, q63c, q63d, q63e, q63f, p63_l, p63_r, p63_s, q80a, q80b, q80c, q80d, q80e, q80f, p80_l, p80_r, p80_s, q99a, q99b, q99c, q99d, q99e, q99f, p99_l, p99_r, p99_s, q100a, q100b, q100c, q100d, q100e, q100f, p100_l, p100_r, p100_s, q120a, q120b, q120c, q120d, q120e, q120f, p120_l, p120_r, p120_s, q240a, q240b, q240c, q240d, q240e, q240f, p240_l, p240_r, p240_s, q243a, q243b, q243c, q243d, q243e, q243f, p243_l, p243_r, p243_s, q244a, q244b, q244c, q244d, q244e, q244f, p244_l, p244_r, p244_s, q580a, q580b, q580c, q580d, q580e, q580f, p580_l, p580_r, p580_s, q581a, q581b, q581c, q581d, q581e, q581f, p581_l, p581_r, p581_s, q582a, q582b, q582c, q582d, q582e, q582f, p582_l, p582_r, p582_s, q583a, q583b, q583c, q583d, q583e, q583f, p583_l, p583_r, p583_s, q584a, q584b, q584c, q584d, q584e, q584f, p584_l, p584_r, p584_s, q585a, q585b, q585c, q585d, q585e, q585f, p585_l, p585_r, p585_s, q586a, q586b, q586c, q586d, q586e, q586f, p586_l, p586_r, p586_s, q999a, q999b, q999c, q999d, q999e, q999f, p999_l, p999_r, p999_s, q1000a, q1000b, q1000c, q1000d, q1000e, q1000f, p1000_l, p1000_r, p1000_s, q2400a, q2400b, q2400c, q2400d, q2400e, q2400f, p2400_l, p2400_r, p2400_s, q9999a, q9999b, q9999c, q9999d, q9999e, q9999f, p9999_l, p9999_r, p9999_s, I00, I01, I10, I11, n_le, n_lt, n_eq, n_cl, n_add, n_ne9, n_ne1, if_true, if_false, Option.bind_some, if_pos, if_neg, ht]
  rfl
theorem some_pr {x : Option (Int32 × Mm)} : (x.bind fun r => some (r.1, r.2)) = x := by cases x <;> rfl
theorem dm_box {q : Nat} {Vc Vm : Mm} (hq : q < 12) (h21 : Vm 0 21 = nI q) (hk : Vm 6 (5 * q) = 0) : eX6_doMake Vm = eX6_makeBox Vm := by
  unfold eX6_doMake
  rw [show eX6_number 0 Vm = some (Vm 6 (5 * q)) from num_n (k := 0) hq h21 (by omega), hk]
  simp only [Option.bind_some]
  rw [show eX6_within 0 0 1 Vm = some 1 from rfl]
  simp only [Option.bind_some, I10, if_false, if_true]
  rw [some_pr]
theorem act_box {q : Nat} {Vc : Mm} (h1 : Vc (89 + 9 * q) 1 = 3) (h2 : Vc (89 + 9 * q) 2 = 0) : eX5_act (89 + 9 * q) (91 + 9 * q) Vc = eX5_makeBox (89 + 9 * q) (91 + 9 * q) Vc := by
  unfold eX5_act
  rw [h1, h2, if_neg (by decide), if_neg (by decide), if_neg (by decide), if_pos rfl, if_pos rfl, some_pr]
/-- the parent named: none, or one -/
def parN (x : Int32) (Vc Vm : Mm) (par : Int32) : Prop := (x = 1000 ∧ par = -9) ∨ (x ≠ 1000 ∧ eX6_isOne x Vm = some 1 ∧ eX5_idOf x Vc = some par ∧ eX6_oneOf x Vm = some par ∧ ∃ i, i < 2147483648 ∧ par = nI i)
theorem mb_check {q : Nat} {Vc Vm : Mm} (h : Ahead q Vc Vm) (hF : mkF q Vc Vm 0) :
    (∃ r : Int32, r ≠ 0 ∧ eX5_refusalOf (89 + 9 * q) (nI q) Vc = some r ∧ eX6_makeBox Vm = some (r, Vm)) ∨
    (eX5_refusalOf (89 + 9 * q) (nI q) Vc = some 0 ∧ ∃ par, parN (Vm 7 (10 * q + 1)) Vc Vm par ∧ eX5_parentOf (Vc (89 + 9 * q + 1) 1) Vc = some par ∧ eX6_makeBox Vm = eX6_makeBox_b79 (if Vm 7 (10 * q + 1) = 1000 then 0 else 1) par Vm) := by
  obtain ⟨g1, g2, g3⟩ := id h
  have hfst := fst_mk hF
  obtain ⟨f1, f2, -, f3, f4, f6, f7⟩ := hF
  have d0 : eX6_isDraft 0 0 99 Vm = eX6_within (Vm 7 (10 * q + 0)) 0 99 Vm := isDraft_n (k := 0) g1 g2 (by omega)
  have d2 : eX6_isDraft 2 0 9 Vm = eX6_within (Vm 7 (10 * q + 2)) 0 9 Vm := isDraft_n (k := 2) g1 g2 (by omega)
  have d1 : eX6_drafted 1 Vm = some (Vm 7 (10 * q + 1)) := drafted_n (k := 1) g1 g2 (by omega)
  have w0 : eX5_isDraftedWithin (89 + 9 * q) 0 Vc = eX6_within (Vm 7 (10 * q + 0)) 0 99 Vm := by rw [← f7 0 (by omega)]; exact draftW_n (k := 0) (by omega)
  have w2 : eX5_isDraftedWithin (89 + 9 * q) 2 Vc = eX6_within (Vm 7 (10 * q + 2)) 0 9 Vm := by rw [← f7 2 (by omega)]; exact draftW_n (k := 2) (by omega)
  have h3 : ¬ (3 : Int32) = 0 := by decide
  have h31 : ¬ (3 : Int32) = 1 := by decide
  have h32 : ¬ (3 : Int32) = 2 := by decide
  have hat : eX5_isAsTold (89 + 9 * q) Vc = (eX5_isDraftAsTold (89 + 9 * q) Vc).bind fun r34 => if r34 = 0 ∨ r34 = 1 then some r34 else none := by
    unfold eX5_isAsTold
    rw [f1, if_neg h3, if_neg h31, if_neg h32, if_pos rfl]
  have hob : eX5_oneBeside (89 + 9 * q) Vc = some (Vm 7 (10 * q + 1)) := by
    unfold eX5_oneBeside
    rw [f1, f2, if_pos rfl, if_pos rfl, f7 1 (by omega)]
  unfold eX5_refusalOf eX6_makeBox
  rw [hat, d0]
  unfold eX5_isDraftAsTold
  rw [f2, if_pos rfl, w0]
  rcases within_c (Vm 7 (10 * q + 0)) 0 99 Vm with ⟨a, -⟩ | ⟨a, -⟩
  · left
    exact ⟨-2, by decide, by rw [a]; rfl, by rw [a]; rfl⟩
  · rw [a]
    simp only [Option.bind_some, I10, I11, if_false, d2, w2]
    rcases within_c (Vm 7 (10 * q + 2)) 0 9 Vm with ⟨b, -⟩ | ⟨b, -⟩
    · left
      exact ⟨-2, by decide, by rw [b]; rfl, by rw [b]; rfl⟩
    · rw [b]
      simp only [Option.bind_some, I10, I11, if_false, if_true, or_true, d1]
      rw [dnh, hfst]
      simp only [Option.bind_some, I10, I11, if_false, if_true, hob]
      by_cases e : Vm 7 (10 * q + 1) = 1000
      · right
        rw [if_pos e, if_pos e, e]
        have : eX5_doesOneHold 1000 (nI q) Vc = some 1 := by
          unfold eX5_doesOneHold
          rw [if_pos (by decide)]
        rw [this]
        refine ⟨rfl, -9, Or.inl ⟨rfl, rfl⟩, ?_, ?_⟩
        · rw [f7 1 (by omega), e]; rfl
        · unfold eX6_makeBox_b41
          rw [if_pos rfl, if_pos rfl]
      · rw [if_neg e, if_neg e]
        unfold eX6_makeBox_b41
        rw [if_neg (by decide), if_neg (by decide), d1]
        simp only [Option.bind_some]
        rcases isOne_n h (Vm 7 (10 * q + 1)) with ⟨i1, i2⟩ | ⟨i1, i2, i, hi, i3, i4⟩
        · left
          exact ⟨-5, by decide, by rw [i1]; rfl, by rw [i2]; rfl⟩
        · right
          rw [i1, i2]
          refine ⟨rfl, nI i, Or.inr ⟨e, i2, i3, i4, i, hi, rfl⟩, ?_, ?_⟩
          · rw [f7 1 (by omega)]
            unfold eX5_parentOf
            rw [if_neg e, i3]; rfl
          · rw [i4]
            simp only [Option.bind_some, I10, if_false]
/-- the world with one box more -/
theorem newBox {V V' : Mm} {w w' : Nat → Int32} {nb nm nt : Nat} {name par ord : Int32} {d : Nat → Nat} {dp : Nat} (h : WRel V w nb nm nt) (hF : WF w nb nm nt) (h20 : nb < 20) (hd : dpt w nb d)
    (hpar : (par = -9 ∧ dp = 0) ∨ ∃ p, p < nb ∧ par = nI p ∧ w (4 * p) = 1 ∧ dp = d p) (hdp : dp < 4) (hname : ¬ nmdB w nb (-9) name par = true)
    (hw : ∀ k, k < 586 → k ≠ 580 → (k < 4 * nb ∨ 4 * nb + 4 ≤ k) → w' k = w k) (w580 : w' 580 = nI (nb + 1)) (v0 : w' (4 * nb) = 1) (v1 : w' (4 * nb + 1) = name) (v2 : w' (4 * nb + 2) = par) (v3 : w' (4 * nb + 3) = ord)
    (hk : ∀ k, 28 ≤ k → k ≤ 75 → V' k = V k) (h3 : V' 4 3 = V 4 3) (h4 : V' 4 4 = nI (nb + 1)) (h6 : V' 4 6 = V 4 6) (hc : ∀ c, c = 15 ∨ c = 6 ∨ c = 7 ∨ c = 8 → ∀ b, b ≠ nb → V' c b = V c b)
    (u0 : V' 15 nb = 1) (u1 : V' 6 nb = name) (u2 : V' 7 nb = par) (u3 : V' 8 nb = ord) : WRel V' w' (nb + 1) nm nt ∧ WF w' (nb + 1) nm nt := by
  have hwn := WRel_WN h
  have hm : ∀ k, 80 ≤ k → k < 586 → k ≠ 580 → w' k = w k := fun k a b c => hw k b c (by omega)
  have old : ∀ b c, b < nb → c < 4 → w' (4 * b + c) = w (4 * b + c) := fun b c hb hc => hw _ (by omega) (by omega) (by omega)
  have old0 : ∀ b, b < nb → w' (4 * b) = w (4 * b) := fun b hb => hw _ (by omega) (by omega) (by omega)
  constructor
  · refine WRel_box h hm w580 (by omega) hk h3 h4 h6 (fun b hb => ?_) (fun b hb hb2 => ?_)
    · by_cases e : b = nb
      · subst e
        exact ⟨by rw [u0, v0], by rw [u1, v1], by rw [u2, v2], by rw [u3, v3]⟩
      · have hb' : b < nb := by omega
        rw [hc 15 (by simp) b e, hc 6 (by simp) b e, hc 7 (by simp) b e, hc 8 (by simp) b e, old0 b hb', old b 1 hb' (by omega), old b 2 hb' (by omega), old b 3 hb' (by omega)]
        exact h.2.2.2.2.2.1 b hb'
    · rw [hc 15 (by simp) b (by omega)]
      exact h.2.2.2.2.2.2.1 b (by omega) hb2
  · obtain ⟨a1, a2, a3, a4, a5, a6, a7⟩ := id hF
    refine WF_box hF hwn.m50 (fun k a b => hm k a (by omega) (by omega)) (fun b hb => ?_) (fun b hb e1 => ?_) ⟨fun b => if b = nb then dp + 1 else d b, fun b hb e1 => ?_⟩ (fun b c hb hc2 hbc e1 e2 e3 => ?_) (fun b m hb e1 _ _ _ => ⟨by omega, by rw [old0 b hb]; exact e1⟩)
    · by_cases e : b = nb
      · subst e; exact Or.inr v0
      · rw [old0 b (by omega)]; exact a1 b (by omega)
    · by_cases e : b = nb
      · subst e
        rw [v2]
        rcases hpar with ⟨p1, -⟩ | ⟨p, p1, p2, p3, -⟩
        · exact Or.inl p1
        · exact Or.inr ⟨p, by omega, p2, by rw [old0 p p1]; exact p3⟩
      · have hb' : b < nb := by omega
        rw [old0 b hb'] at e1
        rw [old b 2 hb' (by omega)]
        rcases a2 b hb' e1 with p1 | ⟨p, p1, p2, p3⟩
        · exact Or.inl p1
        · exact Or.inr ⟨p, by omega, p2, by rw [old0 p p1]; exact p3⟩
    · dsimp only
      by_cases e : b = nb
      · subst e
        rw [if_pos rfl, v2]
        refine ⟨by omega, by omega, fun z => ?_, fun x hx z => ?_⟩
        · rcases hpar with ⟨p1, p2⟩ | ⟨p, p1, p2, p3, -⟩
          · omega
          · rw [p2] at z
            rw [n_ne9 (by omega)] at z
            exact z.elim
        · rcases hpar with ⟨p1, p2⟩ | ⟨p, p1, p2, p3, p4⟩
          · rw [p1] at z
            have z2 := z.symm
            rw [n_ne9 (by omega)] at z2
            exact z2.elim
          · rw [p2] at z
            have : p = x := (nI_eq (by omega) (by omega)).mp z
            subst this
            rw [if_neg (by omega), p4]
      · have hb' : b < nb := by omega
        rw [old0 b hb'] at e1
        rw [if_neg e, old b 2 hb' (by omega)]
        obtain ⟨q1, q2, q3, q4⟩ := hd b hb' e1
        refine ⟨q1, q2, q3, fun x hx z => ?_⟩
        rcases a2 b hb' e1 with p1 | ⟨p, p1, p2, p3⟩
        · rw [p1] at z
          have z2 := z.symm
          rw [n_ne9 (by omega)] at z2
          exact z2.elim
        · have hx' : p = x := by rw [p2] at z; exact (nI_eq (by omega) (by omega)).mp z
          subst hx'
          rw [if_neg (by omega)]
          exact q4 p p1 z
    · have key : ∀ c, c < nb → w (4 * c) = 1 → par = w (4 * c + 2) → name ≠ w (4 * c + 1) := by
        intro c hc3 k1 k2 k3
        apply hname
        refine nmdB_iff.mpr ⟨c, hc3, ?_, k1, k3.symm, k2.symm⟩
        intro z
        rw [n_ne9 (by omega)] at z
        exact z
      by_cases eb : b = nb
      · subst eb
        have hc' : c < b := by omega
        rw [old0 c hc'] at e2
        rw [v2, old c 2 hc' (by omega)] at e3
        rw [v1, old c 1 hc' (by omega)]
        exact key c hc' e2 e3
      · have hb' : b < nb := by omega
        rw [old0 b hb'] at e1
        by_cases ec : c = nb
        · subst ec
          rw [v2, old b 2 hb' (by omega)] at e3
          rw [v1, old b 1 hb' (by omega)]
          exact fun z => key b hb' e1 e3.symm z.symm
        · have hc' : c < nb := by omega
          rw [old0 c hc'] at e2
          rw [old b 2 hb' (by omega), old c 2 hc' (by omega)] at e3
          rw [old b 1 hb' (by omega), old c 1 hc' (by omega)]
          exact a4 b c hb' hc' hbc e1 e2 e3
