
/-! CHANGES: what became of an id between two states -/
def meetN (b x : Nat) : Nat := if b = 1 then (if x = 3 then 0 else 1) else x
def inR (K St Id : Nat → Nat) (κ id s t i : Nat) : Bool := decide (K i = κ ∧ Id i = id ∧ s < St i ∧ St i ≤ t)
def bec (K St Id Wh : Nat → Nat) (κ s t id : Nat) : Nat → Nat
  | 0 => 0
  | i + 1 => if inR K St Id κ id s t i then meetN (bec K St Id Wh κ s t id i) (Wh i) else bec K St Id Wh κ s t id i
def fsF (K St Id Wh : Nat → Nat) (κ s t id : Nat) : Nat → Nat
  | 0 => 0
  | i + 1 => if inR K St Id κ id s t i then (if fsF K St Id Wh κ s t id i = 0 then Wh i else fsF K St Id Wh κ s t id i) else fsF K St Id Wh κ s t id i
def lsF (K St Id Wh : Nat → Nat) (κ s t id : Nat) : Nat → Nat
  | 0 => 0
  | i + 1 => if inR K St Id κ id s t i then Wh i else lsF K St Id Wh κ s t id i
def twF (K St Id Wh : Nat → Nat) (κ s t id : Nat) : Nat → Nat
  | 0 => 0
  | i + 1 => if inR K St Id κ id s t i then (if Wh i = 2 then 1 else twF K St Id Wh κ s t id i) else twF K St Id Wh κ s t id i
def LG (V : Mm) (n : Nat) (K St Id Wh : Nat → Nat) : Prop := n ≤ 60 ∧ V 0 13 = nI n ∧ (∀ i, i < n → V 11 i = nI (K i) ∧ V 12 i = nI (St i) ∧ V 13 i = nI (Id i) ∧ V 14 i = nI (Wh i) ∧ K i < 3 ∧ St i < 100000 ∧ Id i < 50 ∧ 1 ≤ Wh i ∧ Wh i ≤ 3) ∧ ∀ i j, i < j → j < n → K i = K j → Id i = Id j → Wh i ≠ 3 ∧ Wh j ≠ 1
/-- the three folds and the one agree -/
def agree (K Id Wh : Nat → Nat) (κ id i b f l w : Nat) : Prop := (f = 0 ∧ b = 0 ∧ l = 0 ∧ w = 0) ∨ (1 ≤ f ∧ f ≤ 3 ∧ 1 ≤ l ∧ l ≤ 3 ∧ w ≤ 1 ∧ (l = 2 → w = 1) ∧ (l = 1 → f = 1) ∧ b = (if f = 1 then (if l = 3 then 0 else 1) else l) ∧ ∃ p, p < i ∧ K p = κ ∧ Id p = id ∧ Wh p = l)
theorem agree_n {V : Mm} {n κ s t id : Nat} {K St Id Wh : Nat → Nat} (h : LG V n K St Id Wh) : ∀ i, i ≤ n → agree K Id Wh κ id i (bec K St Id Wh κ s t id i) (fsF K St Id Wh κ s t id i) (lsF K St Id Wh κ s t id i) (twF K St Id Wh κ s t id i) := by
  obtain ⟨h60, hn, he, ho⟩ := h
  intro i
  induction i with
  | zero => intro _; left; exact ⟨rfl, rfl, rfl, rfl⟩
  | succ i ih =>
    intro hi
    have ih := ih (by omega)
    cases hr : inR K St Id κ id s t i
    · have e1 : bec K St Id Wh κ s t id (i + 1) = bec K St Id Wh κ s t id i := by
        show (if inR K St Id κ id s t i = true then _ else _) = _
        rw [hr]; rfl
      have e2 : fsF K St Id Wh κ s t id (i + 1) = fsF K St Id Wh κ s t id i := by
        show (if inR K St Id κ id s t i = true then _ else _) = _
        rw [hr]; rfl
      have e3 : lsF K St Id Wh κ s t id (i + 1) = lsF K St Id Wh κ s t id i := by
        show (if inR K St Id κ id s t i = true then _ else _) = _
        rw [hr]; rfl
      have e4 : twF K St Id Wh κ s t id (i + 1) = twF K St Id Wh κ s t id i := by
        show (if inR K St Id κ id s t i = true then _ else _) = _
        rw [hr]; rfl
      rw [e1, e2, e3, e4]
      rcases ih with g | ⟨g1, g2, g3, g4, g5, g6, g7, g8, p, p1, p2, p3, p4⟩
      · left; exact g
      · right; exact ⟨g1, g2, g3, g4, g5, g6, g7, g8, p, by omega, p2, p3, p4⟩
    · have e1 : bec K St Id Wh κ s t id (i + 1) = meetN (bec K St Id Wh κ s t id i) (Wh i) := by
        show (if inR K St Id κ id s t i = true then _ else _) = _
        rw [hr]; rfl
      have e2 : fsF K St Id Wh κ s t id (i + 1) = (if fsF K St Id Wh κ s t id i = 0 then Wh i else fsF K St Id Wh κ s t id i) := by
        show (if inR K St Id κ id s t i = true then _ else _) = _
        rw [hr]; rfl
      have e3 : lsF K St Id Wh κ s t id (i + 1) = Wh i := by
        show (if inR K St Id κ id s t i = true then _ else _) = _
        rw [hr]; rfl
      have e4 : twF K St Id Wh κ s t id (i + 1) = (if Wh i = 2 then 1 else twF K St Id Wh κ s t id i) := by
        show (if inR K St Id κ id s t i = true then _ else _) = _
        rw [hr]; rfl
      have hr2 := of_decide_eq_true hr
      obtain ⟨-, -, -, -, -, -, -, w1, w3⟩ := he i (by omega)
      rw [e1, e2, e3, e4]
      right
      rcases ih with ⟨g1, g2, g3, g4⟩ | ⟨g1, g2, g3, g4, g5, g6, g7, g8, p, p1, p2, p3, p4⟩
      · rw [g1, g2, g4, if_pos rfl]
        have hw : Wh i = 1 ∨ Wh i = 2 ∨ Wh i = 3 := by omega
        refine ⟨w1, w3, w1, w3, ?_, ?_, fun z => z, ?_, i, by omega, hr2.1, hr2.2.1, rfl⟩
        · split <;> omega
        · intro z; rw [if_pos z]
        · unfold meetN
          rcases hw with e | e | e <;> rw [e] <;> rfl
      · have hpo := ho p i p1 (by omega) (p2.trans hr2.1.symm) (p3.trans hr2.2.1.symm)
        have hl3 : lsF K St Id Wh κ s t id i ≠ 3 := fun z => hpo.1 (p4.trans z)
        have hw : Wh i = 2 ∨ Wh i = 3 := by have := hpo.2; omega
        rw [if_neg (show ¬ fsF K St Id Wh κ s t id i = 0 by omega), g8]
        refine ⟨g1, g2, w1, w3, ?_, ?_, fun z => by omega, ?_, i, by omega, hr2.1, hr2.2.1, rfl⟩
        · split <;> omega
        · intro z; rw [if_pos z]
        · unfold meetN
          by_cases hf : fsF K St Id Wh κ s t id i = 1
          · rw [if_pos hf, if_neg hl3, if_pos hf]
            rfl
          · rw [if_neg hf, if_neg hf]
            have : ¬ lsF K St Id Wh κ s t id i = 1 := fun z => hf (g7 z)
            rw [if_neg this]
theorem bec_le {V : Mm} {n κ s t id i : Nat} {K St Id Wh : Nat → Nat} (h : LG V n K St Id Wh) (hi : i ≤ n) : bec K St Id Wh κ s t id i ≤ 3 := by
  rcases agree_n (κ := κ) (s := s) (t := t) (id := id) h i hi with ⟨-, g, -⟩ | ⟨g1, g2, g3, g4, g5, g6, g7, g8, -⟩
  · omega
  · rw [g8]; split
    · split <;> omega
    · omega
theorem codes : ∀ f : Fin 4, ∀ l : Fin 4, ∀ w : Fin 2, (1 ≤ f.val ∧ 1 ≤ l.val ∧ (l.val = 2 → w.val = 1) ∧ (l.val = 1 → f.val = 1)) → ∀ V : Mm,
    ((if nI f.val = 0 then some 0 else if nI f.val = 1 then eX6_between_b142 (nI l.val) (nI w.val) 0 V else eX6_between_b142 (nI l.val) (nI w.val) 1 V).bind fun r => eX6_rowOf r V) = some (if (if f.val = 1 then (if l.val = 3 then 0 else 1) else l.val) = 0 then -9 else nI (if f.val = 1 then (if l.val = 3 then 0 else 1) else l.val)) := by
  intro f l w h V
  unfold eX6_between_b142 eX6_rowOf
  revert f l w
  decide
theorem between_b {V : Mm} {n κ s t id : Nat} {K St Id Wh : Nat → Nat} (h : LG V n K St Id Wh) (hκ : κ < 3) (hid : id < 50) (hs : s < 100000) (ht : t < 100000) :
    ∀ d f i, i + d = n → d < f → (eX6_between_b12 f (nI κ) (nI id) (nI s) (nI t) (nI (fsF K St Id Wh κ s t id i)) (nI (lsF K St Id Wh κ s t id i)) (nI (twF K St Id Wh κ s t id i)) (nI i) V).bind (fun r => eX6_rowOf r V) = some (if bec K St Id Wh κ s t id n = 0 then -9 else nI (bec K St Id Wh κ s t id n)) := by
  have ha := agree_n (κ := κ) (s := s) (t := t) (id := id) h
  have hh := h
  obtain ⟨h60, hn, he, ho⟩ := hh
  intro d
  induction d with
  | zero =>
    intro f i hi hf
    obtain ⟨f, rfl⟩ : ∃ f', f = f' + 1 := ⟨f - 1, by omega⟩
    have : i = n := by omega
    subst this
    rw [eX6_between_b12, hn]
    simp (disch := omega) only [q0e, n_le, Nat.le_refl, if_true]
    rcases ha i (Nat.le_refl _) with ⟨g1, g2, g3, g4⟩ | ⟨g1, g2, g3, g4, g5, g6, g7, g8, -⟩
    · rw [g1, g2]
      rfl
    · rw [g8]
      have := codes ⟨fsF K St Id Wh κ s t id i, by omega⟩ ⟨lsF K St Id Wh κ s t id i, by omega⟩ ⟨twF K St Id Wh κ s t id i, by omega⟩ ⟨g1, g3, g6, g7⟩ V
      exact this
  | succ d ih =>
    intro f i hi hf
    obtain ⟨f, rfl⟩ : ∃ f', f = f' + 1 := ⟨f - 1, by omega⟩
    obtain ⟨k1, k2, k3, k4, k5, k6, k7, k8, k9⟩ := he i (by omega)
    have e1 := ih f (i + 1) (by omega) (by omega)
    rw [eX6_between_b12, hn]
    cases hr : inR K St Id κ id s t i
    · have e2 : fsF K St Id Wh κ s t id (i + 1) = fsF K St Id Wh κ s t id i := by
        show (if inR K St Id κ id s t i = true then _ else _) = _
        rw [hr]; rfl
      have e3 : lsF K St Id Wh κ s t id (i + 1) = lsF K St Id Wh κ s t id i := by
        show (if inR K St Id κ id s t i = true then _ else _) = _
        rw [hr]; rfl
      have e4 : twF K St Id Wh κ s t id (i + 1) = twF K St Id Wh κ s t id i := by
        show (if inR K St Id κ id s t i = true then _ else _) = _
        rw [hr]; rfl
      rw [e2, e3, e4] at e1
      have hr2 := of_decide_eq_false hr
      simp (disch := omega) only [q0a, q0b, q0c, q0d, q0e, q0f, p0_l, p0_r, p0_s, q1a, q1b, q1c, q1d, q1e, q1f, p1_l, p1_r, p1_s, q2a, q2b, q2c, q2d, q2e, q2f, p2_l, p2_r, p2_s, q3a, q3b, q3c, q3d, q3e, q3f, p3_l, p3_r, p3_s, q4a, q4b, q4c, q4d, q4e, q4f, p4_l, p4_r, p4_s, p4_m, q5a, q5b, q5c, q5d, q5e, q5f, p5_l, p5_r, p5_s, p5_m, q6a, q6b, q6c, q6d, q6e, q6f, p6_l, p6_r, p6_s, q7a, q7b, q7c, q7d, q7e, q7f, p7_l, p7_r, p7_s, q8a, q8b, q8c, q8d, q8e, q8f, p8_l, p8_r, p8_s, q9a, q9b, q9c, q9d, q9e, q9f, p9_l, p9_r, p9_s, q10a, q10b, q10c, q10d, q10e, q10f, p10_l, p10_r, p10_s, p10_m, q11a, q11b, q11c, q11d, q11e, q11f, p11_l, p11_r, p11_s, q12a, q12b, q12c, q12d, q12e, q12f, p12_l, p12_r, p12_s, q15a, q15b, q15c, q15d, q15e, q15f, p15_l, p15_r, p15_s, q19a, q19b, q19c, q19d, q19e, q19f, p19_l, p19_r, p19_s, q20a, q20b, q20c, q20d, q20e, q20f, p20_l, p20_r, p20_s, q31a, q31b, q31c, q31d, q31e, q31f, p31_l, p31_r, p31_s, q40a, q40b, q40c, q40d, q40e, q40f, p40_l, p40_r, p40_s, q48a, q48b, q48c, q48d, q48e, q48f, p48_l, p48_r, p48_s, q50a, q50b, q50c, q50d, q50e, q50f, p50_l, p50_r, p50_s, p50_m, q52a, q52b, q52c, q52d, q52e, q52f, p52_l, p52_r, p52_s, q60a, q60b, q60c, q60d, q60e, q60f, p60_l, p60_r, p60_s, q63a, q63b, q63c, q63d, q63e, q63f, p63_l, p63_r, p63_s, q80a, q80b, q80c, q80d, q80e, q80f, p80_l, p80_r, p80_s, q99a, q99b, q99c, q99d, q99e, q99f, p99_l, p99_r, p99_s, q100a, q100b, q100c, q100d, q100e, q100f, p100_l, p100_r, p100_s, q120a, q120b, q120c, q120d, q120e, q120f, p120_l, p120_r, p120_s, q240a, q240b, q240c, q240d, q240e, q240f, p240_l, p240_r, p240_s, q243a, q243b, q243c, q243d, q243e, q243f, p243_l, p243_r, p243_s, q244a, q244b, q244c, q244d, q244e, q244f, p244_l, p244_r, p244_s, q580a, q580b, q580c, q580d, q580e, q580f, p580_l, p580_r, p580_s, q581a, q581b, q581c, q581d, q581e, q581f, p581_l, p581_r, p581_s, q582a, q582b, q582c, q582d, q582e, q582f, p582_l, p582_r, p582_s, q583a, q583b, q583c, q583d, q583e, q583f, p583_l, p583_r, p583_s, q584a, q584b, q584c, q584d, q584e, q584f, p584_l, p584_r, p584_s, q585a, q585b, q585c, q585d, q585e, q585f, p585_l, p585_r, p585_s, q586a, q586b, q586c, q586d, q586e, q586f, p586_l, p586_r, p586_s, q999a, q999b, q999c, q999d, q999e, q999f, p999_l, p999_r, p999_s, q1000a, q1000b, q1000c, q1000d, q1000e, q1000f, p1000_l, p1000_r, p1000_s, q2400a, q2400b, q2400c, q2400d, q2400e, q2400f, p2400_l, p2400_r, p2400_s, q9999a, q9999b, q9999c, q9999d, q9999e, q9999f, p9999_l, p9999_r, p9999_s, I00, I01, I10, I11, n_le, n_lt, n_eq, n_cl, n_add, n_ne9, n_ne1, if_true, if_false, Option.bind_some, if_pos, if_neg, k1, k2, k3, k4]
      by_cases c1 : K i = κ
      · rw [if_pos c1]
        by_cases c2 : Id i = id
        · rw [if_pos c2]
          by_cases c3 : St i ≤ s
          · rw [if_pos c3]; exact e1
          · rw [if_neg c3]
            first | exact e1 | (rw [if_neg (fun z => hr2 ⟨c1, c2, by omega, z⟩)]; exact e1)
        · rw [if_neg c2]; exact e1
      · rw [if_neg c1]; exact e1
    · have e2 : fsF K St Id Wh κ s t id (i + 1) = (if fsF K St Id Wh κ s t id i = 0 then Wh i else fsF K St Id Wh κ s t id i) := by
        show (if inR K St Id κ id s t i = true then _ else _) = _
        rw [hr]; rfl
      have e3 : lsF K St Id Wh κ s t id (i + 1) = Wh i := by
        show (if inR K St Id κ id s t i = true then _ else _) = _
        rw [hr]; rfl
      have e4 : twF K St Id Wh κ s t id (i + 1) = (if Wh i = 2 then 1 else twF K St Id Wh κ s t id i) := by
        show (if inR K St Id κ id s t i = true then _ else _) = _
        rw [hr]; rfl
      rw [e2, e3, e4] at e1
      obtain ⟨r1, r2, r3, r4⟩ := of_decide_eq_true hr
      have hfs : fsF K St Id Wh κ s t id i ≤ 3 ∧ twF K St Id Wh κ s t id i ≤ 1 := by
        rcases ha i (by omega) with ⟨g1, g2, g3, g4⟩ | ⟨g1, g2, g3, g4, g5, -⟩ <;> omega
      have eor1 : nI (twF K St Id Wh κ s t id i) ||| 1 = nI 1 := by
        have : twF K St Id Wh κ s t id i = 0 ∨ twF K St Id Wh κ s t id i = 1 := by omega
        rcases this with e | e <;> rw [e] <;> decide
      have eor0 : nI (twF K St Id Wh κ s t id i) ||| 0 = nI (twF K St Id Wh κ s t id i) := by
        have : twF K St Id Wh κ s t id i = 0 ∨ twF K St Id Wh κ s t id i = 1 := by omega
        rcases this with e | e <;> rw [e] <;> decide
      unfold eX6_between_b86
      simp (disch := omega) only [q0a, q0b, q0c, q0d, q0e, q0f, p0_l, p0_r, p0_s, q1a, q1b, q1c, q1d, q1e, q1f, p1_l, p1_r, p1_s, q2a, q2b, q2c, q2d, q2e, q2f, p2_l, p2_r, p2_s, q3a, q3b, q3c, q3d, q3e, q3f, p3_l, p3_r, p3_s, q4a, q4b, q4c, q4d, q4e, q4f, p4_l, p4_r, p4_s, p4_m, q5a, q5b, q5c, q5d, q5e, q5f, p5_l, p5_r, p5_s, p5_m, q6a, q6b, q6c, q6d, q6e, q6f, p6_l, p6_r, p6_s, q7a, q7b, q7c, q7d, q7e, q7f, p7_l, p7_r, p7_s, q8a, q8b, q8c, q8d, q8e, q8f, p8_l, p8_r, p8_s, q9a, q9b, q9c, q9d, q9e, q9f, p9_l, p9_r, p9_s, q10a, q10b, q10c, q10d, q10e, q10f, p10_l, p10_r, p10_s, p10_m, q11a, q11b, q11c, q11d, q11e, q11f, p11_l, p11_r, p11_s, q12a, q12b, q12c, q12d, q12e, q12f, p12_l, p12_r, p12_s, q15a, q15b, q15c, q15d, q15e, q15f, p15_l, p15_r, p15_s, q19a, q19b, q19c, q19d, q19e, q19f, p19_l, p19_r, p19_s, q20a, q20b, q20c, q20d, q20e, q20f, p20_l, p20_r, p20_s, q31a, q31b, q31c, q31d, q31e, q31f, p31_l, p31_r, p31_s, q40a, q40b, q40c, q40d, q40e, q40f, p40_l, p40_r, p40_s, q48a, q48b, q48c, q48d, q48e, q48f, p48_l, p48_r, p48_s, q50a, q50b, q50c, q50d, q50e, q50f, p50_l, p50_r, p50_s, p50_m, q52a, q52b, q52c, q52d, q52e, q52f, p52_l, p52_r, p52_s, q60a, q60b, q60c, q60d, q60e, q60f, p60_l, p60_r, p60_s, q63a, q63b, q63c, q63d, q63e, q63f, p63_l, p63_r, p63_s, q80a, q80b, q80c, q80d, q80e, q80f, p80_l, p80_r, p80_s, q99a, q99b, q99c, q99d, q99e, q99f, p99_l, p99_r, p99_s, q100a, q100b, q100c, q100d, q100e, q100f, p100_l, p100_r, p100_s, q120a, q120b, q120c, q120d, q120e, q120f, p120_l, p120_r, p120_s, q240a, q240b, q240c, q240d, q240e, q240f, p240_l, p240_r, p240_s, q243a, q243b, q243c, q243d, q243e, q243f, p243_l, p243_r, p243_s, q244a, q244b, q244c, q244d, q244e, q244f, p244_l, p244_r, p244_s, q580a, q580b, q580c, q580d, q580e, q580f, p580_l, p580_r, p580_s, q581a, q581b, q581c, q581d, q581e, q581f, p581_l, p581_r, p581_s, q582a, q582b, q582c, q582d, q582e, q582f, p582_l, p582_r, p582_s, q583a, q583b, q583c, q583d, q583e, q583f, p583_l, p583_r, p583_s, q584a, q584b, q584c, q584d, q584e, q584f, p584_l, p584_r, p584_s, q585a, q585b, q585c, q585d, q585e, q585f, p585_l, p585_r, p585_s, q586a, q586b, q586c, q586d, q586e, q586f, p586_l, p586_r, p586_s, q999a, q999b, q999c, q999d, q999e, q999f, p999_l, p999_r, p999_s, q1000a, q1000b, q1000c, q1000d, q1000e, q1000f, p1000_l, p1000_r, p1000_s, q2400a, q2400b, q2400c, q2400d, q2400e, q2400f, p2400_l, p2400_r, p2400_s, q9999a, q9999b, q9999c, q9999d, q9999e, q9999f, p9999_l, p9999_r, p9999_s, I00, I01, I10, I11, n_le, n_lt, n_eq, n_cl, n_add, n_ne9, n_ne1, if_true, if_false, Option.bind_some, if_pos, if_neg, k1, k2, k3, k4, eor0, eor1]
      by_cases c2 : Wh i = 2
      · rw [if_pos c2] at e1
        by_cases c1 : fsF K St Id Wh κ s t id i = 0
        · rw [if_pos c1] at e1
          rw [if_pos c1, if_pos c2]; exact e1
        · rw [if_neg c1] at e1
          rw [if_neg c1, if_pos c2]; exact e1
      · rw [if_neg c2] at e1
        by_cases c1 : fsF K St Id Wh κ s t id i = 0
        · rw [if_pos c1] at e1
          rw [if_pos c1, if_neg c2]; exact e1
        · rw [if_neg c1] at e1
          rw [if_neg c1, if_neg c2]; exact e1
theorem between_n {V : Mm} {n κ s t id : Nat} {K St Id Wh : Nat → Nat} (h : LG V n K St Id Wh) (hκ : κ < 3) (hid : id < 50) (hs : s < 100000) (ht : t < 100000) :
    (eX6_between (nI κ) (nI id) (nI s) (nI t) V).bind (fun r => eX6_rowOf r V) = some (if bec K St Id Wh κ s t id n = 0 then -9 else nI (bec K St Id Wh κ s t id n)) := by
  have h60 := h.1
  exact between_b h hκ hid hs ht n fu 0 (by omega) (by unfold fu; omega)
