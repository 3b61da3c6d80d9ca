
/-! the tree of boxes -/
def subN (w : Nat → Int32) (x : Nat) : Nat → Nat → Bool
  | 0, _ => false
  | f + 1, y => if y = x then true else if w (4 * y + 2) = -9 then false else subN w x f (w (4 * y + 2)).toNatClampNeg
theorem subN_fuel {w : Nat → Int32} {nb x : Nat} {d : Nat → Nat} (h20 : nb ≤ 20) (hp : parOK w nb) (hd : dpt w nb d) : ∀ D y f g, y < nb → w (4 * y) = 1 → d y = D → D ≤ f → D ≤ g → subN w x f y = subN w x g y := by
  intro D
  induction D with
  | zero => intro y f g hy h1 e; have := (hd y hy h1).1; omega
  | succ D ih =>
    intro y f g hy h1 e hf hg
    obtain ⟨f, rfl⟩ : ∃ f', f = f' + 1 := ⟨f - 1, by omega⟩
    obtain ⟨g, rfl⟩ : ∃ g', g = g' + 1 := ⟨g - 1, by omega⟩
    rw [subN, subN]
    by_cases ex : y = x
    · rw [if_pos ex, if_pos ex]
    · rw [if_neg ex, if_neg ex]
      rcases hp y hy h1 with r | ⟨q, hq, r, hq1⟩
      · rw [if_pos r, if_pos r]
      · have h9 : ¬ w (4 * y + 2) = -9 := by rw [r, n_ne9 (by omega)]; exact id
        rw [if_neg h9, if_neg h9, r, n_cl (by omega)]
        have := (hd y hy h1).2.2.2 q hq r
        exact ih q f g hq hq1 (by omega) (by omega) (by omega)
def subOK (w : Nat → Int32) (nb x : Nat) (S : Nat → Bool) : Prop := S x = true ∧ ∀ y, y < nb → w (4 * y) = 1 → y ≠ x → (w (4 * y + 2) = -9 → S y = false) ∧ ∀ q, q < nb → w (4 * y + 2) = nI q → S y = S q
theorem sub_ex {w : Nat → Int32} {nb x : Nat} {d : Nat → Nat} (h20 : nb ≤ 20) (hp : parOK w nb) (hd : dpt w nb d) : ∃ S, subOK w nb x S := by
  refine ⟨subN w x 4, ?_, fun y hy h1 hx => ⟨fun r => ?_, fun q hq r => ?_⟩⟩
  · rw [subN, if_pos rfl]
  · rw [subN, if_neg hx, if_pos r]
  · have h9 : ¬ w (4 * y + 2) = -9 := by rw [r, n_ne9 (by omega)]; exact id
    rw [show subN w x 4 y = subN w x (3 + 1) y from rfl, subN, if_neg hx, if_neg h9, r, n_cl (by omega)]
    have e := (hd y hy h1).2.2.2 q hq r
    have e4 := (hd y hy h1).2.1
    have hq1 : w (4 * q) = 1 := by
      rcases hp y hy h1 with z | ⟨q2, a, b, c⟩
      · exact absurd z h9
      · rw [r] at b
        have := (nI_eq (by omega) (by omega)).mp b
        subst this
        exact c
    exact subN_fuel h20 hp hd (d q) q 3 4 hq hq1 rfl (by omega) (by omega)
/-- those under x lie no higher -/
theorem sub_d {w : Nat → Int32} {nb x : Nat} {d : Nat → Nat} {S : Nat → Bool} (hp : parOK w nb) (hd : dpt w nb d) (hS : subOK w nb x S) : ∀ D y, y < nb → w (4 * y) = 1 → d y = D → S y = true → d x ≤ D ∧ (y ≠ x → d x < D) := by
  intro D
  induction D with
  | zero => intro y hy h1 e; have := (hd y hy h1).1; omega
  | succ D ih =>
    intro y hy h1 e hs
    by_cases ex : y = x
    · subst ex; exact ⟨by omega, fun z => absurd rfl z⟩
    · obtain ⟨a, b⟩ := hS.2 y hy h1 ex
      rcases hp y hy h1 with r | ⟨q, hq, r, hq1⟩
      · rw [a r] at hs; cases hs
      · have h := (hd y hy h1).2.2.2 q hq r
        rw [b q hq r] at hs
        have := (ih q hq hq1 (by omega) hs).1
        exact ⟨by omega, fun _ => by omega⟩
/-- the way up of the model's change: does it meet x -/
def finM (x u v par name : Int32) (V : Mm) : Option (Int32 × Mm) := if par = -9 then (eX6_under 1 x V).bind fun r26 => if ((1 + 0) + r26) ≤ 4 then eX6_changeBox_b154 x u v par name V else some ((-3), V) else (eX6_deep 1 par V).bind fun r21 => (eX6_under 1 x V).bind fun r23 => if ((1 + r21) + r23) ≤ 4 then eX6_changeBox_b154 x u v par name V else some ((-3), V)
theorem way_m {V : Mm} {nb nm nt x : Nat} {d : Nat → Nat} {S : Nat → Bool} {u v par name : Int32} (hw : WN (V 1) nb nm nt) (hp : parOK (V 1) nb) (hd : dpt (V 1) nb d) (hS : subOK (V 1) nb x S) (hx : x < nb) : ∀ D y f, y < nb → V 1 (4 * y) = 1 → d y = D → D + 1 < f →
    eX6_changeBox_b82 f (nI x) u v par name (nI y) V = if S y = true then some (-3, V) else finM (nI x) u v par name V := by
  have h20 := hw.b20
  intro D
  induction D with
  | zero => intro y f hy h1 e; have := (hd y hy h1).1; omega
  | succ D ih =>
    intro y f hy h1 e hf
    obtain ⟨f, rfl⟩ : ∃ f', f = f' + 1 := ⟨f - 1, by omega⟩
    have h9y : ¬ nI y = -9 := by rw [n_ne9 (by omega)]; exact id
    rw [eX6_changeBox_b82, if_neg h9y]
    by_cases ex : y = x
    · subst ex
      rw [if_pos rfl, if_pos hS.1]
    · have hne : ¬ nI y = nI x := fun z => ex ((nI_eq (by omega) (by omega)).mp z)
      have e2 : eX6_boxPart 1 (nI y) 2 V = some (V 1 (4 * y + 2)) := boxPart_n (c := 2) (by omega) (by omega)
      rw [if_neg hne, e2, Option.bind_some]
      obtain ⟨a, b⟩ := hS.2 y hy h1 ex
      rcases hp y hy h1 with r | ⟨q, hq, r, hq1⟩
      · obtain ⟨f, rfl⟩ : ∃ f', f = f' + 1 := ⟨f - 1, by omega⟩
        rw [r, a r, eX6_changeBox_b82, if_pos rfl]
        rfl
      · have h := (hd y hy h1).2.2.2 q hq r
        rw [r, b q hq r]
        exact ih q f hq hq1 (by omega) (by omega)
/-- how far down it goes under x -/
def um (w : Nat → Int32) (S : Nat → Bool) (d : Nat → Nat) (x : Nat) : Nat → Nat
  | 0 => 0
  | j + 1 => if w (4 * j) = 1 ∧ S j = true then max (um w S d x j) (d j - d x) else um w S d x j
theorem um_ge {w : Nat → Int32} {S : Nat → Bool} {d : Nat → Nat} {x : Nat} : ∀ n y, y < n → w (4 * y) = 1 → S y = true → d y - d x ≤ um w S d x n := by
  intro n
  induction n with
  | zero => intro y hy; omega
  | succ n ih =>
    intro y hy h1 hs
    rw [um]
    by_cases e : y = n
    · subst e; rw [if_pos ⟨h1, hs⟩]; omega
    · have := ih y (by omega) h1 hs
      split
      · omega
      · exact this
theorem um_ex {w : Nat → Int32} {S : Nat → Bool} {d : Nat → Nat} {x : Nat} : ∀ n, um w S d x n = 0 ∨ ∃ y, y < n ∧ w (4 * y) = 1 ∧ S y = true ∧ um w S d x n = d y - d x := by
  intro n
  induction n with
  | zero => exact Or.inl rfl
  | succ n ih =>
    rw [um]
    by_cases c : w (4 * n) = 1 ∧ S n = true
    · rw [if_pos c]
      by_cases g : um w S d x n ≤ d n - d x
      · exact Or.inr ⟨n, by omega, c.1, c.2, by omega⟩
      · rcases ih with z | ⟨y, a, b, e, f⟩
        · omega
        · exact Or.inr ⟨y, by omega, b, e, by omega⟩
    · rw [if_neg c]
      rcases ih with z | ⟨y, a, b, e, f⟩
      · exact Or.inl z
      · exact Or.inr ⟨y, by omega, b, e, f⟩
theorem um_le {w : Nat → Int32} {S : Nat → Bool} {d : Nat → Nat} {nb x : Nat} (hd : dpt w nb d) : ∀ n, n ≤ nb → um w S d x n ≤ 4 := by
  intro n hn
  rcases um_ex (w := w) (S := S) (d := d) (x := x) n with z | ⟨y, a, b, e, f⟩
  · omega
  · have := (hd y (by omega) b).2.1; omega
theorem under_in {V : Mm} {nb nm nt x M y0 : Nat} {d : Nat → Nat} {S : Nat → Bool} {k5 : Nat → Int32 → Int32 → Int32 → Mm → Option Int32} (hw : WN (V 1) nb nm nt) (hp : parOK (V 1) nb) (hd : dpt (V 1) nb d) (hS : subOK (V 1) nb x S) (hx : x < nb) (hM : M ≤ 4) :
    ∀ D y f n, y < nb → V 1 (4 * y) = 1 → d y = D → D + 1 < f → n + D ≤ 4 → eX6_under_b35 k5 f 1 (nI x) (nI M) (nI y0) (nI n) (nI y) V = if S y = true then k5 1 (nI x) (nI (max M (n + D - d x))) (nI (y0 + 1)) V else k5 1 (nI x) (nI M) (nI (y0 + 1)) V := by
  have h20 := hw.b20
  have hy0 : nI y0 + 1 = nI (y0 + 1) := n_add y0 1
  have hxn : ¬ (-9 : Int32) = nI x := fun z => by
    have z2 := z.symm
    rw [n_ne9 (by omega)] at z2
    exact z2
  intro D
  induction D with
  | zero => intro y f n hy h1 e; have := (hd y hy h1).1; omega
  | succ D ih =>
    intro y f n hy h1 e hf hn
    obtain ⟨f, rfl⟩ : ∃ f', f = f' + 1 := ⟨f - 1, by omega⟩
    have h9y : ¬ nI y = -9 := by rw [n_ne9 (by omega)]; exact id
    rw [eX6_under_b35, if_neg h9y]
    by_cases ex : y = x
    · subst ex
      rw [if_pos rfl, if_pos rfl, if_pos hS.1, e]
      by_cases g : n ≤ M
      · rw [if_pos (by rw [n_le (by omega) (by omega)]; exact g), show max M (n + (D + 1) - (D + 1)) = M by omega, hy0]
      · rw [if_neg (by rw [n_le (by omega) (by omega)]; exact g), show max M (n + (D + 1) - (D + 1)) = n by omega, hy0]
    · have hne : ¬ nI y = nI x := fun z => ex ((nI_eq (by omega) (by omega)).mp z)
      have e2 : eX6_boxPart 1 (nI y) 2 V = some (V 1 (4 * y + 2)) := boxPart_n (c := 2) (by omega) (by omega)
      rw [if_neg hne, e2, Option.bind_some]
      obtain ⟨a, b⟩ := hS.2 y hy h1 ex
      rw [show nI n + 1 = nI (n + 1) from n_add n 1]
      rcases hp y hy h1 with r | ⟨q, hq, r, hq1⟩
      · obtain ⟨f, rfl⟩ : ∃ f', f = f' + 1 := ⟨f - 1, by omega⟩
        rw [r, a r, eX6_under_b35, if_pos rfl, if_neg hxn, hy0]
        rfl
      · have h := (hd y hy h1).2.2.2 q hq r
        rw [r, b q hq r, ih q f (n + 1) hq hq1 (by omega) (by omega) (by omega), show n + 1 + D - d x = n + (D + 1) - d x by omega]
theorem under_b {V : Mm} {nb nm nt x : Nat} {d : Nat → Nat} {S : Nat → Bool} (hw : WN (V 1) nb nm nt) (hp : parOK (V 1) nb) (hd : dpt (V 1) nb d) (hS : subOK (V 1) nb x S) (hx : x < nb) :
    ∀ e f j, j + e = nb → e < f → eX6_under_b5 f 1 (nI x) (nI (um (V 1) S d x j)) (nI j) V = some (nI (um (V 1) S d x nb)) := by
  have h20 := hw.b20
  intro e
  induction e with
  | zero =>
    intro f j hj hf
    obtain ⟨f, rfl⟩ : ∃ f', f = f' + 1 := ⟨f - 1, by omega⟩
    have : j = nb := by omega
    subst this
    rw [eX6_under_b5, hw.eb]
    simp (disch := omega) only [q0a, q0b, q0c, q0d, q0e, q0f, p0_l, p0_r, p0_s, q1a, q1b, q1c, q1d, q1e, q1f, p1_l, p1_r, p1_s, q2a, q2b, q2c, q2d, q2e, q2f, p2_l, p2_r, p2_s, q3a, q3b, q3c, q3d, q3e, q3f, p3_l, p3_r, p3_s, q4a, q4b, q4c, q4d, q4e, q4f, p4_l, p4_r, p4_s, p4_m, q5a, q5b, q5c, q5d, q5e, q5f, p5_l, p5_r, p5_s, p5_m, q6a, q6b, q6c, q6d, q6e, q6f, p6_l, p6_r, p6_s, q7a, q7b, q7c, q7d, q7e, q7f, p7_l, p7_r, p7_s, q8a, q8b, q8c, q8d, q8e, q8f, p8_l, p8_r, p8_s, q9a, q9b, q9c, q9d, q9e, q9f, p9_l, p9_r, p9_s, q10a, q10b, q10c, q10d, q10e, q10f, p10_l, p10_r, p10_s, p10_m, q11a, q11b, q11c, q11d, q11e, q11f, p11_l, p11_r, p11_s, q12a, q12b, q12c, q12d, q12e, q12f, p12_l, p12_r, p12_s, q15a, q15b, q15c, q15d, q15e, q15f, p15_l, p15_r, p15_s, q19a, q19b, q19c, q19d, q19e, q19f, p19_l, p19_r, p19_s, q20a, q20b, q20c, q20d, q20e, q20f, p20_l, p20_r, p20_s, q31a, q31b, q31c, q31d, q31e, q31f, p31_l, p31_r, p31_s, q40a, q40b, q40c, q40d, q40e, q40f, p40_l, p40_r, p40_s, q48a, q48b, q48c, q48d, q48e, q48f, p48_l, p48_r, p48_s, q50a, q50b, q50c, q50d, q50e, q50f, p50_l, p50_r, p50_s, p50_m, q52a, q52b, q52c, q52d, q52e, q52f, p52_l, p52_r, p52_s, q60a, q60b, q60c, q60d, q60e, q60f, p60_l, p60_r, p60_s, q63a, q63b, q63c, q63d, q63e, q63f, p63_l, p63_r, p63_s, q80a, q80b, q80c, q80d, q80e, q80f, p80_l, p80_r, p80_s, q99a, q99b, q99c, q99d, q99e, q99f, p99_l, p99_r, p99_s, q100a, q100b, q100c, q100d, q100e, q100f, p100_l, p100_r, p100_s, q120a, q120b, q120c, q120d, q120e, q120f, p120_l, p120_r, p120_s, q240a, q240b, q240c, q240d, q240e, q240f, p240_l, p240_r, p240_s, q243a, q243b, q243c, q243d, q243e, q243f, p243_l, p243_r, p243_s, q244a, q244b, q244c, q244d, q244e, q244f, p244_l, p244_r, p244_s, q580a, q580b, q580c, q580d, q580e, q580f, p580_l, p580_r, p580_s, q581a, q581b, q581c, q581d, q581e, q581f, p581_l, p581_r, p581_s, q582a, q582b, q582c, q582d, q582e, q582f, p582_l, p582_r, p582_s, q583a, q583b, q583c, q583d, q583e, q583f, p583_l, p583_r, p583_s, q584a, q584b, q584c, q584d, q584e, q584f, p584_l, p584_r, p584_s, q585a, q585b, q585c, q585d, q585e, q585f, p585_l, p585_r, p585_s, q586a, q586b, q586c, q586d, q586e, q586f, p586_l, p586_r, p586_s, q999a, q999b, q999c, q999d, q999e, q999f, p999_l, p999_r, p999_s, q1000a, q1000b, q1000c, q1000d, q1000e, q1000f, p1000_l, p1000_r, p1000_s, q2400a, q2400b, q2400c, q2400d, q2400e, q2400f, p2400_l, p2400_r, p2400_s, q9999a, q9999b, q9999c, q9999d, q9999e, q9999f, p9999_l, p9999_r, p9999_s, I00, I01, I10, I11, n_le, n_lt, n_eq, n_cl, n_add, n_ne9, n_ne1, if_true, if_false, Option.bind_some, if_pos, if_neg]
  | succ e ih =>
    intro f j hj hf
    obtain ⟨f, rfl⟩ : ∃ f', f = f' + 1 := ⟨f - 1, by omega⟩
    have e1 := ih f (j + 1) (by omega) (by omega)
    have hM := um_le (w := V 1) (S := S) (x := x) hd j (by omega)
    rw [um] at e1
    rw [eX6_under_b5, hw.eb]
    by_cases h1 : V 1 (4 * j) = 1
    · have h4 := (hd j (by omega) h1).2.1
      have hin := under_in (y0 := j) (k5 := fun l1 l2 l3 l4 V => eX6_under_b5 f l1 l2 l3 l4 V) hw hp hd hS hx hM (d j) j fu 0 (by omega) h1 rfl (by unfold fu; omega) (by omega)
      simp (disch := omega) only [q0a, q0b, q0c, q0d, q0e, q0f, p0_l, p0_r, p0_s, q1a, q1b, q1c, q1d, q1e, q1f, p1_l, p1_r, p1_s, q2a, q2b, q2c, q2d, q2e, q2f, p2_l, p2_r, p2_s, q3a, q3b, q3c, q3d, q3e, q3f, p3_l, p3_r, p3_s, q4a, q4b, q4c, q4d, q4e, q4f, p4_l, p4_r, p4_s, p4_m, q5a, q5b, q5c, q5d, q5e, q5f, p5_l, p5_r, p5_s, p5_m, q6a, q6b, q6c, q6d, q6e, q6f, p6_l, p6_r, p6_s, q7a, q7b, q7c, q7d, q7e, q7f, p7_l, p7_r, p7_s, q8a, q8b, q8c, q8d, q8e, q8f, p8_l, p8_r, p8_s, q9a, q9b, q9c, q9d, q9e, q9f, p9_l, p9_r, p9_s, q10a, q10b, q10c, q10d, q10e, q10f, p10_l, p10_r, p10_s, p10_m, q11a, q11b, q11c, q11d, q11e, q11f, p11_l, p11_r, p11_s, q12a, q12b, q12c, q12d, q12e, q12f, p12_l, p12_r, p12_s, q15a, q15b, q15c, q15d, q15e, q15f, p15_l, p15_r, p15_s, q19a, q19b, q19c, q19d, q19e, q19f, p19_l, p19_r, p19_s, q20a, q20b, q20c, q20d, q20e, q20f, p20_l, p20_r, p20_s, q31a, q31b, q31c, q31d, q31e, q31f, p31_l, p31_r, p31_s, q40a, q40b, q40c, q40d, q40e, q40f, p40_l, p40_r, p40_s, q48a, q48b, q48c, q48d, q48e, q48f, p48_l, p48_r, p48_s, q50a, q50b, q50c, q50d, q50e, q50f, p50_l, p50_r, p50_s, p50_m, q52a, q52b, q52c, q52d, q52e, q52f, p52_l, p52_r, p52_s, q60a, q60b, q60c, q60d, q60e, q60f, p60_l, p60_r, p60_s, q63a, q63b, q63c, q63d, q63e, q63f, p63_l, p63_r, p63_s, q80a, q80b, q80c, q80d, q80e, q80f, p80_l, p80_r, p80_s, q99a, q99b, q99c, q99d, q99e, q99f, p99_l, p99_r, p99_s, q100a, q100b, q100c, q100d, q100e, q100f, p100_l, p100_r, p100_s, q120a, q120b, q120c, q120d, q120e, q120f, p120_l, p120_r, p120_s, q240a, q240b, q240c, q240d, q240e, q240f, p240_l, p240_r, p240_s, q243a, q243b, q243c, q243d, q243e, q243f, p243_l, p243_r, p243_s, q244a, q244b, q244c, q244d, q244e, q244f, p244_l, p244_r, p244_s, q580a, q580b, q580c, q580d, q580e, q580f, p580_l, p580_r, p580_s, q581a, q581b, q581c, q581d, q581e, q581f, p581_l, p581_r, p581_s, q582a, q582b, q582c, q582d, q582e, q582f, p582_l, p582_r, p582_s, q583a, q583b, q583c, q583d, q583e, q583f, p583_l, p583_r, p583_s, q584a, q584b, q584c, q584d, q584e, q584f, p584_l, p584_r, p584_s, q585a, q585b, q585c, q585d, q585e, q585f, p585_l, p585_r, p585_s, q586a, q586b, q586c, q586d, q586e, q586f, p586_l, p586_r, p586_s, q999a, q999b, q999c, q999d, q999e, q999f, p999_l, p999_r, p999_s, q1000a, q1000b, q1000c, q1000d, q1000e, q1000f, p1000_l, p1000_r, p1000_s, q2400a, q2400b, q2400c, q2400d, q2400e, q2400f, p2400_l, p2400_r, p2400_s, q9999a, q9999b, q9999c, q9999d, q9999e, q9999f, p9999_l, p9999_r, p9999_s, I00, I01, I10, I11, n_le, n_lt, n_eq, n_cl, n_add, n_ne9, n_ne1, if_true, if_false, Option.bind_some, if_pos, if_neg, mBox_n hw, b2i_T (show j < nb ∧ V 1 (4 * j) = 1 from ⟨by omega, h1⟩)]
      rw [show eX6_under_b35 _ fu 1 (nI x) (nI (um (V 1) S d x j)) (nI j) 0 (nI j) V = _ from hin]
      by_cases hs : S j = true
      · rw [if_pos ⟨h1, hs⟩] at e1
        rw [if_pos hs, Nat.zero_add]
        exact e1
      · rw [if_neg (fun z => hs z.2)] at e1
        rw [if_neg hs]
        exact e1
    · rw [if_neg (fun z => h1 z.1)] at e1
      simp (disch := omega) only [q0a, q0b, q0c, q0d, q0e, q0f, p0_l, p0_r, p0_s, q1a, q1b, q1c, q1d, q1e, q1f, p1_l, p1_r, p1_s, q2a, q2b, q2c, q2d, q2e, q2f, p2_l, p2_r, p2_s, q3a, q3b, q3c, q3d, q3e, q3f, p3_l, p3_r, p3_s, q4a, q4b, q4c, q4d, q4e, q4f, p4_l, p4_r, p4_s, p4_m, q5a, q5b, q5c, q5d, q5e, q5f, p5_l, p5_r, p5_s, p5_m, q6a, q6b, q6c, q6d, q6e, q6f, p6_l, p6_r, p6_s, q7a, q7b, q7c, q7d, q7e, q7f, p7_l, p7_r, p7_s, q8a, q8b, q8c, q8d, q8e, q8f, p8_l, p8_r, p8_s, q9a, q9b, q9c, q9d, q9e, q9f, p9_l, p9_r, p9_s, q10a, q10b, q10c, q10d, q10e, q10f, p10_l, p10_r, p10_s, p10_m, q11a, q11b, q11c, q11d, q11e, q11f, p11_l, p11_r, p11_s, q12a, q12b, q12c, q12d, q12e, q12f, p12_l, p12_r, p12_s, q15a, q15b, q15c, q15d, q15e, q15f, p15_l, p15_r, p15_s, q19a, q19b, q19c, q19d, q19e, q19f, p19_l, p19_r, p19_s, q20a, q20b, q20c, q20d, q20e, q20f, p20_l, p20_r, p20_s, q31a, q31b, q31c, q31d, q31e, q31f, p31_l, p31_r, p31_s, q40a, q40b, q40c, q40d, q40e, q40f, p40_l, p40_r, p40_s, q48a, q48b, q48c, q48d, q48e, q48f, p48_l, p48_r, p48_s, q50a, q50b, q50c, q50d, q50e, q50f, p50_l, p50_r, p50_s, p50_m, q52a, q52b, q52c, q52d, q52e, q52f, p52_l, p52_r, p52_s, q60a, q60b, q60c, q60d, q60e, q60f, p60_l, p60_r, p60_s, q63a, q63b, q63c, q63d, q63e, q63f, p63_l, p63_r, p63_s, q80a, q80b, q80c, q80d, q80e, q80f, p80_l, p80_r, p80_s, q99a, q99b, q99c, q99d, q99e, q99f, p99_l, p99_r, p99_s, q100a, q100b, q100c, q100d, q100e, q100f, p100_l, p100_r, p100_s, q120a, q120b, q120c, q120d, q120e, q120f, p120_l, p120_r, p120_s, q240a, q240b, q240c, q240d, q240e, q240f, p240_l, p240_r, p240_s, q243a, q243b, q243c, q243d, q243e, q243f, p243_l, p243_r, p243_s, q244a, q244b, q244c, q244d, q244e, q244f, p244_l, p244_r, p244_s, q580a, q580b, q580c, q580d, q580e, q580f, p580_l, p580_r, p580_s, q581a, q581b, q581c, q581d, q581e, q581f, p581_l, p581_r, p581_s, q582a, q582b, q582c, q582d, q582e, q582f, p582_l, p582_r, p582_s, q583a, q583b, q583c, q583d, q583e, q583f, p583_l, p583_r, p583_s, q584a, q584b, q584c, q584d, q584e, q584f, p584_l, p584_r, p584_s, q585a, q585b, q585c, q585d, q585e, q585f, p585_l, p585_r, p585_s, q586a, q586b, q586c, q586d, q586e, q586f, p586_l, p586_r, p586_s, q999a, q999b, q999c, q999d, q999e, q999f, p999_l, p999_r, p999_s, q1000a, q1000b, q1000c, q1000d, q1000e, q1000f, p1000_l, p1000_r, p1000_s, q2400a, q2400b, q2400c, q2400d, q2400e, q2400f, p2400_l, p2400_r, p2400_s, q9999a, q9999b, q9999c, q9999d, q9999e, q9999f, p9999_l, p9999_r, p9999_s, I00, I01, I10, I11, n_le, n_lt, n_eq, n_cl, n_add, n_ne9, n_ne1, if_true, if_false, Option.bind_some, if_pos, if_neg, mBox_n hw, b2i_F (show ¬ (j < nb ∧ V 1 (4 * j) = 1) from fun z => h1 z.2)]
      exact e1
theorem under_n {V : Mm} {nb nm nt x : Nat} {d : Nat → Nat} {S : Nat → Bool} (hw : WN (V 1) nb nm nt) (hp : parOK (V 1) nb) (hd : dpt (V 1) nb d) (hS : subOK (V 1) nb x S) (hx : x < nb) : eX6_under 1 (nI x) V = some (nI (um (V 1) S d x nb)) := by
  have := hw.b20
  exact under_b hw hp hd hS hx nb fu 0 (by omega) (by unfold fu; omega)
/-- the class's way up, cut off behind 4 -/
def chl (w : Nat → Int32) : Nat → Int32 → Nat
  | 0, _ => 0
  | r + 1, a => if a = -9 then 0 else 1 + chl w r (w (4 * a.toNatClampNeg + 2))
def thB (w : Nat → Int32) (nb : Nat) (a : Int32) : Prop := a = -9 ∨ ∃ b, b < nb ∧ a = nI b ∧ w (4 * b) = 1
theorem depth_cap {V : Mm} {w : Nat → Int32} {nb nm nt : Nat} (h : WRel V w nb nm nt) (hp : parOK w nb) : ∀ r f l a, thB w nb a → l + r = 5 → r < f → eX5_depthOf_b4 f (nI l) a V = some (nI (l + chl w r a)) := by
  have h20 := (WRel_WN h).b20
  intro r
  induction r with
  | zero =>
    intro f l a ha hl hf
    obtain ⟨f, rfl⟩ : ∃ f', f = f' + 1 := ⟨f - 1, by omega⟩
    have h4 : (4 : Int32) < nI l := by rw [show (4 : Int32) = nI 4 from rfl, n_lt (by omega) (by omega)]; omega
    rw [eX5_depthOf_b4, if_pos h4]
    rfl
  | succ r ih =>
    intro f l a ha hl hf
    obtain ⟨f, rfl⟩ : ∃ f', f = f' + 1 := ⟨f - 1, by omega⟩
    have h4 : ¬ (4 : Int32) < nI l := by rw [show (4 : Int32) = nI 4 from rfl, n_lt (by omega) (by omega)]; omega
    rw [eX5_depthOf_b4, if_neg h4, chl]
    rcases ha with e | ⟨b, hb, e, hb1⟩
    · have h9 : (-9 : Int32) < 0 := by decide
      rw [e, if_pos h9, if_pos rfl]
      rfl
    · have h9 : ¬ a = -9 := by rw [e, n_ne9 (by omega)]; exact id
      rw [if_neg h9, e, n_cl (by omega)]
      have e1 := ih f (l + 1) (w (4 * b + 2)) (by
        rcases hp b hb hb1 with z | ⟨q, q1, q2, q3⟩
        · exact Or.inl z
        · exact Or.inr ⟨q, q1, q2, q3⟩) (by omega) (by omega)
      simp (disch := omega) only [q0a, q0b, q0c, q0d, q0e, q0f, p0_l, p0_r, p0_s, q1a, q1b, q1c, q1d, q1e, q1f, p1_l, p1_r, p1_s, q2a, q2b, q2c, q2d, q2e, q2f, p2_l, p2_r, p2_s, q3a, q3b, q3c, q3d, q3e, q3f, p3_l, p3_r, p3_s, q4a, q4b, q4c, q4d, q4e, q4f, p4_l, p4_r, p4_s, p4_m, q5a, q5b, q5c, q5d, q5e, q5f, p5_l, p5_r, p5_s, p5_m, q6a, q6b, q6c, q6d, q6e, q6f, p6_l, p6_r, p6_s, q7a, q7b, q7c, q7d, q7e, q7f, p7_l, p7_r, p7_s, q8a, q8b, q8c, q8d, q8e, q8f, p8_l, p8_r, p8_s, q9a, q9b, q9c, q9d, q9e, q9f, p9_l, p9_r, p9_s, q10a, q10b, q10c, q10d, q10e, q10f, p10_l, p10_r, p10_s, p10_m, q11a, q11b, q11c, q11d, q11e, q11f, p11_l, p11_r, p11_s, q12a, q12b, q12c, q12d, q12e, q12f, p12_l, p12_r, p12_s, q15a, q15b, q15c, q15d, q15e, q15f, p15_l, p15_r, p15_s, q19a, q19b, q19c, q19d, q19e, q19f, p19_l, p19_r, p19_s, q20a, q20b, q20c, q20d, q20e, q20f, p20_l, p20_r, p20_s, q31a, q31b, q31c, q31d, q31e, q31f, p31_l, p31_r, p31_s, q40a, q40b, q40c, q40d, q40e, q40f, p40_l, p40_r, p40_s, q48a, q48b, q48c, q48d, q48e, q48f, p48_l, p48_r, p48_s, q50a, q50b, q50c, q50d, q50e, q50f, p50_l, p50_r, p50_s, p50_m, q52a, q52b, q52c, q52d, q52e, q52f, p52_l, p52_r, p52_s, q60a, q60b, q60c, q60d, q60e, q60f, p60_l, p60_r, p60_s, q63a, q63b, q63c, q63d, q63e, q63f, p63_l, p63_r, p63_s, q80a, q80b, q80c, q80d, q80e, q80f, p80_l, p80_r, p80_s, q99a, q99b, q99c, q99d, q99e, q99f, p99_l, p99_r, p99_s, q100a, q100b, q100c, q100d, q100e, q100f, p100_l, p100_r, p100_s, q120a, q120b, q120c, q120d, q120e, q120f, p120_l, p120_r, p120_s, q240a, q240b, q240c, q240d, q240e, q240f, p240_l, p240_r, p240_s, q243a, q243b, q243c, q243d, q243e, q243f, p243_l, p243_r, p243_s, q244a, q244b, q244c, q244d, q244e, q244f, p244_l, p244_r, p244_s, q580a, q580b, q580c, q580d, q580e, q580f, p580_l, p580_r, p580_s, q581a, q581b, q581c, q581d, q581e, q581f, p581_l, p581_r, p581_s, q582a, q582b, q582c, q582d, q582e, q582f, p582_l, p582_r, p582_s, q583a, q583b, q583c, q583d, q583e, q583f, p583_l, p583_r, p583_s, q584a, q584b, q584c, q584d, q584e, q584f, p584_l, p584_r, p584_s, q585a, q585b, q585c, q585d, q585e, q585f, p585_l, p585_r, p585_s, q586a, q586b, q586c, q586d, q586e, q586f, p586_l, p586_r, p586_s, q999a, q999b, q999c, q999d, q999e, q999f, p999_l, p999_r, p999_s, q1000a, q1000b, q1000c, q1000d, q1000e, q1000f, p1000_l, p1000_r, p1000_s, q2400a, q2400b, q2400c, q2400d, q2400e, q2400f, p2400_l, p2400_r, p2400_s, q9999a, q9999b, q9999c, q9999d, q9999e, q9999f, p9999_l, p9999_r, p9999_s, I00, I01, I10, I11, n_le, n_lt, n_eq, n_cl, n_add, n_ne9, n_ne1, if_true, if_false, Option.bind_some, if_pos, if_neg]
      rw [(boxCol h hb).2.1, e1]
      congr 2
      omega
theorem depthOf_cap {V : Mm} {w : Nat → Int32} {nb nm nt b : Nat} (h : WRel V w nb nm nt) (hp : parOK w nb) (hb : b < nb) (h1 : w (4 * b) = 1) : eX5_depthOf (nI b) V = some (nI (chl w 5 (nI b))) := by
  have e := depth_cap h hp 5 fu 0 (nI b) (Or.inr ⟨b, hb, rfl, h1⟩) (by omega) (by unfold fu; omega)
  rw [Nat.zero_add] at e
  exact e
theorem chl_le {w : Nat → Int32} : ∀ r a, chl w r a ≤ r := by
  intro r
  induction r with
  | zero => intro a; exact Nat.le_refl _
  | succ r ih =>
    intro a
    rw [chl]
    split
    · omega
    · have := ih (w (4 * a.toNatClampNeg + 2)); omega
def tdB (w : Nat → Int32) (nb : Nat) : Bool := anyB (fun y => decide (w (4 * y) = 1 ∧ 4 < chl w 5 (nI y))) nb
theorem deep_b {V : Mm} {w : Nat → Int32} {nb nm nt : Nat} (h : WRel V w nb nm nt) (hp : parOK w nb) : ∀ e f j, j + e = nb → e < f → (∀ y, y < j → ¬ (w (4 * y) = 1 ∧ 4 < chl w 5 (nI y))) → eX5_isAnyTooDeep_b2 f (nI j) V = some (b2i (tdB w nb = true)) := by
  have h20 := (WRel_WN h).b20
  have h4 : V 4 4 = nI nb := h.2.2.1.1
  intro e
  induction e with
  | zero =>
    intro f j hj hf hn
    obtain ⟨f, rfl⟩ : ∃ f', f = f' + 1 := ⟨f - 1, by omega⟩
    have : j = nb := by omega
    subst this
    rw [eX5_isAnyTooDeep_b2, h4, b2i_F (fun z => by
      obtain ⟨y, hy, ey⟩ := anyB_iff.mp z
      exact hn y hy (of_decide_eq_true ey))]
    simp (disch := omega) only [q0a, q0b, q0c, q0d, q0e, q0f, p0_l, p0_r, p0_s, q1a, q1b, q1c, q1d, q1e, q1f, p1_l, p1_r, p1_s, q2a, q2b, q2c, q2d, q2e, q2f, p2_l, p2_r, p2_s, q3a, q3b, q3c, q3d, q3e, q3f, p3_l, p3_r, p3_s, q4a, q4b, q4c, q4d, q4e, q4f, p4_l, p4_r, p4_s, p4_m, q5a, q5b, q5c, q5d, q5e, q5f, p5_l, p5_r, p5_s, p5_m, q6a, q6b, q6c, q6d, q6e, q6f, p6_l, p6_r, p6_s, q7a, q7b, q7c, q7d, q7e, q7f, p7_l, p7_r, p7_s, q8a, q8b, q8c, q8d, q8e, q8f, p8_l, p8_r, p8_s, q9a, q9b, q9c, q9d, q9e, q9f, p9_l, p9_r, p9_s, q10a, q10b, q10c, q10d, q10e, q10f, p10_l, p10_r, p10_s, p10_m, q11a, q11b, q11c, q11d, q11e, q11f, p11_l, p11_r, p11_s, q12a, q12b, q12c, q12d, q12e, q12f, p12_l, p12_r, p12_s, q15a, q15b, q15c, q15d, q15e, q15f, p15_l, p15_r, p15_s, q19a, q19b, q19c, q19d, q19e, q19f, p19_l, p19_r, p19_s, q20a, q20b, q20c, q20d, q20e, q20f, p20_l, p20_r, p20_s, q31a, q31b, q31c, q31d, q31e, q31f, p31_l, p31_r, p31_s, q40a, q40b, q40c, q40d, q40e, q40f, p40_l, p40_r, p40_s, q48a, q48b, q48c, q48d, q48e, q48f, p48_l, p48_r, p48_s, q50a, q50b, q50c, q50d, q50e, q50f, p50_l, p50_r, p50_s, p50_m, q52a, q52b, q52c, q52d, q52e, q52f, p52_l, p52_r, p52_s, q60a, q60b, q60c, q60d, q60e, q60f, p60_l, p60_r, p60_s, q63a, q63b, q63c, q63d, q63e, q63f, p63_l, p63_r, p63_s, q80a, q80b, q80c, q80d, q80e, q80f, p80_l, p80_r, p80_s, q99a, q99b, q99c, q99d, q99e, q99f, p99_l, p99_r, p99_s, q100a, q100b, q100c, q100d, q100e, q100f, p100_l, p100_r, p100_s, q120a, q120b, q120c, q120d, q120e, q120f, p120_l, p120_r, p120_s, q240a, q240b, q240c, q240d, q240e, q240f, p240_l, p240_r, p240_s, q243a, q243b, q243c, q243d, q243e, q243f, p243_l, p243_r, p243_s, q244a, q244b, q244c, q244d, q244e, q244f, p244_l, p244_r, p244_s, q580a, q580b, q580c, q580d, q580e, q580f, p580_l, p580_r, p580_s, q581a, q581b, q581c, q581d, q581e, q581f, p581_l, p581_r, p581_s, q582a, q582b, q582c, q582d, q582e, q582f, p582_l, p582_r, p582_s, q583a, q583b, q583c, q583d, q583e, q583f, p583_l, p583_r, p583_s, q584a, q584b, q584c, q584d, q584e, q584f, p584_l, p584_r, p584_s, q585a, q585b, q585c, q585d, q585e, q585f, p585_l, p585_r, p585_s, q586a, q586b, q586c, q586d, q586e, q586f, p586_l, p586_r, p586_s, q999a, q999b, q999c, q999d, q999e, q999f, p999_l, p999_r, p999_s, q1000a, q1000b, q1000c, q1000d, q1000e, q1000f, p1000_l, p1000_r, p1000_s, q2400a, q2400b, q2400c, q2400d, q2400e, q2400f, p2400_l, p2400_r, p2400_s, q9999a, q9999b, q9999c, q9999d, q9999e, q9999f, p9999_l, p9999_r, p9999_s, I00, I01, I10, I11, n_le, n_lt, n_eq, n_cl, n_add, n_ne9, n_ne1, if_true, if_false, Option.bind_some, if_pos, if_neg]
  | succ e ih =>
    intro f j hj hf hn
    obtain ⟨f, rfl⟩ : ∃ f', f = f' + 1 := ⟨f - 1, by omega⟩
    rw [eX5_isAnyTooDeep_b2, h4]
    by_cases h1 : w (4 * j) = 1
    · have hcl := chl_le (w := w) 5 (nI j)
      simp (disch := omega) only [q0a, q0b, q0c, q0d, q0e, q0f, p0_l, p0_r, p0_s, q1a, q1b, q1c, q1d, q1e, q1f, p1_l, p1_r, p1_s, q2a, q2b, q2c, q2d, q2e, q2f, p2_l, p2_r, p2_s, q3a, q3b, q3c, q3d, q3e, q3f, p3_l, p3_r, p3_s, q4a, q4b, q4c, q4d, q4e, q4f, p4_l, p4_r, p4_s, p4_m, q5a, q5b, q5c, q5d, q5e, q5f, p5_l, p5_r, p5_s, p5_m, q6a, q6b, q6c, q6d, q6e, q6f, p6_l, p6_r, p6_s, q7a, q7b, q7c, q7d, q7e, q7f, p7_l, p7_r, p7_s, q8a, q8b, q8c, q8d, q8e, q8f, p8_l, p8_r, p8_s, q9a, q9b, q9c, q9d, q9e, q9f, p9_l, p9_r, p9_s, q10a, q10b, q10c, q10d, q10e, q10f, p10_l, p10_r, p10_s, p10_m, q11a, q11b, q11c, q11d, q11e, q11f, p11_l, p11_r, p11_s, q12a, q12b, q12c, q12d, q12e, q12f, p12_l, p12_r, p12_s, q15a, q15b, q15c, q15d, q15e, q15f, p15_l, p15_r, p15_s, q19a, q19b, q19c, q19d, q19e, q19f, p19_l, p19_r, p19_s, q20a, q20b, q20c, q20d, q20e, q20f, p20_l, p20_r, p20_s, q31a, q31b, q31c, q31d, q31e, q31f, p31_l, p31_r, p31_s, q40a, q40b, q40c, q40d, q40e, q40f, p40_l, p40_r, p40_s, q48a, q48b, q48c, q48d, q48e, q48f, p48_l, p48_r, p48_s, q50a, q50b, q50c, q50d, q50e, q50f, p50_l, p50_r, p50_s, p50_m, q52a, q52b, q52c, q52d, q52e, q52f, p52_l, p52_r, p52_s, q60a, q60b, q60c, q60d, q60e, q60f, p60_l, p60_r, p60_s, q63a, q63b, q63c, q63d, q63e, q63f, p63_l, p63_r, p63_s, q80a, q80b, q80c, q80d, q80e, q80f, p80_l, p80_r, p80_s, q99a, q99b, q99c, q99d, q99e, q99f, p99_l, p99_r, p99_s, q100a, q100b, q100c, q100d, q100e, q100f, p100_l, p100_r, p100_s, q120a, q120b, q120c, q120d, q120e, q120f, p120_l, p120_r, p120_s, q240a, q240b, q240c, q240d, q240e, q240f, p240_l, p240_r, p240_s, q243a, q243b, q243c, q243d, q243e, q243f, p243_l, p243_r, p243_s, q244a, q244b, q244c, q244d, q244e, q244f, p244_l, p244_r, p244_s, q580a, q580b, q580c, q580d, q580e, q580f, p580_l, p580_r, p580_s, q581a, q581b, q581c, q581d, q581e, q581f, p581_l, p581_r, p581_s, q582a, q582b, q582c, q582d, q582e, q582f, p582_l, p582_r, p582_s, q583a, q583b, q583c, q583d, q583e, q583f, p583_l, p583_r, p583_s, q584a, q584b, q584c, q584d, q584e, q584f, p584_l, p584_r, p584_s, q585a, q585b, q585c, q585d, q585e, q585f, p585_l, p585_r, p585_s, q586a, q586b, q586c, q586d, q586e, q586f, p586_l, p586_r, p586_s, q999a, q999b, q999c, q999d, q999e, q999f, p999_l, p999_r, p999_s, q1000a, q1000b, q1000c, q1000d, q1000e, q1000f, p1000_l, p1000_r, p1000_s, q2400a, q2400b, q2400c, q2400d, q2400e, q2400f, p2400_l, p2400_r, p2400_s, q9999a, q9999b, q9999c, q9999d, q9999e, q9999f, p9999_l, p9999_r, p9999_s, I00, I01, I10, I11, n_le, n_lt, n_eq, n_cl, n_add, n_ne9, n_ne1, if_true, if_false, Option.bind_some, if_pos, if_neg, there_0 h (show j < nb by omega), b2i_T h1, depthOf_cap h hp (show j < nb by omega) h1]
      by_cases h5 : 4 < chl w 5 (nI j)
      · have : tdB w nb = true := anyB_iff.mpr ⟨j, by omega, decide_eq_true ⟨h1, h5⟩⟩
        rw [b2i_T this, if_neg (by omega)]
      · rw [if_pos (by omega)]
        exact ih f (j + 1) (by omega) (by omega) (fun y hy => by
          by_cases ey : y = j
          · subst ey; exact fun z => h5 z.2
          · exact hn y (by omega))
    · simp (disch := omega) only [q0a, q0b, q0c, q0d, q0e, q0f, p0_l, p0_r, p0_s, q1a, q1b, q1c, q1d, q1e, q1f, p1_l, p1_r, p1_s, q2a, q2b, q2c, q2d, q2e, q2f, p2_l, p2_r, p2_s, q3a, q3b, q3c, q3d, q3e, q3f, p3_l, p3_r, p3_s, q4a, q4b, q4c, q4d, q4e, q4f, p4_l, p4_r, p4_s, p4_m, q5a, q5b, q5c, q5d, q5e, q5f, p5_l, p5_r, p5_s, p5_m, q6a, q6b, q6c, q6d, q6e, q6f, p6_l, p6_r, p6_s, q7a, q7b, q7c, q7d, q7e, q7f, p7_l, p7_r, p7_s, q8a, q8b, q8c, q8d, q8e, q8f, p8_l, p8_r, p8_s, q9a, q9b, q9c, q9d, q9e, q9f, p9_l, p9_r, p9_s, q10a, q10b, q10c, q10d, q10e, q10f, p10_l, p10_r, p10_s, p10_m, q11a, q11b, q11c, q11d, q11e, q11f, p11_l, p11_r, p11_s, q12a, q12b, q12c, q12d, q12e, q12f, p12_l, p12_r, p12_s, q15a, q15b, q15c, q15d, q15e, q15f, p15_l, p15_r, p15_s, q19a, q19b, q19c, q19d, q19e, q19f, p19_l, p19_r, p19_s, q20a, q20b, q20c, q20d, q20e, q20f, p20_l, p20_r, p20_s, q31a, q31b, q31c, q31d, q31e, q31f, p31_l, p31_r, p31_s, q40a, q40b, q40c, q40d, q40e, q40f, p40_l, p40_r, p40_s, q48a, q48b, q48c, q48d, q48e, q48f, p48_l, p48_r, p48_s, q50a, q50b, q50c, q50d, q50e, q50f, p50_l, p50_r, p50_s, p50_m, q52a, q52b, q52c, q52d, q52e, q52f, p52_l, p52_r, p52_s, q60a, q60b, q60c, q60d, q60e, q60f, p60_l, p60_r, p60_s, q63a, q63b, q63c, q63d, q63e, q63f, p63_l, p63_r, p63_s, q80a, q80b, q80c, q80d, q80e, q80f, p80_l, p80_r, p80_s, q99a, q99b, q99c, q99d, q99e, q99f, p99_l, p99_r, p99_s, q100a, q100b, q100c, q100d, q100e, q100f, p100_l, p100_r, p100_s, q120a, q120b, q120c, q120d, q120e, q120f, p120_l, p120_r, p120_s, q240a, q240b, q240c, q240d, q240e, q240f, p240_l, p240_r, p240_s, q243a, q243b, q243c, q243d, q243e, q243f, p243_l, p243_r, p243_s, q244a, q244b, q244c, q244d, q244e, q244f, p244_l, p244_r, p244_s, q580a, q580b, q580c, q580d, q580e, q580f, p580_l, p580_r, p580_s, q581a, q581b, q581c, q581d, q581e, q581f, p581_l, p581_r, p581_s, q582a, q582b, q582c, q582d, q582e, q582f, p582_l, p582_r, p582_s, q583a, q583b, q583c, q583d, q583e, q583f, p583_l, p583_r, p583_s, q584a, q584b, q584c, q584d, q584e, q584f, p584_l, p584_r, p584_s, q585a, q585b, q585c, q585d, q585e, q585f, p585_l, p585_r, p585_s, q586a, q586b, q586c, q586d, q586e, q586f, p586_l, p586_r, p586_s, q999a, q999b, q999c, q999d, q999e, q999f, p999_l, p999_r, p999_s, q1000a, q1000b, q1000c, q1000d, q1000e, q1000f, p1000_l, p1000_r, p1000_s, q2400a, q2400b, q2400c, q2400d, q2400e, q2400f, p2400_l, p2400_r, p2400_s, q9999a, q9999b, q9999c, q9999d, q9999e, q9999f, p9999_l, p9999_r, p9999_s, I00, I01, I10, I11, n_le, n_lt, n_eq, n_cl, n_add, n_ne9, n_ne1, if_true, if_false, Option.bind_some, if_pos, if_neg, there_0 h (show j < nb by omega), b2i_F h1]
      exact ih f (j + 1) (by omega) (by omega) (fun y hy => by
          by_cases ey : y = j
          · subst ey; exact fun z => h1 z.1
          · exact hn y (by omega))
theorem tooDeep_n {V : Mm} {w : Nat → Int32} {nb nm nt : Nat} (h : WRel V w nb nm nt) (hp : parOK w nb) : eX5_isAnyTooDeep V = some (b2i (tdB w nb = true)) := by
  have := (WRel_WN h).b20
  exact deep_b h hp nb fu 0 (by omega) (by unfold fu; omega) (fun y hy => absurd hy (by omega))
/-- depths, not held to 4 -/
def dpt0 (w : Nat → Int32) (nb : Nat) (d : Nat → Nat) : Prop := ∀ b, b < nb → w (4 * b) = 1 → 1 ≤ d b ∧ (w (4 * b + 2) = -9 → d b = 1) ∧ ∀ q, q < nb → w (4 * b + 2) = nI q → d b = d q + 1
theorem chl_9 {w : Nat → Int32} : ∀ r, chl w r (-9) = 0 := by
  intro r
  cases r with
  | zero => rfl
  | succ r => rw [chl, if_pos rfl]
theorem chl_d {w : Nat → Int32} {nb : Nat} {d : Nat → Nat} (h20 : nb ≤ 20) (hp : parOK w nb) (hd : dpt0 w nb d) : ∀ r b, b < nb → w (4 * b) = 1 → chl w r (nI b) = min r (d b) := by
  intro r
  induction r with
  | zero => intro b hb h1; rw [chl]; omega
  | succ r ih =>
    intro b hb h1
    have h9 : ¬ nI b = -9 := by rw [n_ne9 (by omega)]; exact id
    rw [chl, if_neg h9, n_cl (by omega)]
    obtain ⟨a, c, e⟩ := hd b hb h1
    rcases hp b hb h1 with z | ⟨q, q1, q2, q3⟩
    · rw [z, chl_9, c z]; omega
    · rw [q2, ih q q1 q3, e q q1 q2]; omega
theorem td_dpt {w : Nat → Int32} {nb : Nat} {d : Nat → Nat} (h20 : nb ≤ 20) (hp : parOK w nb) (hd : dpt w nb d) : ¬ tdB w nb = true := by
  intro z
  obtain ⟨y, hy, ey⟩ := anyB_iff.mp z
  obtain ⟨h1, h5⟩ := of_decide_eq_true ey
  have h0 : dpt0 w nb d := fun b hb e => ⟨(hd b hb e).1, (hd b hb e).2.2.1, (hd b hb e).2.2.2⟩
  rw [chl_d h20 hp h0 5 y hy h1] at h5
  have := (hd y hy h1).2.1
  omega
