
/-! CHANGE: what it refuses -/
abbrev tl (κ u : Nat) : Prop := (κ = 0 ∧ u = 1) ∨ (κ = 1 ∧ u ≠ 0)
theorem tell_T {a0 κ u : Nat} {V : Mm} (hκ : κ < 2) (hu : u ≤ 2) (h2 : V a0 2 = nI κ) (h5 : V a0 5 = nI u) (h : tl κ u) : eX5_tellsOneByV a0 V = some 1 := by
  unfold eX5_tellsOneByV
  rw [h2, h5]
  rcases h with ⟨rfl, rfl⟩ | ⟨rfl, hu0⟩
  · rfl
  · have : ¬ nI u = 0 := fun z => hu0 ((nI_eq (a := u) (b := 0) (by omega) (by omega)).mp z)
    rw [if_neg (by decide), if_neg this]
theorem tell_F {a0 κ u : Nat} {V : Mm} (hκ : κ < 2) (hu : u ≤ 2) (h2 : V a0 2 = nI κ) (h5 : V a0 5 = nI u) (h : ¬ tl κ u) : eX5_tellsOneByV a0 V = some 0 := by
  unfold eX5_tellsOneByV
  rw [h2, h5]
  have hc : κ = 0 ∨ κ = 1 := by omega
  rcases hc with rfl | rfl
  · have hu1 : u ≠ 1 := fun z => h (Or.inl ⟨rfl, z⟩)
    have : ¬ nI u = 1 := fun z => hu1 ((nI_eq (a := u) (b := 1) (by omega) (by omega)).mp z)
    rw [if_pos (show nI 0 = 0 from rfl), if_neg this]
  · have hu0 : u = 0 := by
      by_cases e : u = 0
      · exact e
      · exact absurd (Or.inr ⟨rfl, e⟩) h
    subst hu0
    rfl
def chF (q : Nat) (Vc Vm : Mm) : Prop := Vc (89 + 9 * q) 1 = 4 ∧ Vm 6 (5 * q) = Vc (89 + 9 * q) 2 ∧ Vm 6 (5 * q + 1) = Vc (89 + 9 * q) 3 ∧ Vm 6 (5 * q + 2) = Vc (89 + 9 * q) 4 ∧ Vm 6 (5 * q + 3) = Vc (89 + 9 * q) 5 ∧ Vm 6 (5 * q + 4) = Vc (89 + 9 * q) 6
theorem chF_n {q : Nat} {Vc Vm : Mm} (hc : callRel Vc Vm q) (ht : Vm 5 q = 4) : chF q Vc Vm := by
  obtain ⟨t, t6, tc, tm, c0, c1, -⟩ := hc
  have t4 : t = 4 := by
    rw [ht] at tm
    exact ((nI_eq (a := 4) (b := t) (by omega) (by omega)).mp tm).symm
  subst t4
  obtain ⟨f2, f3, f4⟩ := c0 (Or.inr (Or.inl rfl))
  obtain ⟨f5, f6⟩ := c1 rfl
  exact ⟨tc, f2.symm, f3.symm, f4.symm, f5.symm, f6.symm⟩
def topV (κ u : Nat) : Nat := if κ = 1 then 15 else if u = 0 then 99 else 9
theorem topV_lt (κ u : Nat) : topV κ u < 2147483648 := by
  unfold topV
  split
  · omega
  · split <;> omega
theorem cat_n {a0 κ u : Nat} {V W : Mm} (hκ : κ < 2) (hu : u ≤ 2) (h2 : V a0 2 = nI κ) (h5 : V a0 5 = nI u) : eX5_isChangeAsTold a0 V = if tl κ u then some 1 else eX6_within (V a0 6) 0 (nI (topV κ u)) W := by
  have w1 : eX5_isWithin (V a0 2) 0 1 V = some 1 := by
    rw [h2]
    have hc : κ = 0 ∨ κ = 1 := by omega
    rcases hc with rfl | rfl <;> rfl
  have w2 : eX5_isWithin (V a0 5) 0 2 V = some 1 := by
    rw [h5]
    have hc : u = 0 ∨ u = 1 ∨ u = 2 := by omega
    rcases hc with rfl | rfl | rfl <;> rfl
  have wv : ∀ (z : Int32), ((eX5_isWithin (V a0 6) 0 z V).bind fun r => if r = 0 ∨ r = 1 then some r else none) = eX6_within (V a0 6) 0 z W := fun z => by
    rw [within_x _ _ _ V W]
    rcases within_c (V a0 6) 0 z W with ⟨g, -⟩ | ⟨g, -⟩ <;> rw [g] <;> rfl
  have ht1 : tl κ u → eX5_tellsOneByV a0 V = some 1 := fun h => tell_T hκ hu h2 h5 h
  have ht0 : ¬ tl κ u → eX5_tellsOneByV a0 V = some 0 := fun h => tell_F hκ hu h2 h5 h
  unfold eX5_isChangeAsTold
  rw [w1, Option.bind_some, if_neg (show ¬ (1 : Int32) = 0 by decide), w2, Option.bind_some, if_neg (show ¬ (1 : Int32) = 0 by decide)]
  by_cases h : tl κ u
  · rw [if_pos h, ht1 h, Option.bind_some, if_neg (show ¬ (1 : Int32) = 0 by decide)]
  · rw [if_neg h, ht0 h, Option.bind_some, if_pos (show (0 : Int32) = 0 from rfl), h2, h5]
    have hc : κ = 0 ∨ κ = 1 := by omega
    rcases hc with rfl | rfl
    · have hc2 : u = 0 ∨ u = 2 := by
        have : u ≠ 1 := fun z => h (Or.inl ⟨rfl, z⟩)
        omega
      rw [if_neg (show ¬ nI 0 = 1 by decide)]
      rcases hc2 with rfl | rfl
      · rw [if_pos (show nI 0 = 0 from rfl)]; exact wv 99
      · rw [if_neg (show ¬ nI 2 = 0 by decide)]; exact wv 9
    · rw [if_pos (show nI 1 = 1 from rfl)]; exact wv 15
theorem md_n {q κ u : Nat} {Vm W : Mm} (hq : q < 12) (h21 : Vm 0 21 = nI q) (hκ : κ < 2) (hu : u ≤ 2) (h2 : Vm 6 (5 * q) = nI κ) (h5 : Vm 6 (5 * q + 3) = nI u) (hrow : eX6_isRow (Vm 6 (5 * q + 1)) (Vm 6 (5 * q + 2)) Vm = some 1) :
    eX6_doChange Vm = if tl κ u then eX6_doChange_b145 (nI κ) (nI u) (Vm 6 (5 * q + 4)) (if κ = 0 ∧ Vm 6 (5 * q + 4) = 1000 then 0 else 1) 1 Vm else (eX6_within (Vm 6 (5 * q + 4)) 0 (nI (topV κ u)) W).bind fun r => if r = 0 then some (-2, Vm) else eX6_doChange_b145 (nI κ) (nI u) (Vm 6 (5 * q + 4)) 0 1 Vm := by
  have n0 : eX6_number 0 Vm = some (nI κ) := by rw [← h2]; exact num_n (k := 0) hq h21 (by omega)
  have n1 : eX6_number 1 Vm = some (Vm 6 (5 * q + 1)) := num_n (k := 1) hq h21 (by omega)
  have n2 : eX6_number 2 Vm = some (Vm 6 (5 * q + 2)) := num_n (k := 2) hq h21 (by omega)
  have n3 : eX6_number 3 Vm = some (nI u) := by rw [← h5]; exact num_n (k := 3) hq h21 (by omega)
  have n4 : eX6_number 4 Vm = some (Vm 6 (5 * q + 4)) := num_n (k := 4) hq h21 (by omega)
  have w1 : eX6_within (nI κ) 0 1 Vm = some 1 := by
    have hc : κ = 0 ∨ κ = 1 := by omega
    rcases hc with rfl | rfl <;> rfl
  have w2 : eX6_within (nI u) 0 2 Vm = some 1 := by
    have hc : u = 0 ∨ u = 1 ∨ u = 2 := by omega
    rcases hc with rfl | rfl | rfl <;> rfl
  have wv : ∀ z : Int32, ((eX6_within (Vm 6 (5 * q + 4)) 0 z Vm).bind fun r77 => if r77 = 0 then eX6_doChange_b145 (nI κ) (nI u) (Vm 6 (5 * q + 4)) 0 0 Vm else eX6_doChange_b145 (nI κ) (nI u) (Vm 6 (5 * q + 4)) 0 1 Vm) = (eX6_within (Vm 6 (5 * q + 4)) 0 z W).bind fun r => if r = 0 then some (-2, Vm) else eX6_doChange_b145 (nI κ) (nI u) (Vm 6 (5 * q + 4)) 0 1 Vm := fun z => rfl
  unfold eX6_doChange
  simp only [n0, n1, n2, n3, n4, Option.bind_some, w1, w2, hrow, I10, if_false]
  have hc : κ = 0 ∨ κ = 1 := by omega
  rcases hc with rfl | rfl
  · rw [if_pos (show nI 0 = 0 from rfl)]
    by_cases u1 : u = 1
    · subst u1
      rw [if_pos (show tl 0 1 from Or.inl ⟨rfl, rfl⟩), if_pos (show nI 1 = 1 from rfl)]
      by_cases e : Vm 6 (5 * q + 4) = 1000
      · rw [if_pos e, if_pos ⟨rfl, e⟩]; rfl
      · rw [if_neg e, if_neg (fun z => e z.2)]; rfl
    · have ht : ¬ tl 0 u := fun z => by rcases z with ⟨-, z⟩ | ⟨z, -⟩ <;> omega
      have hc2 : u = 0 ∨ u = 2 := by omega
      rw [if_neg ht]
      rcases hc2 with rfl | rfl
      · exact wv 99
      · exact wv 9
  · rw [if_neg (show ¬ nI 1 = 0 by decide)]
    by_cases u0 : u = 0
    · subst u0
      have ht : ¬ tl 1 0 := fun z => by rcases z with ⟨z, -⟩ | ⟨-, z⟩ <;> omega
      rw [if_neg ht]
      exact wv 15
    · rw [if_pos (show tl 1 u from Or.inr ⟨rfl, u0⟩), if_neg (show ¬ ((1 : Nat) = 0 ∧ Vm 6 (5 * q + 4) = 1000) from fun z => by have := z.1; omega)]
      have hc2 : u = 1 ∨ u = 2 := by omega
      rcases hc2 with rfl | rfl <;> rfl
/-- what the change is to -/
def vOK (κ u : Nat) (v : Int32) : Prop := (κ = 0 → u = 1 → v = -9 ∨ ∃ p, p < 2147483648 ∧ v = nI p) ∧ (κ = 1 → ∃ y, y < 2147483648 ∧ v = nI y ∧ (u = 0 → y ≤ 15))
def vIs (κ u : Nat) (x v : Int32) (Vc : Mm) : Prop := (¬ tl κ u → v = x) ∧ (tl κ u → κ = 0 → eX5_parentOf x Vc = some v) ∧ (tl κ u → κ = 1 → eX5_idOf x Vc = some v)
theorem oneOf_fr {x : Int32} {V W : Mm} (h : W 10 = V 10) : eX6_oneOf x W = eX6_oneOf x V := by
  unfold eX6_oneOf
  rw [h]
theorem ch_check {q : Nat} {Vc Vm : Mm} (h : Ahead q Vc Vm) (hC : chF q Vc Vm) :
    (∃ r : Int32, r ≠ 0 ∧ eX5_refusalOf (89 + 9 * q) (nI q) Vc = some r ∧ eX6_doChange Vm = some (r, Vm)) ∨
    (eX5_refusalOf (89 + 9 * q) (nI q) Vc = some 0 ∧ Named q Vc Vm (Vc (89 + 9 * q) 3) (Vc (89 + 9 * q) 4) ∧ ∃ κ u v, κ < 2 ∧ u ≤ 2 ∧ Vc (89 + 9 * q) 2 = nI κ ∧ Vc (89 + 9 * q) 5 = nI u ∧ vOK κ u v ∧ vIs κ u (Vc (89 + 9 * q) 6) v Vc ∧
      ∀ Vm', eX6_takeIds (Vc (89 + 9 * q) 3) (Vc (89 + 9 * q) 4) Vm = some Vm' → Vm' 10 = Vm 10 → eX6_doChange Vm = eX6_doChange_b235 fu (nI κ) (nI u) v 0 Vm') := by
  obtain ⟨g1, g2, g3⟩ := id h
  obtain ⟨f1, m0, m1, m2, m3, m4⟩ := hC
  have n0 : eX6_number 0 Vm = some (Vc (89 + 9 * q) 2) := by rw [← m0]; exact num_n (k := 0) g1 g2 (by omega)
  have n1 : eX6_number 1 Vm = some (Vc (89 + 9 * q) 3) := by rw [← m1]; exact num_n (k := 1) g1 g2 (by omega)
  have n2 : eX6_number 2 Vm = some (Vc (89 + 9 * q) 4) := by rw [← m2]; exact num_n (k := 2) g1 g2 (by omega)
  have n3 : eX6_number 3 Vm = some (Vc (89 + 9 * q) 5) := by rw [← m3]; exact num_n (k := 3) g1 g2 (by omega)
  have n4 : eX6_number 4 Vm = some (Vc (89 + 9 * q) 6) := by rw [← m4]; exact num_n (k := 4) g1 g2 (by omega)
  have c0 : ¬ (4 : Int32) = 0 := by decide
  have c1 : ¬ (4 : Int32) = 1 := by decide
  have c2 : ¬ (4 : Int32) = 2 := by decide
  have c3 : ¬ (4 : Int32) = 3 := by decide
  have hat : eX5_isAsTold (89 + 9 * q) Vc = (eX5_areIdsAsTold (89 + 9 * q) Vc).bind fun r38 => if r38 = 0 then some 0 else (eX5_isChangeAsTold (89 + 9 * q) Vc).bind fun r41 => if r41 = 0 then some 0 else some 1 := by
    unfold eX5_isAsTold
    rw [f1, if_neg c0, if_neg c1, if_neg c2, if_neg c3, if_pos rfl]
  have hob : eX5_oneBeside (89 + 9 * q) Vc = (eX5_tellsOneByV (89 + 9 * q) Vc).bind fun r3 => if r3 = 0 then some 0 else some (Vc (89 + 9 * q) 6) := by
    unfold eX5_oneBeside
    rw [f1, if_neg c3, if_pos rfl]
  unfold eX5_refusalOf
  rw [hat]
  rcases within_c (Vc (89 + 9 * q) 2) 0 1 Vm with ⟨w, -⟩ | ⟨w, wl, wr⟩
  · -- no kind
    left
    have hcat : eX5_isChangeAsTold (89 + 9 * q) Vc = some 0 := by
      unfold eX5_isChangeAsTold
      rw [within_x _ _ _ Vc Vm, w]; rfl
    refine ⟨-2, by decide, ?_, ?_⟩
    · rcases ids_check h (89 + 9 * q) with ⟨i1, -⟩ | ⟨i1, -⟩
      · rw [i1]; rfl
      · rw [i1, Option.bind_some, if_neg (show ¬ (1 : Int32) = 0 by decide), hcat]; rfl
    · unfold eX6_doChange
      rw [n0, Option.bind_some, n3, Option.bind_some, n4, Option.bind_some, w]; rfl
  · obtain ⟨κ, hκ, eκ⟩ := btw (k := 1) (by omega) wl wr
    rcases ids_check h (89 + 9 * q) with ⟨i1, i2⟩ | ⟨i1, i2, hids⟩
    · left
      refine ⟨-2, by decide, by rw [i1]; rfl, ?_⟩
      unfold eX6_doChange
      rw [n0, Option.bind_some, n3, Option.bind_some, n4, Option.bind_some, w, Option.bind_some, if_neg (show ¬ (1 : Int32) = 0 by decide), n1, Option.bind_some, n2, Option.bind_some, i2]; rfl
    · rw [i1, Option.bind_some, if_neg (show ¬ (1 : Int32) = 0 by decide)]
      rcases within_c (Vc (89 + 9 * q) 5) 0 2 Vm with ⟨z, -⟩ | ⟨z, zl, zr⟩
      · left
        have hcat : eX5_isChangeAsTold (89 + 9 * q) Vc = some 0 := by
          unfold eX5_isChangeAsTold
          rw [within_x _ _ _ Vc Vm, w, Option.bind_some, if_neg (show ¬ (1 : Int32) = 0 by decide), within_x _ _ _ Vc Vm, z]; rfl
        refine ⟨-2, by decide, by rw [hcat]; rfl, ?_⟩
        unfold eX6_doChange
        rw [n0, Option.bind_some, n3, Option.bind_some, n4, Option.bind_some, w, Option.bind_some, if_neg (show ¬ (1 : Int32) = 0 by decide), n1, Option.bind_some, n2, Option.bind_some, i2, Option.bind_some, if_neg (show ¬ (1 : Int32) = 0 by decide), z]; rfl
      · obtain ⟨u, hu, eu⟩ := btw (k := 2) (by omega) zl zr
        have hmd := md_n (W := Vm) g1 g2 (show κ < 2 by omega) hu (m0.trans eκ) (m3.trans eu) (by rw [m1, m2]; exact i2)
        rw [m4] at hmd
        rw [cat_n (W := Vm) (show κ < 2 by omega) hu eκ eu, hmd]
        have b145 : ∀ s0 : Int32, s0 = 0 ∨ s0 = 1 → eX6_doChange_b145 (nI κ) (nI u) (Vc (89 + 9 * q) 6) s0 1 Vm = (eX6_areIds (Vc (89 + 9 * q) 3) (Vc (89 + 9 * q) 4) Vm).bind fun r29 => if r29 = 0 then some ((-5), Vm) else if s0 = 0 then eX6_doChange_b188 (nI κ) (nI u) (Vc (89 + 9 * q) 6) s0 Vm else (eX6_isOne (Vc (89 + 9 * q) 6) Vm).bind fun r66 => if r66 = 0 then some ((-5), Vm) else eX6_doChange_b188 (nI κ) (nI u) (Vc (89 + 9 * q) 6) s0 Vm := fun s0 _ => by
          unfold eX6_doChange_b145
          rw [if_neg (show ¬ (1 : Int32) = 0 by decide), n1, Option.bind_some, n2, Option.bind_some]
        by_cases ht : tl κ u
        · rw [if_pos ht, if_pos ht]
          simp only [Option.bind_some, I10, if_false]
          rw [dnh, hob, tell_T (show κ < 2 by omega) hu eκ eu ht]
          simp only [Option.bind_some, I10, if_false]
          rcases hids with ⟨i3, i4⟩ | ⟨i3, i4, i5⟩
          · left
            refine ⟨-5, by decide, by rw [i3]; rfl, ?_⟩
            rw [b145 _ (by split <;> simp), i4]; rfl
          · rw [i3]
            simp only [Option.bind_some, I10, if_false]
            by_cases e : κ = 0 ∧ Vc (89 + 9 * q) 6 = 1000
            · right
              have hh : eX5_doesOneHold (Vc (89 + 9 * q) 6) (nI q) Vc = some 1 := by
                rw [e.2]; unfold eX5_doesOneHold; rw [if_pos (by decide)]
              have hu1 : u = 1 := by rcases ht with ⟨-, a⟩ | ⟨a, -⟩ <;> omega
              refine ⟨by rw [hh]; rfl, i5, κ, u, -9, by omega, hu, eκ, eu, ⟨fun _ _ => Or.inl rfl, fun a => by omega⟩, ⟨fun a => absurd ht a, fun _ _ => by rw [e.2]; rfl, fun _ a => by omega⟩, fun Vm' ht' _ => ?_⟩
              rw [if_pos e, b145 0 (Or.inl rfl), i4, Option.bind_some, if_neg (show ¬ (1 : Int32) = 0 by decide), if_pos rfl]
              unfold eX6_doChange_b188
              rw [n1, Option.bind_some, n2, Option.bind_some, ht', Option.bind_some, if_pos rfl, e.1, if_pos (show nI 0 = 0 from rfl), hu1, if_pos (show nI 1 = 1 from rfl)]
            · rw [if_neg e, b145 1 (Or.inr rfl), i4]
              simp only [Option.bind_some, I10, if_false]
              rcases isOne_n h (Vc (89 + 9 * q) 6) with ⟨o1, o2⟩ | ⟨o1, o2, i, hi, o3, o4⟩
              · left
                exact ⟨-5, by decide, by rw [o1]; rfl, by rw [o2]; rfl⟩
              · right
                refine ⟨by rw [o1]; rfl, i5, κ, u, nI i, by omega, hu, eκ, eu, ⟨fun _ _ => Or.inr ⟨i, hi, rfl⟩, fun a => ⟨i, hi, rfl, fun b => ?_⟩⟩, ⟨fun a => absurd ht a, fun _ a => ?_, fun _ a => o3⟩, fun Vm' ht' h10 => ?_⟩
                · rcases ht with ⟨a2, b2⟩ | ⟨a2, b2⟩ <;> omega
                · unfold eX5_parentOf
                  rw [if_neg (fun b => e ⟨a, b⟩), o3]; rfl
                · rw [o2]
                  simp only [Option.bind_some, I10, if_false]
                  unfold eX6_doChange_b188
                  rw [n1, Option.bind_some, n2, Option.bind_some, ht', Option.bind_some, if_neg (by decide), oneOf_fr h10, o4, Option.bind_some]
        · rw [if_neg ht, if_neg ht]
          rcases within_c (Vc (89 + 9 * q) 6) 0 (nI (topV κ u)) Vm with ⟨y, -⟩ | ⟨y, yl, yr⟩
          · left
            exact ⟨-2, by decide, by rw [y]; rfl, by rw [y]; rfl⟩
          · rw [y]
            simp only [Option.bind_some, I10, if_false]
            rw [dnh, hob, tell_F (show κ < 2 by omega) hu eκ eu ht]
            simp only [Option.bind_some, I00, if_true]
            rw [hold0, b145 0 (Or.inl rfl)]
            rcases hids with ⟨i3, i4⟩ | ⟨i3, i4, i5⟩
            · left
              exact ⟨-5, by decide, by rw [i3]; rfl, by rw [i4]; rfl⟩
            · right
              rw [i3, i4]
              have htop : topV κ u < 2147483648 := topV_lt κ u
              obtain ⟨x, hx, ex⟩ := btw htop yl yr
              refine ⟨rfl, i5, κ, u, Vc (89 + 9 * q) 6, by omega, hu, eκ, eu, ⟨fun a b => absurd (Or.inl ⟨a, b⟩) ht, fun a => ⟨x, by omega, ex, fun b => ?_⟩⟩, ⟨fun _ => rfl, fun a => absurd a ht, fun a => absurd a ht⟩, fun Vm' ht' h10 => ?_⟩
              · unfold topV at hx; rw [if_pos a] at hx; exact hx
              · simp only [Option.bind_some, I10, I00, if_false, if_true]
                unfold eX6_doChange_b188
                rw [n1, Option.bind_some, n2, Option.bind_some, ht', Option.bind_some, if_pos rfl]
                have hc : κ = 0 ∨ κ = 1 := by omega
                rcases hc with rfl | rfl
                · have u1 : ¬ nI u = 1 := fun a => ht (Or.inl ⟨rfl, (nI_eq (a := u) (b := 1) (by omega) (by omega)).mp a⟩)
                  rw [if_pos (show nI 0 = 0 from rfl), if_neg u1]
                · rw [if_neg (show ¬ nI 1 = 0 by decide)]
