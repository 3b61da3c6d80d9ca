
/-! CHANGES: the two ways to the last state agree -/
def cntC (n : Nat) (K St Id Wh : Nat → Nat) (κ s t : Nat) : Nat := cntF (fun j => bec K St Id Wh κ s t j n) 50
theorem inR_cg {K St Id : Nat → Nat} {κ j s t u i : Nat} (h : K i = κ → (St i ≤ t ↔ St i ≤ u)) : inR K St Id κ j s t i = inR K St Id κ j s u i := by
  unfold inR
  apply decide_eq_decide.mpr
  constructor
  · rintro ⟨a, b, c, d⟩; exact ⟨a, b, c, (h a).mp d⟩
  · rintro ⟨a, b, c, d⟩; exact ⟨a, b, c, (h a).mpr d⟩
theorem bec_lo {K St Id Wh : Nat → Nat} {κ s t u j : Nat} : ∀ i, (∀ l, l < i → K l = κ → (St l ≤ t ↔ St l ≤ u)) → bec K St Id Wh κ s t j i = bec K St Id Wh κ s u j i := by
  intro i
  induction i with
  | zero => intro _; rfl
  | succ i ih =>
    intro h
    have e := ih (fun l hl => h l (by omega))
    have e2 := inR_cg (Id := Id) (j := j) (s := s) (h i (by omega))
    by_cases hr : inR K St Id κ j s t i = true
    · rw [bec_T hr, bec_T (e2 ▸ hr), e]
    · rw [bec_F hr, bec_F (fun z => hr (e2 ▸ z)), e]
theorem bec_st {K St Id Wh : Nat → Nat} {κ s t j a : Nat} : ∀ d, (∀ l, a ≤ l → l < a + d → K l = κ → t < St l) → bec K St Id Wh κ s t j (a + d) = bec K St Id Wh κ s t j a := by
  intro d
  induction d with
  | zero => intro _; rfl
  | succ d ih =>
    intro h
    rw [← ih (fun l h1 h2 => h l h1 (by omega))]
    apply bec_F
    intro z
    have hz := of_decide_eq_true z
    have h1 := h (a + d) (by omega) (by omega) hz.1
    have h2 : St (a + d) ≤ t := hz.2.2.2
    omega
def LO (n : Nat) (K St : Nat → Nat) : Prop := (∀ i j, i < j → j < n → K i = K j → St i ≤ St j) ∧ ∀ i j l, i < j → j < l → l < n → K i = K l → St i = St l → K j = K i ∧ St j = St i
theorem after_last {n : Nat} {K St : Nat → Nat} (h : LO n K St) {l i : Nat} (hl : lastOf n K St l = true) (hli : l < i) (hin : i < n) (hK : K i = K l) : St l < St i := by
  have h1 := h.1 l i hli hin hK.symm
  rcases Nat.lt_or_ge (St l) (St i) with g | g
  · exact g
  · exfalso
    have he : St l = St i := by omega
    rcases of_decide_eq_true hl with z | z | z
    · omega
    · by_cases e : i = l + 1
      · rw [e] at hK; exact z hK
      · exact z (h.2 l (l + 1) i (by omega) (by omega) hin hK.symm he).1
    · by_cases e : i = l + 1
      · rw [e] at he; exact z he.symm
      · exact z (h.2 l (l + 1) i (by omega) (by omega) hin hK.symm he).2
theorem cnt_last {n κ s S l : Nat} {K St Id Wh : Nat → Nat} (h : LO n K St) (hS : ∀ i, i < n → K i = κ → St i ≤ S) (hl : lastOf n K St l = true) (hln : l < n) (hK : K l = κ) : cntB K St Id Wh κ s S (l + 1) = cntC n K St Id Wh κ s (St l) := by
  unfold cntB cntC
  apply cntF_cg
  intro j _
  have e1 : bec K St Id Wh κ s S j (l + 1) = bec K St Id Wh κ s (St l) j (l + 1) := by
    apply bec_lo
    intro i hi hKi
    have a1 := hS i (by omega) hKi
    have a2 : St i ≤ St l := by
      by_cases e : i = l
      · rw [e]; exact Nat.le_refl _
      · exact h.1 i l (by omega) hln (hKi.trans hK.symm)
    exact ⟨fun _ => a2, fun _ => a1⟩
  have e2 : bec K St Id Wh κ s (St l) j (l + 1 + (n - (l + 1))) = bec K St Id Wh κ s (St l) j (l + 1) :=
    bec_st (n - (l + 1)) (fun i h1 h2 hKi => after_last h hl (by omega) (by omega) (hKi.trans hK.symm))
  rw [e1, ← e2]
  congr 1
  omega
/-- every state has a last entry -/
theorem has_last {n κ t : Nat} {K St : Nat → Nat} (h : LO n K St) : ∀ d i, i + d = n → i < n → K i = κ → St i = t → ∃ l, i ≤ l ∧ l < n ∧ K l = κ ∧ St l = t ∧ lastOf n K St l = true := by
  intro d
  induction d with
  | zero => intro i hi hin; omega
  | succ d ih =>
    intro i hi hin hK hSt
    by_cases hl : lastOf n K St i = true
    · exact ⟨i, Nat.le_refl _, hin, hK, hSt, hl⟩
    · have hn := fun z => hl (decide_eq_true z)
      have a1 : ¬ i + 1 = n := fun z => hn (Or.inl z)
      have a2 : K (i + 1) = K i := Classical.not_not.mp (fun z => hn (Or.inr (Or.inl z)))
      have a3 : St (i + 1) = St i := Classical.not_not.mp (fun z => hn (Or.inr (Or.inr z)))
      obtain ⟨l, l1, l2, l3⟩ := ih (i + 1) (by omega) (by omega) (a2.trans hK) (a3.trans hSt)
      exact ⟨l, by omega, l2, l3⟩
theorem best_i {n κ s S mx : Nat} {K St Id Wh : Nat → Nat} (h : LO n K St) (hS : ∀ i, i < n → K i = κ → St i ≤ S) : ∀ i, i ≤ n →
    (bestF n K St Id Wh κ s S mx i = -9 ∧ ∀ l, l < i → K l = κ → s < St l → lastOf n K St l = true → mx < cntC n K St Id Wh κ s (St l)) ∨
    (∃ l, l < i ∧ K l = κ ∧ s < St l ∧ lastOf n K St l = true ∧ bestF n K St Id Wh κ s S mx i = nI (St l) ∧ cntC n K St Id Wh κ s (St l) ≤ mx ∧ ∀ m, l < m → m < i → K m = κ → s < St m → lastOf n K St m = true → mx < cntC n K St Id Wh κ s (St m)) := by
  intro i
  induction i with
  | zero => intro _; left; exact ⟨rfl, fun l hl => absurd hl (by omega)⟩
  | succ i ih =>
    intro hi
    by_cases hc : K i = κ ∧ s < St i ∧ lastOf n K St i = true ∧ cntB K St Id Wh κ s S (i + 1) ≤ mx
    · right
      refine ⟨i, by omega, hc.1, hc.2.1, hc.2.2.1, bestF_T hc, ?_, fun m h1 h2 => by omega⟩
      rw [← cnt_last h hS hc.2.2.1 (by omega) hc.1]
      exact hc.2.2.2
    · rw [bestF_F hc]
      have hnew : K i = κ → s < St i → lastOf n K St i = true → mx < cntC n K St Id Wh κ s (St i) := by
        intro a b c
        rw [← cnt_last h hS c (by omega) a]
        rcases Nat.lt_or_ge mx (cntB K St Id Wh κ s S (i + 1)) with g | g
        · exact g
        · exact absurd ⟨a, b, c, g⟩ hc
      rcases ih (by omega) with ⟨g1, g2⟩ | ⟨l, l1, l2, l3, l4, l5, l6, l7⟩
      · left
        refine ⟨g1, fun l hl a b c => ?_⟩
        by_cases e : l = i
        · subst e; exact hnew a b c
        · exact g2 l (by omega) a b c
      · right
        refine ⟨l, by omega, l2, l3, l4, l5, l6, fun m h1 h2 a b c => ?_⟩
        by_cases e : m = i
        · subst e; exact hnew a b c
        · exact l7 m h1 (by omega) a b c
theorem best_n {n κ s S mx : Nat} {K St Id Wh : Nat → Nat} (h : LO n K St) (hS : ∀ i, i < n → K i = κ → St i ≤ S) (hcov : ∀ t, s < t → t ≤ S → ∃ i, i < n ∧ K i = κ ∧ St i = t) :
    (bestF n K St Id Wh κ s S mx n = -9 ∧ ∀ u, s < u → u ≤ S → mx < cntC n K St Id Wh κ s u) ∨
    (∃ t, s < t ∧ t ≤ S ∧ bestF n K St Id Wh κ s S mx n = nI t ∧ cntC n K St Id Wh κ s t ≤ mx ∧ ∀ u, t < u → u ≤ S → mx < cntC n K St Id Wh κ s u) := by
  rcases best_i (Id := Id) (Wh := Wh) (s := s) (mx := mx) h hS n (Nat.le_refl _) with ⟨g1, g2⟩ | ⟨l, l1, l2, l3, l4, l5, l6, l7⟩
  · left
    refine ⟨g1, fun u h1 h2 => ?_⟩
    obtain ⟨i, i1, i2, i3⟩ := hcov u h1 h2
    obtain ⟨m, m1, m2, m3, m4, m5⟩ := has_last h (n - i) i (by omega) i1 i2 i3
    rw [← m4]
    exact g2 m m2 m3 (by omega) m5
  · right
    refine ⟨St l, l3, hS l l1 l2, l5, l6, fun u h1 h2 => ?_⟩
    obtain ⟨i, i1, i2, i3⟩ := hcov u (by omega) h2
    obtain ⟨m, m1, m2, m3, m4, m5⟩ := has_last h (n - i) i (by omega) i1 i2 i3
    rw [← m4]
    refine l7 m ?_ m2 m3 (by omega) m5
    rcases Nat.lt_trichotomy l m with g | g | g
    · exact g
    · subst g; omega
    · have := h.1 m l g l1 (m3.trans l2.symm); omega
