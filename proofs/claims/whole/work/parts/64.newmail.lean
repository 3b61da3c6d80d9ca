
/-! the world with one mail more -/
theorem WRel_mail {V V' : Mm} {w w' : Nat → Int32} {nb nm nt nm' nt' : Nat} (h : WRel V w nb nm nt) (hb : ∀ k, k < 80 → w' k = w k) (h580 : w' 580 = w 580) (h581 : w' 581 = nI nm') (h582 : w' 582 = nI nt') (hst : ∀ κ, κ < 3 → w' (583 + κ) = w (583 + κ)) (b1 : nm' ≤ 50) (b2 : nt' ≤ nm')
    (hk : ∀ k, 4 ≤ k → k ≤ 26 → V' k = V k) (c1 : V' 28 3 = V 28 3) (c2 : V' 28 4 = nI nm') (c3 : V' 28 6 = V 28 6) (c4 : V' 52 3 = V 52 3) (c5 : V' 52 4 = nI nt') (c6 : V' 52 6 = V 52 6)
    (hm : ∀ m, m < nm' → V' 39 m = w' (80 + 10 * m) ∧ ∀ c, c < 9 → V' (30 + c) m = w' (80 + 10 * m + 1 + c)) (hm2 : ∀ m, nm' ≤ m → m < 50 → V' 39 m = 0)
    (ht : ∀ t, t < nt' → V' 54 t = nI (cntT w' nm' t) ∧ V' 63 t = b2i (0 < cntT w' nm' t)) (ht2 : ∀ t, nt' ≤ t → t < 50 → V' 63 t = 0 ∧ V' 54 t = 0) : WRel V' w' nb nm' nt' := by
  obtain ⟨⟨a1, a1b, a1c⟩, ⟨p1, p2, p3⟩, ⟨q1, q2, q3⟩, ⟨d1, d2, d3⟩, ⟨f1, f2, f3⟩, a6, a7, a8, a9, a10, a11⟩ := h
  have e4 := hk 4 (by omega) (by omega)
  have s0 := hst 0 (by omega)
  have s1 := hst 1 (by omega)
  have s2 := hst 2 (by omega)
  refine ⟨⟨a1, b1, b2⟩, ⟨by rw [h580]; exact p1, h581, h582⟩, ⟨by rw [e4]; exact q1, c2, c5⟩, ⟨by rw [e4]; exact d1, by rw [c1]; exact d2, by rw [c4]; exact d3⟩, ⟨by rw [e4]; exact f1.trans s0.symm, by rw [c3]; exact f2.trans s1.symm, by rw [c6]; exact f3.trans s2.symm⟩, fun b hb2 => ?_, ?_, hm, hm2, ht, ht2⟩
  · rw [hk 15 (by omega) (by omega), hk 6 (by omega) (by omega), hk 7 (by omega) (by omega), hk 8 (by omega) (by omega), hb _ (by omega), hb _ (by omega), hb _ (by omega), hb _ (by omega)]
    exact a6 b hb2
  · rw [hk 15 (by omega) (by omega)]; exact a7
theorem WF_mail {w w' : Nat → Int32} {nb nm nt nm' nt' : Nat} (h : WF w nb nm nt) (h20 : nb ≤ 20) (hb : ∀ k, k < 80 → w' k = w k) (h5 : ∀ m, m < nm' → w' (80 + 10 * m) = 0 ∨ w' (80 + 10 * m) = 1)
    (h6 : ∀ m, m < nm' → (∃ x, x ≤ 99 ∧ w' (80 + 10 * m + 1) = nI x) ∧ (∃ x, x ≤ 9999 ∧ w' (80 + 10 * m + 5) = nI x) ∧ (∃ x, x ≤ 9999 ∧ w' (80 + 10 * m + 6) = nI x) ∧ (∃ x, x ≤ 15 ∧ w' (80 + 10 * m + 7) = nI x) ∧ (∃ t, t < nt' ∧ w' (80 + 10 * m + 8) = nI t) ∧ (∃ x, x < 2 ^ 20 ∧ w' (80 + 10 * m + 9) = nI x))
    (h7 : ∀ m, m < nm' → w' (80 + 10 * m) = 1 → w' (80 + 10 * m + 9) ≠ 0 ∧ ∀ x, w' (80 + 10 * m + 9) = nI x → x < 2 ^ 20 → ∀ b, x.testBit b = true → b < nb ∧ w (4 * b) = 1) : WF w' nb nm' nt' := by
  obtain ⟨a1, a2, a3, a4, a5, a6, a7⟩ := h
  have o0 : ∀ b, b < nb → w' (4 * b) = w (4 * b) := fun b hb2 => hb _ (by omega)
  have o1 : ∀ b, b < nb → w' (4 * b + 1) = w (4 * b + 1) := fun b hb2 => hb _ (by omega)
  have o2 : ∀ b, b < nb → w' (4 * b + 2) = w (4 * b + 2) := fun b hb2 => hb _ (by omega)
  refine ⟨fun b hb2 => by rw [o0 b hb2]; exact a1 b hb2, fun b hb2 e => ?_, ?_, fun b c hb2 hc2 hbc e1 e2 e3 => ?_, h5, h6, fun m hm e => ?_⟩
  · rw [o0 b hb2] at e
    rw [o2 b hb2]
    rcases a2 b hb2 e with p | ⟨p, p1, p2, p3⟩
    · exact Or.inl p
    · exact Or.inr ⟨p, p1, p2, by rw [o0 p p1]; exact p3⟩
  · obtain ⟨d, hd⟩ := a3
    refine ⟨d, fun b hb2 e => ?_⟩
    rw [o0 b hb2] at e
    rw [o2 b hb2]
    exact hd b hb2 e
  · rw [o0 b hb2] at e1
    rw [o0 c hc2] at e2
    rw [o2 b hb2, o2 c hc2] at e3
    rw [o1 b hb2, o1 c hc2]
    exact a4 b c hb2 hc2 hbc e1 e2 e3
  · obtain ⟨p, g⟩ := h7 m hm e
    refine ⟨p, fun x hx hx2 b hb2 => ?_⟩
    obtain ⟨g1, g2⟩ := g x hx hx2 b hb2
    exact ⟨g1, by rw [o0 b g1]; exact g2⟩
theorem two_bit {b c : Nat} : (2 ^ b).testBit c = true → c = b := by
  rw [Nat.testBit_two_pow]
  intro h
  exact (of_decide_eq_true h).symm
theorem two_lt {b : Nat} (h : b < 20) : 2 ^ b < 2 ^ 20 := Nat.pow_lt_pow_right (by omega) h
/-- the new mail's part c+1, c < 7 -/
def mCol (D : Nat → Int32) (c : Nat) : Int32 := if c = 2 ∨ c = 3 then nm9 (D (3 + c)) else D (3 + c)
theorem newMail {V V' : Mm} {w w' : Nat → Int32} {nb nm nt nt' t b : Nat} {D : Nat → Int32} (h : WRel V w nb nm nt) (hF : WF w nb nm nt) (h50 : nm < 50) (hD : mBnd D) (hb : b < nb) (hb1 : w (4 * b) = 1)
    (htt : (nt' = nt ∧ t < nt ∧ 0 < cntT w nm t) ∨ (nt' = nt + 1 ∧ t = nt))
    (hw : ∀ k, k < 586 → k ≠ 581 → k ≠ 582 → (k < 80 + 10 * nm ∨ 90 + 10 * nm ≤ k) → w' k = w k) (h581 : w' 581 = nI (nm + 1)) (h582 : w' 582 = nI nt') (v0 : w' (80 + 10 * nm) = 1) (vc : ∀ c, c < 7 → w' (80 + 10 * nm + 1 + c) = mCol D c) (v8 : w' (80 + 10 * nm + 8) = nI t) (v9 : w' (80 + 10 * nm + 9) = nI (2 ^ b))
    (hk : ∀ k, 4 ≤ k → k ≤ 26 → V' k = V k) (c1 : V' 28 3 = V 28 3) (c2 : V' 28 4 = nI (nm + 1)) (c3 : V' 28 6 = V 28 6) (c4 : V' 52 3 = V 52 3) (c5 : V' 52 4 = nI nt') (c6 : V' 52 6 = V 52 6)
    (ho : ∀ c m, c < 10 → m ≠ nm → V' (30 + c) m = V (30 + c) m) (u0 : V' 39 nm = 1) (uc : ∀ c, c < 7 → V' (30 + c) nm = mCol D c) (u8 : V' 37 nm = nI t) (u9 : V' 38 nm = nI (2 ^ b))
    (ot : ∀ x, x ≠ t → V' 54 x = V 54 x ∧ V' 63 x = V 63 x) (t54 : V' 54 t = nI (cntT w nm t + 1)) (t63 : V' 63 t = 1) :
    (WRel V' w' nb (nm + 1) nt' ∧ WF w' nb (nm + 1) nt') ∧ (∀ x, x < 50 → cntT w' (nm + 1) x = cntT w nm x + if x = t then 1 else 0) := by
  have hwn := WRel_WN h
  have h3 := hwn.tm
  have hnt : nt' ≤ nm + 1 ∧ t < nt' ∧ nt ≤ nt' := by rcases htt with ⟨a, b, -⟩ | ⟨a, b⟩ <;> omega
  have o0 : ∀ m, m < nm → w' (80 + 10 * m) = w (80 + 10 * m) := fun m hm => hw _ (by omega) (by omega) (by omega) (by omega)
  have oc : ∀ m c, m < nm → c < 10 → w' (80 + 10 * m + c) = w (80 + 10 * m + c) := fun m c hm hc => hw _ (by omega) (by omega) (by omega) (by omega)
  have hcnt : ∀ x, x < 50 → cntT w' (nm + 1) x = cntT w nm x + if x = t then 1 else 0 := by
    intro x hx
    have e1 : cntT w' nm x = cntT w nm x := cntT_congr (fun m hm => ⟨o0 m hm, oc m 8 hm (by omega)⟩)
    unfold cntT at e1 ⊢
    rw [cnt_succ, e1]
    congr 1
    unfold thM
    rw [v0, v8]
    by_cases e : x = t
    · subst e
      rw [if_pos rfl]
      simp
    · rw [if_neg e]
      have : ¬ nI t = nI x := fun z => e ((nI_eq (by omega) (by omega)).mp z).symm
      simp [this]
  have g := h
  obtain ⟨a1, a2, a3, a4, a5, a6, a7, a8, a9, a10, a11⟩ := h
  have f0 : ∀ c m, c < 10 → m < nm → V' (30 + c) m = V (30 + c) m := fun c m hc hm => ho c m hc (by omega)
  refine ⟨⟨WRel_mail g (fun k hk => hw k (by omega) (by omega) (by omega) (by omega)) (hw _ (by omega) (by omega) (by omega) (by omega)) h581 h582 (fun κ hκ => hw _ (by omega) (by omega) (by omega) (by omega)) (by omega) hnt.1 hk c1 c2 c3 c4 c5 c6 (fun m hm => ?_) (fun m hm hm2 => ?_) (fun x hx => ?_) (fun x hx hx2 => ?_), WF_mail hF hwn.b20 (fun k hk => hw k (by omega) (by omega) (by omega) (by omega)) (fun m hm => ?_) (fun m hm => ?_) (fun m hm e => ?_)⟩, hcnt⟩
  · by_cases e : m = nm
    · subst e
      refine ⟨by rw [u0, v0], fun c hc => ?_⟩
      by_cases h7 : c < 7
      · rw [uc c h7, vc c h7]
      · have : c = 7 ∨ c = 8 := by omega
        rcases this with rfl | rfl
        · exact u8.trans v8.symm
        · exact u9.trans v9.symm
    · have hm' : m < nm := by omega
      refine ⟨?_, fun c hc => ?_⟩
      · rw [o0 m hm']; exact (f0 9 m (by omega) hm').trans (a8 m hm').1
      · rw [show 80 + 10 * m + 1 + c = 80 + 10 * m + (1 + c) by omega, oc m (1 + c) hm' (by omega), f0 c m (by omega) hm', ← show 80 + 10 * m + 1 + c = 80 + 10 * m + (1 + c) by omega]
        exact (a8 m hm').2 c hc
  · exact (ho 9 m (by omega) (by omega)).trans (a9 m (by omega) hm2)
  · rw [hcnt x (by omega)]
    by_cases e : x = t
    · subst e
      rw [if_pos rfl, t54, t63, b2i_T (by omega)]
      exact ⟨rfl, rfl⟩
    · rw [if_neg e, (ot x e).1, (ot x e).2]
      exact a10 x (by rcases htt with ⟨a, b, -⟩ | ⟨a, b⟩ <;> omega)
  · have e : x ≠ t := by omega
    rw [(ot x e).1, (ot x e).2]
    exact a11 x (by omega) hx2
  · by_cases e : m = nm
    · subst e; exact Or.inr v0
    · rw [o0 m (by omega)]; exact hF.2.2.2.2.1 m (by omega)
  · by_cases e : m = nm
    · subst e
      obtain ⟨⟨x3, y3, z3⟩, -, -, -, ⟨x7, y7, z7⟩, ⟨x8, y8, z8⟩, ⟨x9, y9, z9⟩⟩ := hD
      exact ⟨⟨x3, y3, (vc 0 (by omega)).trans z3⟩, ⟨x7, y7, (vc 4 (by omega)).trans z7⟩, ⟨x8, y8, (vc 5 (by omega)).trans z8⟩, ⟨x9, y9, (vc 6 (by omega)).trans z9⟩, ⟨t, hnt.2.1, v8⟩, ⟨2 ^ b, two_lt (by have := hwn.b20; omega), v9⟩⟩
    · have hm' : m < nm := by omega
      rw [oc m 1 hm' (by omega), oc m 5 hm' (by omega), oc m 6 hm' (by omega), oc m 7 hm' (by omega), oc m 8 hm' (by omega), oc m 9 hm' (by omega)]
      obtain ⟨r1, r2, r3, r4, ⟨y, y1, y2⟩, r6⟩ := hF.2.2.2.2.2.1 m hm'
      exact ⟨r1, r2, r3, r4, ⟨y, by omega, y2⟩, r6⟩
  · have hb20 := hwn.b20
    by_cases e2 : m = nm
    · subst e2
      rw [v9]
      have hpow := two_lt (b := b) (by omega)
      have hpos : 0 < 2 ^ b := Nat.two_pow_pos b
      refine ⟨fun z => ?_, fun x hx hx2 c hc => ?_⟩
      · have := (nI_eq (a := 2 ^ b) (b := 0) (by omega) (by omega)).mp z
        omega
      · have := (nI_eq (a := 2 ^ b) (b := x) (by omega) (by omega)).mp hx
        rw [← this] at hc
        rw [two_bit hc]
        exact ⟨hb, hb1⟩
    · have hm' : m < nm := by omega
      rw [o0 m hm'] at e
      rw [oc m 9 hm' (by omega)]
      exact hF.2.2.2.2.2.2 m hm' e
