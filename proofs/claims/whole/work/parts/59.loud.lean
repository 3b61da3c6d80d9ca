
/-! what a call does to the world: the shape of its result -/
def TT (Vc : Mm) (τ : Nat → Nat → Nat) : Prop := ∀ κ, κ < 3 → (∀ i, i < 50 → Vc (oK κ + 23) i = nI (τ κ i)) ∧ ((Vc (oK κ) 7 = 1 ∧ ∃ i, i < 50 ∧ τ κ i ≠ 0) ∨ (Vc (oK κ) 7 = 0 ∧ ∀ i, i < 50 → τ κ i = 0))
def grow (w0 w : Nat → Int32) (nb0 nm0 nt0 nb nm nt : Nat) : Prop := nb0 ≤ nb ∧ nm0 ≤ nm ∧ nt0 ≤ nt ∧ (∀ κ i, κ < 3 → i < evK nb0 nm0 nt0 κ → isTh w nb nm nt κ i → isTh w0 nb0 nm0 nt0 κ i) ∧ ∀ κ, κ < 3 → w (583 + κ) = w0 (583 + κ)
def loudR (q : Nat) (Vc Vm : Mm) (nb nm nt : Nat) (code : Int32) (Vc' Vm' : Mm) : Prop := frC q Vc Vc' ∧ frM q Vm Vm' ∧
  ((code = 0 ∧ (∀ r, r < 4 → rowRel Vc' Vm' q r) ∧ ∃ nb' nm' nt', WRel Vc' (Vm' 1) nb' nm' nt' ∧ WF (Vm' 1) nb' nm' nt' ∧ grow (Vm 1) (Vm' 1) nb nm nt nb' nm' nt' ∧ TT Vc' (whatK (Vm 1) (Vm' 1) nb nm nt nb' nm' nt')) ∨ (code ≠ 0 ∧ WRel Vc' (Vm 1) nb nm nt ∧ rClean Vc'))
def loud (q : Nat) (Vc Vm : Mm) (nb nm nt : Nat) : Prop := ∃ (code : Int32) (Vc' Vm' : Mm), callC q Vc = some (code, Vc') ∧ eX6_doCall Vm = some (code, Vm') ∧ loudR q Vc Vm nb nm nt code Vc' Vm'
theorem TT_congr {Vc : Mm} {τ σ : Nat → Nat → Nat} (h : TT Vc τ) (e : ∀ κ i, κ < 3 → i < 50 → σ κ i = τ κ i) : TT Vc σ := by
  intro κ hκ
  obtain ⟨h1, h2⟩ := h κ hκ
  refine ⟨fun i hi => by rw [e κ i hκ hi]; exact h1 i hi, ?_⟩
  rcases h2 with ⟨a, i, hi, b⟩ | ⟨a, b⟩
  · exact Or.inl ⟨a, i, hi, by rw [e κ i hκ hi]; exact b⟩
  · exact Or.inr ⟨a, fun i hi => by rw [e κ i hκ hi]; exact b i hi⟩
theorem TT_stay {V W : Mm} {τ : Nat → Nat → Nat} (h : TT V τ) (hk : ∀ k, 4 ≤ k → k ≤ 75 → W k = V k) : TT W τ := by
  intro κ hκ
  have := oK_b hκ
  rw [hk (oK κ + 23) (by omega) (by omega), hk (oK κ) (by omega) (by omega)]
  exact h κ hκ
theorem TT_clean {V : Mm} (h : rClean V) : TT V (fun _ _ => 0) := by
  obtain ⟨⟨a, b, c⟩, d⟩ := h
  intro κ hκ
  have : κ = 0 ∨ κ = 1 ∨ κ = 2 := by omega
  rcases this with rfl | rfl | rfl
  · exact ⟨fun i hi => (d i hi).1, Or.inr ⟨a, fun _ _ => rfl⟩⟩
  · exact ⟨fun i hi => (d i hi).2.1, Or.inr ⟨b, fun _ _ => rfl⟩⟩
  · exact ⟨fun i hi => (d i hi).2.2, Or.inr ⟨c, fun _ _ => rfl⟩⟩
theorem oth_self {w : Nat → Int32} {nm κ i : Nat} : othB w w nm nm κ i = false := by
  rw [Bool.eq_false_iff]
  intro z
  obtain ⟨x, hx, e⟩ := anyB_iff.mp z
  unfold othp at e
  split at e
  · have := of_decide_eq_true e; exact this.2 rfl
  · split at e
    · have := of_decide_eq_true e; exact this.2 rfl
    · simp at e
theorem whatK_self {w : Nat → Int32} {nb nm nt κ i : Nat} : whatK w w nb nm nt nb nm nt κ i = 0 := by
  unfold whatK
  rw [if_pos rfl, oth_self]
  split <;> rfl
theorem quiet_loud {q nb nm nt : Nat} {Vc Vm : Mm} (h : CS q Vc Vm nb nm nt) (hq : quiet q Vc Vm) : loud q Vc Vm nb nm nt := by
  obtain ⟨hA, hC, hW, hF, hfil, hlog, hinv, hcl, hrow, h2⟩ := h
  obtain ⟨code, Vc', Vm', e1, e2, e3, e4, ⟨s1, s2⟩, e6⟩ := hq
  refine ⟨code, Vc', Vm', e1, e2, e3, e4, ?_⟩
  have hW' := WRel_stay hW s1
  by_cases h0 : code = 0
  · left
    refine ⟨h0, e6 h0, nb, nm, nt, by rw [s2]; exact hW', by rw [s2]; exact hF, ⟨Nat.le_refl _, Nat.le_refl _, Nat.le_refl _, fun κ i _ _ z => by rw [s2] at z; exact z, fun κ _ => by rw [s2]⟩, ?_⟩
    rw [s2]
    exact TT_congr (TT_stay (TT_clean hcl) s1) (fun κ i _ _ => whatK_self)
  · right
    exact ⟨h0, hW', rClean_stay hcl s1⟩
theorem cntT_congr {w v : Nat → Int32} {nm t : Nat} (h : ∀ m, m < nm → v (80 + 10 * m) = w (80 + 10 * m) ∧ v (80 + 10 * m + 8) = w (80 + 10 * m + 8)) : cntT v nm t = cntT w nm t := by
  unfold cntT
  apply cnt_congr
  intro j hj
  unfold thM
  rw [(h j hj).1, (h j hj).2]
/-- only boxes change -/
theorem WRel_box {V V' : Mm} {w w' : Nat → Int32} {nb nm nt nb' : Nat} (h : WRel V w nb nm nt) (hm : ∀ k, 80 ≤ k → k < 586 → k ≠ 580 → w' k = w k) (h580 : w' 580 = nI nb') (h20 : nb' ≤ 20) (hk : ∀ k, 28 ≤ k → k ≤ 75 → V' k = V k)
    (h3 : V' 4 3 = V 4 3) (h4 : V' 4 4 = nI nb') (h6 : V' 4 6 = V 4 6) (hb : ∀ b, b < nb' → V' 15 b = w' (4 * b) ∧ V' 6 b = w' (4 * b + 1) ∧ V' 7 b = w' (4 * b + 2) ∧ V' 8 b = w' (4 * b + 3)) (hb2 : ∀ b, nb' ≤ b → b < 50 → V' 15 b = 0) : WRel V' w' nb' nm nt := by
  obtain ⟨⟨a1, a1b, a1c⟩, ⟨b1, b2, b3⟩, ⟨c1, c2, c3⟩, ⟨d1, d2, d3⟩, ⟨f1, f2, f3⟩, a6, a7, a8, a9, a10, a11⟩ := h
  have e28 := hk 28 (by omega) (by omega)
  have e52 := hk 52 (by omega) (by omega)
  have e39 := hk 39 (by omega) (by omega)
  have e54 := hk 54 (by omega) (by omega)
  have e63 := hk 63 (by omega) (by omega)
  refine ⟨⟨h20, a1b, a1c⟩, ⟨h580, ?_, ?_⟩, ⟨h4, ?_, ?_⟩, ⟨by rw [h3]; exact d1, ?_, ?_⟩, ⟨?_, ?_, ?_⟩, hb, hb2, fun m hm2 => ⟨?_, fun c hc => ?_⟩, ?_, fun t ht => ?_, ?_⟩
  · rw [hm 581 (by omega) (by omega) (by omega)]; exact b2
  · rw [hm 582 (by omega) (by omega) (by omega)]; exact b3
  · rw [e28]; exact c2
  · rw [e52]; exact c3
  · rw [e28]; exact d2
  · rw [e52]; exact d3
  · rw [h6, hm 583 (by omega) (by omega) (by omega)]; exact f1
  · rw [e28, hm 584 (by omega) (by omega) (by omega)]; exact f2
  · rw [e52, hm 585 (by omega) (by omega) (by omega)]; exact f3
  · rw [e39, hm _ (by omega) (by omega) (by omega)]; exact (a8 m hm2).1
  · rw [hk (30 + c) (by omega) (by omega), hm _ (by omega) (by omega) (by omega)]; exact (a8 m hm2).2 c hc
  · rw [e39]; exact a9
  · rw [e54, e63, cntT_congr (w := w) (v := w') (fun m hm2 => ⟨hm _ (by omega) (by omega) (by omega), hm _ (by omega) (by omega) (by omega)⟩)]
    exact a10 t ht
  · rw [e63, e54]; exact a11
theorem WF_box {w w' : Nat → Int32} {nb nm nt nb' : Nat} (h : WF w nb nm nt) (h50 : nm ≤ 50) (hm : ∀ k, 80 ≤ k → k < 580 → w' k = w k) (h1 : ∀ b, b < nb' → w' (4 * b) = 0 ∨ w' (4 * b) = 1) (h2 : parOK w' nb') (h3 : ∃ d, dpt w' nb' d)
    (h4 : ∀ b c, b < nb' → c < nb' → b ≠ c → w' (4 * b) = 1 → w' (4 * c) = 1 → w' (4 * b + 2) = w' (4 * c + 2) → w' (4 * b + 1) ≠ w' (4 * c + 1))
    (h7 : ∀ b m, b < nb → w (4 * b) = 1 → m < nm → w (80 + 10 * m) = 1 → (bitsOf w m).testBit b = true → b < nb' ∧ w' (4 * b) = 1) : WF w' nb' nm nt := by
  have g := h
  obtain ⟨a1, a2, a3, a4, a5, a6, a7⟩ := h
  have q0 : ∀ m, m < nm → w' (80 + 10 * m) = w (80 + 10 * m) := fun m hm2 => hm _ (by omega) (by omega)
  have qc : ∀ m c, m < nm → c < 10 → w' (80 + 10 * m + c) = w (80 + 10 * m + c) := fun m c hm2 hc => hm _ (by omega) (by omega)
  refine ⟨h1, h2, h3, h4, fun m hm2 => by rw [q0 m hm2]; exact a5 m hm2, fun m hm2 => ?_, fun m hm2 => ?_⟩
  · rw [qc m 1 hm2 (by omega), qc m 5 hm2 (by omega), qc m 6 hm2 (by omega), qc m 7 hm2 (by omega), qc m 8 hm2 (by omega), qc m 9 hm2 (by omega)]
    exact a6 m hm2
  · rw [q0 m hm2, qc m 9 hm2 (by omega)]
    intro e1
    obtain ⟨b1, b2⟩ := a7 m hm2 e1
    refine ⟨b1, fun x hx hx2 b hb => ?_⟩
    obtain ⟨c1, c2⟩ := b2 x hx hx2 b hb
    refine h7 b m c1 c2 hm2 e1 ?_
    obtain ⟨d1, d2⟩ := WF_bits g hm2
    rw [d2] at hx
    rw [(nI_eq (by omega) (by omega)).mp hx]
    exact hb
