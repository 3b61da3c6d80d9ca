
/-! behind a call: the three kinds -/
def BI (Vs Ws : Mm) (w0 w : Nat → Int32) (nb0 nm0 nt0 nb nm nt : Nat) (s0 : Nat → Nat) (κ : Nat) (V W : Mm) (s : Nat → Nat) : Prop :=
  frS Vs Ws V W ∧ stS V W s ∧ (∀ k, κ ≤ k → s k = s0 k) ∧ (∀ k, s k ≤ s0 k + 1) ∧ lgS w0 w nb0 nm0 nt0 nb nm nt s0 s s 3 0 0 V W ∧ (∀ k, k < κ → k < 3 → V (oK k) 7 = 0 ∧ ∀ i, i < 50 → V (oK k + 23) i = 0) ∧ (∀ k, κ ≤ k → k < 3 → V (oK k) 7 = Vs (oK k) 7 ∧ ∀ i, i < 50 → V (oK k + 23) i = Vs (oK k + 23) i)
theorem oK_ne {k κ : Nat} (h : k ≠ κ) (hk : k < 3) (hκ : κ < 3) : oK k ≠ oK κ ∧ oK k ≠ oK κ + 23 ∧ oK k + 23 ≠ oK κ ∧ oK k + 23 ≠ oK κ + 23 := by unfold oK; omega
theorem kind_n {Vs Ws V W : Mm} {w0 w : Nat → Int32} {nb0 nm0 nt0 nb nm nt κ f g : Nat} {s0 s : Nat → Nat} (hκ : κ < 3) (hwn0 : WN w0 nb0 nm0 nt0) (hwn : WN w nb nm nt) (hg : grow w0 w nb0 nm0 nt0 nb nm nt) (hb : ∀ k, k < 3 → s0 k < 50000) (hw : Ws 1 = w) (hw0 : Ws 2 = w0) (hev : ∀ k, k < 3 → Vs (oK k) 4 = nI (evK nb nm nt k)) (hT : TT Vs (whatK w0 w nb0 nm0 nt0 nb nm nt)) (h : BI Vs Ws w0 w nb0 nm0 nt0 nb nm nt s0 κ V W s) :
    ∃ V' W' s', eX5_logTouched_b2 (f + 1) (nI κ) V = eX5_logTouched_b2 f (nI (κ + 1)) V' ∧ eX6_settle_b2 (g + 1) (nI κ) W = eX6_settle_b2 g (nI (κ + 1)) W' ∧ BI Vs Ws w0 w nb0 nm0 nt0 nb nm nt s0 (κ + 1) V' W' s' := by
  obtain ⟨⟨f1, f2, f3, f4, f5⟩, hst, hs, hs1, hl, ht0, ht1⟩ := id h
  have h50 := evK_le (κ := κ) hwn
  have hoK := oK_b hκ
  have hoK3 := oK_3 hκ
  obtain ⟨T1, T2⟩ := hT κ hκ
  obtain ⟨g7, g23⟩ := ht1 κ (Nat.le_refl _) hκ
  have c3 : ¬ (3 : Int32) ≤ nI κ := by rw [show (3 : Int32) = nI 3 from rfl, n_le (by omega) (by omega)]; omega
  have hevle : evK nb0 nm0 nt0 κ ≤ evK nb nm nt κ := by
    obtain ⟨a, b, c, -⟩ := hg
    unfold evK
    split
    · exact a
    · split
      · exact b
      · exact c
  have hW2 : W 2 = w0 := by rw [f1 2 (by omega) (by omega) (by omega)]; exact hw0
  have hany := any_loop (W := W) (k2' := fun l1 V => eX6_settle_b2 g l1 V) hκ hwn0 hwn (fun x hx => by rw [f3 x hx, hw]) hW2 (hst κ hκ).2 (evK nb nm nt κ) fu 0 (by omega) (by unfold fu; omega)
  rw [eX5_logTouched_b2, if_neg c3, kindOf_n hκ, Option.bind_some, g7]
  rw [eX6_settle_b2, if_neg c3]
  have hany' : eX6_settle_b11 (fun l1 V => eX6_settle_b2 g l1 V) fu (nI κ) 0 0 W = _ := hany
  rw [hany']
  rcases T2 with ⟨t7, i, hi, hti⟩ | ⟨t7, htz⟩
  · -- some are touched
    have hiev := whatK_ev hκ hevle hti
    have ha : anyB (fun i => decide (whatK w0 w nb0 nm0 nt0 nb nm nt κ i ≠ 0)) (evK nb nm nt κ) = true := anyB_iff.mpr ⟨i, hiev, decide_eq_true hti⟩
    rw [t7, if_neg (show ¬ (1 : Int32) = 0 by decide), if_pos ha, (hst κ hκ).1, hs κ (Nat.le_refl _), show nI (s0 κ) + 1 = nI (s0 κ + 1) from n_add _ 1]
    have hl1 := lgS_open (s' := fun k => if k = κ then s0 κ + 1 else s k) (V' := wr V (oK κ) 6 (nI (s0 κ + 1))) (W' := wr W 1 (583 + κ) (nI (s0 κ + 1))) hl (hs κ (Nat.le_refl _)) (fun k => rfl) (fun k a b => wr_ne (by omega)) (fun k a b => wr_ne (by omega)) (wr_ne (by omega))
    have hsκ : (fun k => if k = κ then s0 κ + 1 else s k) κ = s0 κ + 1 := if_pos rfl
    obtain ⟨V2, W2, c', r1, r2, r3, r4, r5, r6, r7, r8, r9⟩ := note_loop (Ws := Ws) (s := fun k => if k = κ then s0 κ + 1 else s k) (k2 := fun l1 V => eX5_logTouched_b2 f l1 V) (k2' := fun l1 V => eX6_settle_b2 g l1 V) hκ hwn0 hwn hg hsκ (fun k hk => by
        have := hb k hk
        have := hs1 k
        by_cases e : k = κ
        · rw [if_pos e]; rw [e] at this; have := hb κ hκ; omega
        · rw [if_neg e]; omega) hw hw0 (evK nb nm nt κ) fu fu 0 (wr V (oK κ) 6 (nI (s0 κ + 1))) (wr V (oK κ) 6 (nI (s0 κ + 1))) (wr W 1 (583 + κ) (nI (s0 κ + 1))) s (by omega) (by unfold fu; omega) (by unfold fu; omega) (fun _ _ => rfl) (by rw [wr_in (by omega), f5 κ 4 hκ (by omega) (by omega)]; exact hev κ hκ) (fun x hx => by rw [wr_ne (by omega), g23 x hx]; exact T1 x hx) (by rw [wr_at]; exact congrArg nI hsκ.symm)
      (fun k a b c => by rw [wr_ne b]; exact f1 k a b c) (fun x hx => by rw [wr_ne (by omega)]; exact f2 x hx) (fun x hx => by rw [wr_in (by omega), f3 x hx, hw]) (fun k hk => by
        by_cases e : k = κ
        · subst e; rw [wr_at, if_pos rfl]
        · rw [wr_in (by omega), if_neg e]; exact (hst k hk).2)
      (by rw [if_pos rfl]; exact hl1) (by rw [if_pos rfl, hs κ (Nat.le_refl _)]; exact Nat.le_refl _) (Or.inr (fun x hx => absurd hx (by omega)))
    obtain ⟨V3, v1, v2, v3, v4, v5⟩ := forget_K (o := oK κ) (V0 := V2)
    refine ⟨V3, W2, fun k => if k = κ then s0 κ + 1 else s k, ?_, ?_, ⟨⟨fun k a b c => r4 k a b c, r5, fun j hj => ?_, fun k a b c d e e2 hk => ?_, fun k j hk a b => ?_⟩, fun k hk => ⟨?_, ?_⟩, fun k hk => ?_, fun k => ?_, ?_, fun k hk hk3 => ?_, fun k hk hk3 => ?_⟩⟩
    · have r1' : eX5_logTouched_b32 (fun l1 V => eX5_logTouched_b2 f l1 V) fu (nI κ) (oK κ) 0 (wr V (oK κ) 6 (nI (s0 κ + 1))) = _ := r1
      rw [r1', v1]
      rfl
    · exact r2
    · rw [r6, wr_in (by omega)]; exact f3 j hj
    · rw [v2 k (by rcases hoK3 with z | z | z <;> omega) (by omega), r3 k (by omega), wr_ne (by omega)]
      exact f4 k a b c d e e2 hk
    · by_cases e : k = κ
      · subst e
        rw [v3 j b, r3 (oK k) (by omega), wr_in a]; exact f5 k j hk a b
      · obtain ⟨q1, q2, q3, q4⟩ := oK_ne e hk hκ
        have := oK_b hk
        rw [v2 (oK k) q2 q1, r3 (oK k) (by omega), wr_ne q1]
        exact f5 k j hk a b
    · dsimp only
      by_cases e : k = κ
      · subst e
        rw [v3 6 (by omega), r3 (oK k) (by omega), wr_at, if_pos rfl]
      · obtain ⟨q1, q2, q3, q4⟩ := oK_ne e hk hκ
        have := oK_b hk
        rw [v2 (oK k) q2 q1, r3 (oK k) (by omega), wr_ne q1, if_neg e]
        exact (hst k hk).1
    · dsimp only
      rw [r6]
      by_cases e : k = κ
      · subst e; rw [wr_at, if_pos rfl]
      · rw [wr_in (by omega), if_neg e]; exact (hst k hk).2
    · dsimp only
      rw [if_neg (by omega)]; exact hs k (by omega)
    · dsimp only
      by_cases e : k = κ
      · rw [if_pos e, e]; exact Nat.le_refl _
      · rw [if_neg e]; exact hs1 k
    · refine lgS_close r7 (fun k hk => ?_) (fun k a b => v2 k (by omega) (by omega)) rfl
      by_cases e : k = κ
      · subst e
        rcases r9 with z | z
        · rw [z]; exact Nat.le_refl _
        · exact absurd (z i hiev) hti
      · rw [r8 k e, if_neg e]; exact Nat.le_refl _
    · by_cases e : k = κ
      · subst e; exact ⟨v4, v5⟩
      · obtain ⟨q1, q2, q3, q4⟩ := oK_ne e hk3 hκ
        have hkb := oK_b hk3
        have hk23 : oK k + 23 ≤ 75 := by unfold oK; omega
        rw [v2 (oK k) q2 q1, r3 (oK k) (by omega), wr_ne q1, v2 (oK k + 23) q4 q3, r3 (oK k + 23) (by omega), wr_ne q3]
        exact ht0 k (by omega) hk3
    · have e : k ≠ κ := by omega
      obtain ⟨q1, q2, q3, q4⟩ := oK_ne e hk3 hκ
      have hkb := oK_b hk3
      have hk23 : oK k + 23 ≤ 75 := by unfold oK; omega
      rw [v2 (oK k) q2 q1, r3 (oK k) (by omega), wr_ne q1, v2 (oK k + 23) q4 q3, r3 (oK k + 23) (by omega), wr_ne q3]
      exact ht1 k (by omega) hk3
  · have ha : ¬ anyB (fun i => decide (whatK w0 w nb0 nm0 nt0 nb nm nt κ i ≠ 0)) (evK nb nm nt κ) = true := fun z => by
      obtain ⟨i, hi, e⟩ := anyB_iff.mp z
      exact (of_decide_eq_true e) (htz i (by omega))
    rw [t7, if_pos rfl, if_neg ha, show nI κ + 1 = nI (κ + 1) from n_add κ 1]
    refine ⟨V, W, s, rfl, rfl, ⟨f1, f2, f3, f4, f5⟩, hst, fun k hk => hs k (by omega), hs1, hl, fun k hk hk3 => ?_, fun k hk hk3 => ht1 k (by omega) hk3⟩
    by_cases e : k = κ
    · subst e
      exact ⟨g7.trans t7, fun i hi => by rw [g23 i hi, T1 i hi, htz i hi]; rfl⟩
    · exact ht0 k (by omega) hk3
theorem settle_n {Vs Ws : Mm} {w0 w : Nat → Int32} {nb0 nm0 nt0 nb nm nt : Nat} {s0 : Nat → Nat} (hwn0 : WN w0 nb0 nm0 nt0) (hwn : WN w nb nm nt) (hg : grow w0 w nb0 nm0 nt0 nb nm nt) (hb : ∀ k, k < 3 → s0 k < 50000) (hw : Ws 1 = w) (hw0 : Ws 2 = w0) (hev : ∀ k, k < 3 → Vs (oK k) 4 = nI (evK nb nm nt k)) (hT : TT Vs (whatK w0 w nb0 nm0 nt0 nb nm nt)) (hst : stS Vs Ws s0) (hl : lgS w0 w nb0 nm0 nt0 nb nm nt s0 s0 s0 3 0 0 Vs Ws) :
    ∃ V' W' s', eX5_logTouched Vs = some V' ∧ eX6_settle Ws = some W' ∧ frS Vs Ws V' W' ∧ stS V' W' s' ∧ (∀ k, s' k ≤ s0 k + 1) ∧ lgS w0 w nb0 nm0 nt0 nb nm nt s0 s' s' 3 0 0 V' W' ∧ rClean V' := by
  have B0 : BI Vs Ws w0 w nb0 nm0 nt0 nb nm nt s0 0 Vs Ws s0 := ⟨⟨fun _ _ _ _ => rfl, fun _ _ => rfl, fun _ _ => rfl, fun _ _ _ _ _ _ _ _ => rfl, fun _ _ _ _ _ => rfl⟩, hst, fun _ _ => rfl, fun _ => by omega, hl, fun k hk => absurd hk (by omega), fun _ _ _ => ⟨rfl, fun _ _ => rfl⟩⟩
  obtain ⟨V1, W1, s1, a1, a2, B1⟩ := kind_n (f := 2999) (g := 2999) (show 0 < 3 by omega) hwn0 hwn hg hb hw hw0 hev hT B0
  obtain ⟨V2, W2, s2, b1, b2, B2⟩ := kind_n (f := 2998) (g := 2998) (show 0 + 1 < 3 by omega) hwn0 hwn hg hb hw hw0 hev hT B1
  obtain ⟨V3, W3, s3, c1, c2, B3⟩ := kind_n (f := 2997) (g := 2997) (show 0 + 1 + 1 < 3 by omega) hwn0 hwn hg hb hw hw0 hev hT B2
  obtain ⟨d1, d2, d3, d4, d5, d6, d7⟩ := B3
  have h3 : (3 : Int32) ≤ nI (0 + 1 + 1 + 1) := by decide
  refine ⟨V3, W3, s3, ?_, ?_, d1, d2, d4, d5, ⟨⟨(d6 0 (by omega) (by omega)).1, (d6 1 (by omega) (by omega)).1, (d6 2 (by omega) (by omega)).1⟩, fun j hj => ⟨(d6 0 (by omega) (by omega)).2 j hj, (d6 1 (by omega) (by omega)).2 j hj, (d6 2 (by omega) (by omega)).2 j hj⟩⟩⟩
  · show eX5_logTouched_b2 (2999 + 1) (nI 0) Vs = _
    rw [a1]
    show eX5_logTouched_b2 (2998 + 1) (nI (0 + 1)) V1 = _
    rw [b1]
    show eX5_logTouched_b2 (2997 + 1) (nI (0 + 1 + 1)) V2 = _
    rw [c1]
    show eX5_logTouched_b2 (2996 + 1) (nI (0 + 1 + 1 + 1)) V3 = _
    rw [eX5_logTouched_b2, if_pos h3]
  · show eX6_settle_b2 (2999 + 1) (nI 0) Ws = _
    rw [a2]
    show eX6_settle_b2 (2998 + 1) (nI (0 + 1)) W1 = _
    rw [b2]
    show eX6_settle_b2 (2997 + 1) (nI (0 + 1 + 1)) W2 = _
    rw [c2]
    show eX6_settle_b2 (2996 + 1) (nI (0 + 1 + 1 + 1)) W3 = _
    rw [eX6_settle_b2, if_pos h3]
/-- the log ahead of a call, for what stands behind it -/
theorem lgS_start {Vc Vm Vs Ws : Mm} {w0 w : Nat → Int32} {nb0 nm0 nt0 nb nm nt k : Nat} (hlog : rLog Vc Vm) (hinv : rLogInv k Vm) (hwn0 : WN (Vm 1) nb0 nm0 nt0) (hg : grow (Vm 1) w nb0 nm0 nt0 nb nm nt) (h0 : ∀ j, j < 586 → w0 j = Vm 1 j) (hV : ∀ c, 76 ≤ c → c ≤ 82 → Vs c = Vc c) (hW : ∀ c, 11 ≤ c → c ≤ 15 → Ws c = Vm c) (hW0 : Ws 0 13 = Vm 0 13) :
    ∃ s0 : Nat → Nat, (∀ κ, κ < 3 → Vm 1 (583 + κ) = nI (s0 κ) ∧ s0 κ ≤ 12 * k) ∧ lgS w0 w nb0 nm0 nt0 nb nm nt s0 s0 s0 3 0 0 Vs Ws := by
  obtain ⟨n, s, d, K, St, Id, Wh, i1, i2, i3, i4, i5, i6, i7⟩ := hinv
  obtain ⟨n', f, l1, l2, l3, l4, l5, l6, l7⟩ := hlog
  have hn : n' = n := by rw [i2] at l4; exact ((nI_eq (by omega) (by omega)).mp l4).symm
  subst hn
  have hw0n : WN w0 nb0 nm0 nt0 := ⟨hwn0.b20, hwn0.m50, hwn0.tm, by rw [h0 _ (by omega)]; exact hwn0.eb, by rw [h0 _ (by omega)]; exact hwn0.em, by rw [h0 _ (by omega)]; exact hwn0.et⟩
  have hev0 : ∀ κ, κ < 3 → (Vm 1 (580 + κ)).toNatClampNeg = evK nb0 nm0 nt0 κ := fun κ hκ => by
    have := evK_le (κ := κ) hwn0
    rw [evK_w hwn0 hκ, n_cl (by omega)]
  have hevle : ∀ κ, evK nb0 nm0 nt0 κ ≤ evK nb nm nt κ := fun κ => by
    obtain ⟨a, b, c, -⟩ := hg
    unfold evK
    split
    · exact a
    · split
      · exact b
      · exact c
  refine ⟨s, fun κ hκ => ⟨(i3 κ hκ).1, (i3 κ hκ).2.1⟩, n', f, d, K, St, Id, Wh, ⟨by rw [hV 76 (by omega) (by omega)]; exact l3, by rw [hV 76 (by omega) (by omega)]; exact l5, l2, fun i hi => ?_, fun κ hκ => ?_⟩, ⟨by rw [hW0]; exact i2, fun i hi => ?_, fun κ hκ => ?_⟩, l1, fun κ hκ => (i3 κ hκ).2.2.2, fun j hj => ?_, fun a b hab hb hK => i5 a b hab hb hK, i6, fun κ t hκ h1 h2 => i7 κ t hκ h1 h2, fun j hj _ => ?_, fun j hj e1 _ => ?_⟩
  · obtain ⟨a, b, c, e⟩ := l6 i hi
    obtain ⟨p, q, r, u, -⟩ := i4 i hi
    rw [hV 78 (by omega) (by omega), hV 79 (by omega) (by omega), hV 80 (by omega) (by omega), hV 81 (by omega) (by omega)]
    exact ⟨a.trans p, b.trans q, c.trans r, e.trans u⟩
  · rw [hV 82 (by omega) (by omega)]; exact (l7 κ hκ).trans (i3 κ hκ).2.2.1
  · obtain ⟨p, q, r, u, -⟩ := i4 i hi
    rw [hW 11 (by omega) (by omega), hW 12 (by omega) (by omega), hW 13 (by omega) (by omega), hW 14 (by omega) (by omega)]
    exact ⟨p, q, r, u⟩
  · rw [hW 15 (by omega) (by omega)]; exact (i3 κ hκ).2.2.1
  · obtain ⟨-, -, -, -, p1, p2, p3, p4, p5, p6, p7, p8⟩ := i4 j hj
    rw [hev0 _ p1] at p5
    refine ⟨p1, p2, p3, p4, Nat.lt_of_lt_of_le p5 (hevle _), p6, p7, fun z y => p8 z ((thK_iff hwn0 p1).mpr (hg.2.2.2.1 _ _ p1 p5 y))⟩
  · obtain ⟨-, -, -, -, p1, p2, p3, p4, p5, p6, p7, p8⟩ := i4 j hj
    rw [hev0 _ p1] at p5
    refine ⟨p5, fun z y => p8 z ((thK_iff hwn0 p1).mpr ?_)⟩
    show isThb _ _ _ _ _ _ = true
    rw [← isThb_c0 h0 hw0n p1]
    exact y
  · have := (i4 j hj).2.2.2.2.1; omega
theorem lgS_end {V' W' : Mm} {w0 w : Nat → Int32} {nb0 nm0 nt0 nb nm nt k : Nat} {s0 s : Nat → Nat} (h : lgS w0 w nb0 nm0 nt0 nb nm nt s0 s s 3 0 0 V' W') (hwn : WN w nb nm nt) (hw : ∀ j, j < 583 → W' 1 j = w j) (hs : ∀ κ, κ < 3 → W' 1 (583 + κ) = nI (s κ) ∧ s κ ≤ 12 * k) : rLog V' W' ∧ rLogInv k W' := by
  obtain ⟨n, f, d, K, St, Id, Wh, ⟨a1, a2, a3, a4, a5⟩, ⟨b1, b2, b3⟩, h1, h2, h3, h4, h5, h6, h7, h8⟩ := h
  have hwn' : WN (W' 1) nb nm nt := ⟨hwn.b20, hwn.m50, hwn.tm, by rw [hw _ (by omega)]; exact hwn.eb, by rw [hw _ (by omega)]; exact hwn.em, by rw [hw _ (by omega)]; exact hwn.et⟩
  constructor
  · refine ⟨n, f, h1, a3, a1, b1, a2, fun i hi => ?_, fun κ hκ => (a5 κ hκ).trans (b3 κ hκ).symm⟩
    obtain ⟨p1, p2, p3, p4⟩ := a4 i hi
    obtain ⟨q1, q2, q3, q4⟩ := b2 i hi
    exact ⟨p1.trans q1.symm, p2.trans q2.symm, p3.trans q3.symm, p4.trans q4.symm⟩
  · refine ⟨n, s, d, K, St, Id, Wh, h1, b1, fun κ hκ => ⟨(hs κ hκ).1, (hs κ hκ).2, b3 κ hκ, h2 κ hκ⟩, fun i hi => ?_, fun i j hij hj hK => h4 i j hij hj hK, h5, fun κ t hκ x y => h6 κ t hκ x y⟩
    obtain ⟨q1, q2, q3, q4⟩ := b2 i hi
    obtain ⟨p1, p2, p3, p4, p5, p6, p7, p8⟩ := h3 i hi
    have hev := evK_le (κ := K i) hwn
    refine ⟨q1, q2, q3, q4, p1, p2, p3, p4, ?_, p6, p7, fun z y => p8 z ?_⟩
    · rw [evK_w hwn' p1, n_cl (by omega)]; exact p5
    · have := (thK_iff hwn' p1).mp y
      show isThb _ _ _ _ _ _ = true
      rw [← isThb_c1 (fun x hx => hw x (by omega)) hwn.b20 hwn.m50 p1]
      exact this
