
/-! CHANGE: the loop over its ids -/
theorem WRel_chW {V W : Mm} {nb nm nt κ x p : Nat} {y : Int32} (hW : WRel V (W 1) nb nm nt) (hκ : κ < 2) (hx : x < evK nb nm nt κ) (h1 : 1 ≤ p) (hp : p < recN κ) (h8 : κ = 1 → p ≠ 8) : WRel (chW κ x p y V) (wr W 1 (recI κ x p) y 1) nb nm nt := by
  have hwn := WRel_WN hW
  have b20 := hwn.b20
  have b50 := hwn.m50
  have b3 := hwn.tm
  have hc : κ = 0 ∨ κ = 1 := by omega
  rcases hc with rfl | rfl
  · have hx' : x < nb := hx
    have hp' : p < 4 := hp
    have e : chW 0 x p y V = wr (wr (wr V (5 + p) x y) 27 x 2) 4 7 1 := rfl
    rw [e, show recI 0 x p = 4 * x + p from rfl]
    refine WRel_box hW (fun k a b c => by rw [wr_in (by omega)]) (by rw [wr_in (by omega)]; exact hwn.eb) b20 (fun k a b => by rw [wr_ne (by omega), wr_ne (by omega), wr_ne (by omega)]) (by rw [wr_in (by omega), wr_ne (by omega), wr_ne (by omega)]) (by rw [wr_in (by omega), wr_ne (by omega), wr_ne (by omega)]; exact hW.2.2.1.1) (by rw [wr_in (by omega), wr_ne (by omega), wr_ne (by omega)]) (fun b hb => ?_) (fun b hb hb2 => ?_)
    · obtain ⟨q0, q1, q2, q3⟩ := hW.2.2.2.2.2.1 b hb
      have hps : p = 1 ∨ p = 2 ∨ p = 3 := by omega
      by_cases eb : b = x
      · subst eb
        rcases hps with rfl | rfl | rfl
        · refine ⟨?_, ?_, ?_, ?_⟩ <;> simp (disch := omega) only [wr_ne, wr_in, wr_at, Nat.reduceAdd] <;> assumption
        · refine ⟨?_, ?_, ?_, ?_⟩ <;> simp (disch := omega) only [wr_ne, wr_in, wr_at, Nat.reduceAdd] <;> assumption
        · refine ⟨?_, ?_, ?_, ?_⟩ <;> simp (disch := omega) only [wr_ne, wr_in, wr_at, Nat.reduceAdd] <;> assumption
      · rcases hps with rfl | rfl | rfl
        · refine ⟨?_, ?_, ?_, ?_⟩ <;> simp (disch := omega) only [wr_ne, wr_in, wr_at, Nat.reduceAdd] <;> assumption
        · refine ⟨?_, ?_, ?_, ?_⟩ <;> simp (disch := omega) only [wr_ne, wr_in, wr_at, Nat.reduceAdd] <;> assumption
        · refine ⟨?_, ?_, ?_, ?_⟩ <;> simp (disch := omega) only [wr_ne, wr_in, wr_at, Nat.reduceAdd] <;> assumption
    · rw [wr_ne (by omega), wr_ne (by omega), wr_ne (by omega)]
      exact hW.2.2.2.2.2.2.1 b hb hb2
  · have hx' : x < nm := hx
    have hp' : p < 10 := hp
    have h8' := h8 rfl
    have e : chW 1 x p y V = wr (wr (wr V (29 + p) x y) 51 x 2) 28 7 1 := rfl
    rw [e, show recI 1 x p = 80 + 10 * x + p from rfl]
    have hcn : ∀ t, cntT (wr W 1 (80 + 10 * x + p) y 1) nm t = cntT (W 1) nm t := fun t => cntT_congr (fun m hm => ⟨by rw [wr_in (by omega)], by rw [wr_in (by omega)]⟩)
    refine WRel_mail hW (fun k a => by rw [wr_in (by omega)]) (by rw [wr_in (by omega)]) (by rw [wr_in (by omega)]; exact hwn.em) (by rw [wr_in (by omega)]; exact hwn.et) (fun κ hκ => by rw [wr_in (by omega)]) b50 b3 (fun k a b => by rw [wr_ne (by omega), wr_ne (by omega), wr_ne (by omega)]) (by rw [wr_in (by omega), wr_ne (by omega), wr_ne (by omega)]) (by rw [wr_in (by omega), wr_ne (by omega), wr_ne (by omega)]; exact hW.2.2.1.2.1) (by rw [wr_in (by omega), wr_ne (by omega), wr_ne (by omega)])
      (by rw [wr_ne (by omega), wr_ne (by omega), wr_ne (by omega)]) (by rw [wr_ne (by omega), wr_ne (by omega), wr_ne (by omega)]; exact hW.2.2.1.2.2) (by rw [wr_ne (by omega), wr_ne (by omega), wr_ne (by omega)]) (fun m hm => ⟨?_, fun c hc => ?_⟩) (fun m hm hm2 => ?_) (fun t ht => ?_) (fun t ht ht2 => ?_)
    · rw [wr_ne (by omega), wr_ne (by omega), wr_ne (by omega), wr_in (by omega)]
      exact (hW.2.2.2.2.2.2.2.1 m hm).1
    · rw [wr_ne (by omega), wr_ne (by omega)]
      by_cases ec : c + 1 = p
      · rw [show 29 + p = 30 + c by omega]
        by_cases em : m = x
        · subst em
          rw [wr_at, show 80 + 10 * m + 1 + c = 80 + 10 * m + p by omega, wr_at]
        · rw [wr_in em, wr_in (by omega)]
          exact (hW.2.2.2.2.2.2.2.1 m hm).2 c hc
      · rw [wr_ne (by omega), wr_in (by omega)]
        exact (hW.2.2.2.2.2.2.2.1 m hm).2 c hc
    · rw [wr_ne (by omega), wr_ne (by omega), wr_ne (by omega)]
      exact hW.2.2.2.2.2.2.2.2.1 m hm hm2
    · rw [hcn, wr_ne (by omega), wr_ne (by omega), wr_ne (by omega), wr_ne (by omega), wr_ne (by omega), wr_ne (by omega)]
      exact hW.2.2.2.2.2.2.2.2.2.1 t ht
    · rw [wr_ne (by omega), wr_ne (by omega), wr_ne (by omega), wr_ne (by omega), wr_ne (by omega), wr_ne (by omega)]
      exact hW.2.2.2.2.2.2.2.2.2.2 t ht ht2
theorem oK_3 {κ : Nat} (h : κ < 3) : oK κ = 4 ∨ oK κ = 28 ∨ oK κ = 52 := by unfold oK; omega
theorem chW_f {κ x p κ' j : Nat} {y : Int32} {V : Mm} (hκ : κ < 2) (hκ' : κ' < 3) (h1 : 1 ≤ p) (hp : p < recN κ) (hj : j ≠ 7) : chW κ x p y V (oK κ') j = V (oK κ') j := by
  have hp' : p < 10 := by unfold recN at hp; split at hp <;> omega
  unfold chW
  unfold oK
  by_cases e : κ' = κ
  · subst e; rw [wr_in hj, wr_ne (by omega), wr_ne (by omega)]
  · rw [wr_ne (by omega), wr_ne (by omega), wr_ne (by omega)]
theorem chW_k {κ x p κ' c : Nat} {y : Int32} {V : Mm} (hκ : κ < 2) (hκ' : κ' < 3) (h1 : 1 ≤ p) (hp : p < recN κ) (hc : c < 10) : chW κ x p y V (oK κ' + 13 + c) = V (oK κ' + 13 + c) := by
  have hp' : p < 10 := by unfold recN at hp; split at hp <;> omega
  unfold chW
  unfold oK
  rw [wr_ne (by omega), wr_ne (by omega), wr_ne (by omega)]
theorem chW_o {κ x p k : Nat} {y : Int32} {V : Mm} (hκ : κ < 2) (h1 : 1 ≤ p) (hp : p < recN κ) (hk : k < 4 ∨ 75 < k) : chW κ x p y V k = V k := by
  have hp' : p < 10 := by unfold recN at hp; split at hp <;> omega
  unfold chW
  unfold oK
  rw [wr_ne (by omega), wr_ne (by omega), wr_ne (by omega)]
theorem kept_chW {Vk V : Mm} {κ x p : Nat} {y : Int32} (h : keptOf Vk V) (hκ : κ < 2) (h1 : 1 ≤ p) (hp : p < recN κ) : keptOf Vk (chW κ x p y V) := by
  intro κ' hκ'
  obtain ⟨a, b, c, d⟩ := h κ' hκ'
  refine ⟨by rw [chW_f hκ hκ' h1 hp (by omega)]; exact a, by rw [chW_f hκ hκ' h1 hp (by omega)]; exact b, by rw [chW_f hκ hκ' h1 hp (by omega)]; exact c, fun e i he hi => by rw [chW_k hκ hκ' h1 hp he]; exact d e i he hi⟩
theorem TT_chW {V : Mm} {τ σ : Nat → Nat → Nat} {κ x p : Nat} {y : Int32} (h : TT V τ) (hκ : κ < 2) (h1 : 1 ≤ p) (hp : p < recN κ) (hx : x < 50) (e1 : σ κ x = 2) (e2 : ∀ κ' i, κ' < 3 → i < 50 → (κ' ≠ κ ∨ i ≠ x) → σ κ' i = τ κ' i) : TT (chW κ x p y V) σ := by
  have hp' : p < 10 := by unfold recN at hp; split at hp <;> omega
  intro κ' hκ'
  obtain ⟨a, b⟩ := h κ' hκ'
  by_cases e : κ' = κ
  · subst e
    refine ⟨fun i hi => ?_, Or.inl ⟨by unfold chW; rw [wr_at], x, hx, by rw [e1]; omega⟩⟩
    unfold chW
    rw [wr_ne (by omega)]
    by_cases ei : i = x
    · subst ei; rw [wr_at, e1]; rfl
    · rw [wr_in ei, wr_ne (by omega), e2 κ' i hκ' hi (Or.inr ei)]; exact a i hi
  · have c1 : chW κ x p y V (oK κ' + 23) = V (oK κ' + 23) := by
      unfold chW oK
      rw [wr_ne (by omega), wr_ne (by omega), wr_ne (by omega)]
    have c2 : chW κ x p y V (oK κ') = V (oK κ') := by
      unfold chW oK
      rw [wr_ne (by omega), wr_ne (by omega), wr_ne (by omega)]
    rw [c1, c2]
    refine ⟨fun i hi => by rw [e2 κ' i hκ' hi (Or.inl e)]; exact a i hi, ?_⟩
    rcases b with ⟨b1, i, hi, b2⟩ | ⟨b1, b2⟩
    · exact Or.inl ⟨b1, i, hi, by rw [e2 κ' i hκ' hi (Or.inl e)]; exact b2⟩
    · exact Or.inr ⟨b1, fun i hi => by rw [e2 κ' i hκ' hi (Or.inl e)]; exact b2 i hi⟩
def chP (W0 W : Mm) (nm κ : Nat) (ids : Nat → Nat) (l : Nat) : Bool := othB (W0 2) (W 1) nm nm κ (ids l)
def chI (κ q : Nat) (Vk V0 W0 V W : Mm) (nb nm nt : Nat) (ids : Nat → Nat) (j : Nat) : Prop :=
  WRel V (W 1) nb nm nt ∧ WF (W 1) nb nm nt ∧ keptOf Vk V ∧ TT V (whatK (W0 2) (W 1) nb nm nt nb nm nt) ∧
  (∀ κ' i, κ' < 3 → isThb (W 1) nb nm nt κ' i = isThb (W0 2) nb nm nt κ' i) ∧ (∀ κ', κ' < 3 → W 1 (583 + κ') = W0 1 (583 + κ')) ∧
  (∀ x, x < evK nb nm nt κ → (∀ l, l < j → ids l ≠ x) → ∀ k, k < recN κ → W 1 (recI κ x k) = W0 2 (recI κ x k)) ∧
  (∀ k, (k < 4 ∨ 75 < k) → (k < 93 + 9 * q ∨ 97 + 9 * q < k) → V k = V0 k) ∧ (∀ k, k ≠ 1 → W k = W0 k) ∧
  clRow q 2 V (chP W0 W nm κ ids) ids j ∧ (∀ r, r < 4 → r ≠ 2 → V (91 + 9 * q + 6) r = 0) ∧ (∀ l, l < j → ids l < evK nb nm nt κ ∧ isTh (W 1) nb nm nt κ (ids l))
def cfC (κ : Nat) (x u v : Int32) (V : Mm) : Option (Int32 × Mm) := if κ = 0 then eX5_changeBox x u v V else eX5_changeMail x u v V
def cfM (κ : Nat) (x u v : Int32) (V : Mm) : Option (Int32 × Mm) := if κ = 0 then eX6_changeBox x u v V else eX6_changeMail x u v V
theorem isTh_ev {w : Nat → Int32} {nb nm nt κ i : Nat} (h : isTh w nb nm nt κ i) (hκ : κ < 3) : i < evK nb nm nt κ := by
  have : κ = 0 ∨ κ = 1 ∨ κ = 2 := by omega
  rcases this with rfl | rfl | rfl
  · exact (isTh_0.mp h).1
  · exact (isTh_1.mp h).1
  · exact (isTh_2.mp h).1
theorem b67_u {f a1 a2 κ j : Nat} {u v : Int32} {V : Mm} {c : Nat} {x : Nat} (hκ : κ < 2) (hc : V 0 9 = nI c) (hj : j < c) (h50 : c ≤ 50) (h2 : V a1 2 = nI κ) (h5 : V a1 5 = u) (hx : V 88 j = nI x) :
    eX5_changeIds_b67 (f + 1) a1 a2 (oK κ) v (nI j) V = (cfC κ (nI x) u v V).bind fun r => if r.1 = 0 then (eX2_isTouched (oK κ) (nI x) r.2).bind fun r30 => if r30 = 0 then eX5_changeIds_b67 f a1 a2 (oK κ) v (nI (j + 1)) r.2 else (eX4_add a2 2 (nI x) r.2).bind fun r33 => eX5_changeIds_b67 f a1 a2 (oK κ) v (nI (j + 1)) r33 else (eX5_bringAllBack r.2).bind fun r35 => some (r.1, r35) := by
  have hcs : κ = 0 ∨ κ = 1 := by omega
  rw [eX5_changeIds_b67, hc]
  rcases hcs with rfl | rfl
  · simp (disch := omega) only [q0a, q0b, q0c, q0d, q0e, q0f, p0_l, p0_r, p0_s, q1a, q1b, q1c, q1d, q1e, q1f, p1_l, p1_r, p1_s, q2a, q2b, q2c, q2d, q2e, q2f, p2_l, p2_r, p2_s, q3a, q3b, q3c, q3d, q3e, q3f, p3_l, p3_r, p3_s, q4a, q4b, q4c, q4d, q4e, q4f, p4_l, p4_r, p4_s, p4_m, q5a, q5b, q5c, q5d, q5e, q5f, p5_l, p5_r, p5_s, p5_m, q6a, q6b, q6c, q6d, q6e, q6f, p6_l, p6_r, p6_s, q7a, q7b, q7c, q7d, q7e, q7f, p7_l, p7_r, p7_s, q8a, q8b, q8c, q8d, q8e, q8f, p8_l, p8_r, p8_s, q9a, q9b, q9c, q9d, q9e, q9f, p9_l, p9_r, p9_s, q10a, q10b, q10c, q10d, q10e, q10f, p10_l, p10_r, p10_s, p10_m, q11a, q11b, q11c, q11d, q11e, q11f, p11_l, p11_r, p11_s, q12a, q12b, q12c, q12d, q12e, q12f, p12_l, p12_r, p12_s, q15a, q15b, q15c, q15d, q15e, q15f, p15_l, p15_r, p15_s, q19a, q19b, q19c, q19d, q19e, q19f, p19_l, p19_r, p19_s, q20a, q20b, q20c, q20d, q20e, q20f, p20_l, p20_r, p20_s, q31a, q31b, q31c, q31d, q31e, q31f, p31_l, p31_r, p31_s, q40a, q40b, q40c, q40d, q40e, q40f, p40_l, p40_r, p40_s, q48a, q48b, q48c, q48d, q48e, q48f, p48_l, p48_r, p48_s, q50a, q50b, q50c, q50d, q50e, q50f, p50_l, p50_r, p50_s, p50_m, q52a, q52b, q52c, q52d, q52e, q52f, p52_l, p52_r, p52_s, q60a, q60b, q60c, q60d, q60e, q60f, p60_l, p60_r, p60_s, q63a, q63b, q63c, q63d, q63e, q63f, p63_l, p63_r, p63_s, q80a, q80b, q80c, q80d, q80e, q80f, p80_l, p80_r, p80_s, q99a, q99b, q99c, q99d, q99e, q99f, p99_l, p99_r, p99_s, q100a, q100b, q100c, q100d, q100e, q100f, p100_l, p100_r, p100_s, q120a, q120b, q120c, q120d, q120e, q120f, p120_l, p120_r, p120_s, q240a, q240b, q240c, q240d, q240e, q240f, p240_l, p240_r, p240_s, q243a, q243b, q243c, q243d, q243e, q243f, p243_l, p243_r, p243_s, q244a, q244b, q244c, q244d, q244e, q244f, p244_l, p244_r, p244_s, q580a, q580b, q580c, q580d, q580e, q580f, p580_l, p580_r, p580_s, q581a, q581b, q581c, q581d, q581e, q581f, p581_l, p581_r, p581_s, q582a, q582b, q582c, q582d, q582e, q582f, p582_l, p582_r, p582_s, q583a, q583b, q583c, q583d, q583e, q583f, p583_l, p583_r, p583_s, q584a, q584b, q584c, q584d, q584e, q584f, p584_l, p584_r, p584_s, q585a, q585b, q585c, q585d, q585e, q585f, p585_l, p585_r, p585_s, q586a, q586b, q586c, q586d, q586e, q586f, p586_l, p586_r, p586_s, q999a, q999b, q999c, q999d, q999e, q999f, p999_l, p999_r, p999_s, q1000a, q1000b, q1000c, q1000d, q1000e, q1000f, p1000_l, p1000_r, p1000_s, q2400a, q2400b, q2400c, q2400d, q2400e, q2400f, p2400_l, p2400_r, p2400_s, q9999a, q9999b, q9999c, q9999d, q9999e, q9999f, p9999_l, p9999_r, p9999_s, I00, I01, I10, I11, n_le, n_lt, n_eq, n_cl, n_add, n_ne9, n_ne1, if_true, if_false, Option.bind_some, if_pos, if_neg, h2, h5, hx]
    unfold cfC
    rw [if_pos rfl]
  · simp (disch := omega) only [q0a, q0b, q0c, q0d, q0e, q0f, p0_l, p0_r, p0_s, q1a, q1b, q1c, q1d, q1e, q1f, p1_l, p1_r, p1_s, q2a, q2b, q2c, q2d, q2e, q2f, p2_l, p2_r, p2_s, q3a, q3b, q3c, q3d, q3e, q3f, p3_l, p3_r, p3_s, q4a, q4b, q4c, q4d, q4e, q4f, p4_l, p4_r, p4_s, p4_m, q5a, q5b, q5c, q5d, q5e, q5f, p5_l, p5_r, p5_s, p5_m, q6a, q6b, q6c, q6d, q6e, q6f, p6_l, p6_r, p6_s, q7a, q7b, q7c, q7d, q7e, q7f, p7_l, p7_r, p7_s, q8a, q8b, q8c, q8d, q8e, q8f, p8_l, p8_r, p8_s, q9a, q9b, q9c, q9d, q9e, q9f, p9_l, p9_r, p9_s, q10a, q10b, q10c, q10d, q10e, q10f, p10_l, p10_r, p10_s, p10_m, q11a, q11b, q11c, q11d, q11e, q11f, p11_l, p11_r, p11_s, q12a, q12b, q12c, q12d, q12e, q12f, p12_l, p12_r, p12_s, q15a, q15b, q15c, q15d, q15e, q15f, p15_l, p15_r, p15_s, q19a, q19b, q19c, q19d, q19e, q19f, p19_l, p19_r, p19_s, q20a, q20b, q20c, q20d, q20e, q20f, p20_l, p20_r, p20_s, q31a, q31b, q31c, q31d, q31e, q31f, p31_l, p31_r, p31_s, q40a, q40b, q40c, q40d, q40e, q40f, p40_l, p40_r, p40_s, q48a, q48b, q48c, q48d, q48e, q48f, p48_l, p48_r, p48_s, q50a, q50b, q50c, q50d, q50e, q50f, p50_l, p50_r, p50_s, p50_m, q52a, q52b, q52c, q52d, q52e, q52f, p52_l, p52_r, p52_s, q60a, q60b, q60c, q60d, q60e, q60f, p60_l, p60_r, p60_s, q63a, q63b, q63c, q63d, q63e, q63f, p63_l, p63_r, p63_s, q80a, q80b, q80c, q80d, q80e, q80f, p80_l, p80_r, p80_s, q99a, q99b, q99c, q99d, q99e, q99f, p99_l, p99_r, p99_s, q100a, q100b, q100c, q100d, q100e, q100f, p100_l, p100_r, p100_s, q120a, q120b, q120c, q120d, q120e, q120f, p120_l, p120_r, p120_s, q240a, q240b, q240c, q240d, q240e, q240f, p240_l, p240_r, p240_s, q243a, q243b, q243c, q243d, q243e, q243f, p243_l, p243_r, p243_s, q244a, q244b, q244c, q244d, q244e, q244f, p244_l, p244_r, p244_s, q580a, q580b, q580c, q580d, q580e, q580f, p580_l, p580_r, p580_s, q581a, q581b, q581c, q581d, q581e, q581f, p581_l, p581_r, p581_s, q582a, q582b, q582c, q582d, q582e, q582f, p582_l, p582_r, p582_s, q583a, q583b, q583c, q583d, q583e, q583f, p583_l, p583_r, p583_s, q584a, q584b, q584c, q584d, q584e, q584f, p584_l, p584_r, p584_s, q585a, q585b, q585c, q585d, q585e, q585f, p585_l, p585_r, p585_s, q586a, q586b, q586c, q586d, q586e, q586f, p586_l, p586_r, p586_s, q999a, q999b, q999c, q999d, q999e, q999f, p999_l, p999_r, p999_s, q1000a, q1000b, q1000c, q1000d, q1000e, q1000f, p1000_l, p1000_r, p1000_s, q2400a, q2400b, q2400c, q2400d, q2400e, q2400f, p2400_l, p2400_r, p2400_s, q9999a, q9999b, q9999c, q9999d, q9999e, q9999f, p9999_l, p9999_r, p9999_s, I00, I01, I10, I11, n_le, n_lt, n_eq, n_cl, n_add, n_ne9, n_ne1, if_true, if_false, Option.bind_some, if_pos, if_neg, h2, h5, hx]
    unfold cfC
    rw [if_neg (by omega)]
theorem b235_u {g κ j : Nat} {u v : Int32} {W : Mm} {c : Nat} {x : Nat} (hκ : κ < 2) (hc : W 0 20 = nI c) (hj : j < c) (h50 : c ≤ 50) (hx : W 16 j = nI x) :
    eX6_doChange_b235 (g + 1) (nI κ) u v (nI j) W = (cfM κ (nI x) u v W).bind fun r => if r.1 = 0 then eX6_doChange_b235 g (nI κ) u v (nI (j + 1)) r.2 else some (r.1, r.2) := by
  have hcs : κ = 0 ∨ κ = 1 := by omega
  rw [eX6_doChange_b235, hc]
  rcases hcs with rfl | rfl
  · simp (disch := omega) only [q0a, q0b, q0c, q0d, q0e, q0f, p0_l, p0_r, p0_s, q1a, q1b, q1c, q1d, q1e, q1f, p1_l, p1_r, p1_s, q2a, q2b, q2c, q2d, q2e, q2f, p2_l, p2_r, p2_s, q3a, q3b, q3c, q3d, q3e, q3f, p3_l, p3_r, p3_s, q4a, q4b, q4c, q4d, q4e, q4f, p4_l, p4_r, p4_s, p4_m, q5a, q5b, q5c, q5d, q5e, q5f, p5_l, p5_r, p5_s, p5_m, q6a, q6b, q6c, q6d, q6e, q6f, p6_l, p6_r, p6_s, q7a, q7b, q7c, q7d, q7e, q7f, p7_l, p7_r, p7_s, q8a, q8b, q8c, q8d, q8e, q8f, p8_l, p8_r, p8_s, q9a, q9b, q9c, q9d, q9e, q9f, p9_l, p9_r, p9_s, q10a, q10b, q10c, q10d, q10e, q10f, p10_l, p10_r, p10_s, p10_m, q11a, q11b, q11c, q11d, q11e, q11f, p11_l, p11_r, p11_s, q12a, q12b, q12c, q12d, q12e, q12f, p12_l, p12_r, p12_s, q15a, q15b, q15c, q15d, q15e, q15f, p15_l, p15_r, p15_s, q19a, q19b, q19c, q19d, q19e, q19f, p19_l, p19_r, p19_s, q20a, q20b, q20c, q20d, q20e, q20f, p20_l, p20_r, p20_s, q31a, q31b, q31c, q31d, q31e, q31f, p31_l, p31_r, p31_s, q40a, q40b, q40c, q40d, q40e, q40f, p40_l, p40_r, p40_s, q48a, q48b, q48c, q48d, q48e, q48f, p48_l, p48_r, p48_s, q50a, q50b, q50c, q50d, q50e, q50f, p50_l, p50_r, p50_s, p50_m, q52a, q52b, q52c, q52d, q52e, q52f, p52_l, p52_r, p52_s, q60a, q60b, q60c, q60d, q60e, q60f, p60_l, p60_r, p60_s, q63a, q63b, q63c, q63d, q63e, q63f, p63_l, p63_r, p63_s, q80a, q80b, q80c, q80d, q80e, q80f, p80_l, p80_r, p80_s, q99a, q99b, q99c, q99d, q99e, q99f, p99_l, p99_r, p99_s, q100a, q100b, q100c, q100d, q100e, q100f, p100_l, p100_r, p100_s, q120a, q120b, q120c, q120d, q120e, q120f, p120_l, p120_r, p120_s, q240a, q240b, q240c, q240d, q240e, q240f, p240_l, p240_r, p240_s, q243a, q243b, q243c, q243d, q243e, q243f, p243_l, p243_r, p243_s, q244a, q244b, q244c, q244d, q244e, q244f, p244_l, p244_r, p244_s, q580a, q580b, q580c, q580d, q580e, q580f, p580_l, p580_r, p580_s, q581a, q581b, q581c, q581d, q581e, q581f, p581_l, p581_r, p581_s, q582a, q582b, q582c, q582d, q582e, q582f, p582_l, p582_r, p582_s, q583a, q583b, q583c, q583d, q583e, q583f, p583_l, p583_r, p583_s, q584a, q584b, q584c, q584d, q584e, q584f, p584_l, p584_r, p584_s, q585a, q585b, q585c, q585d, q585e, q585f, p585_l, p585_r, p585_s, q586a, q586b, q586c, q586d, q586e, q586f, p586_l, p586_r, p586_s, q999a, q999b, q999c, q999d, q999e, q999f, p999_l, p999_r, p999_s, q1000a, q1000b, q1000c, q1000d, q1000e, q1000f, p1000_l, p1000_r, p1000_s, q2400a, q2400b, q2400c, q2400d, q2400e, q2400f, p2400_l, p2400_r, p2400_s, q9999a, q9999b, q9999c, q9999d, q9999e, q9999f, p9999_l, p9999_r, p9999_s, I00, I01, I10, I11, n_le, n_lt, n_eq, n_cl, n_add, n_ne9, n_ne1, if_true, if_false, Option.bind_some, if_pos, if_neg, hx]
    unfold cfM
    rw [if_pos rfl]
  · simp (disch := omega) only [q0a, q0b, q0c, q0d, q0e, q0f, p0_l, p0_r, p0_s, q1a, q1b, q1c, q1d, q1e, q1f, p1_l, p1_r, p1_s, q2a, q2b, q2c, q2d, q2e, q2f, p2_l, p2_r, p2_s, q3a, q3b, q3c, q3d, q3e, q3f, p3_l, p3_r, p3_s, q4a, q4b, q4c, q4d, q4e, q4f, p4_l, p4_r, p4_s, p4_m, q5a, q5b, q5c, q5d, q5e, q5f, p5_l, p5_r, p5_s, p5_m, q6a, q6b, q6c, q6d, q6e, q6f, p6_l, p6_r, p6_s, q7a, q7b, q7c, q7d, q7e, q7f, p7_l, p7_r, p7_s, q8a, q8b, q8c, q8d, q8e, q8f, p8_l, p8_r, p8_s, q9a, q9b, q9c, q9d, q9e, q9f, p9_l, p9_r, p9_s, q10a, q10b, q10c, q10d, q10e, q10f, p10_l, p10_r, p10_s, p10_m, q11a, q11b, q11c, q11d, q11e, q11f, p11_l, p11_r, p11_s, q12a, q12b, q12c, q12d, q12e, q12f, p12_l, p12_r, p12_s, q15a, q15b, q15c, q15d, q15e, q15f, p15_l, p15_r, p15_s, q19a, q19b, q19c, q19d, q19e, q19f, p19_l, p19_r, p19_s, q20a, q20b, q20c, q20d, q20e, q20f, p20_l, p20_r, p20_s, q31a, q31b, q31c, q31d, q31e, q31f, p31_l, p31_r, p31_s, q40a, q40b, q40c, q40d, q40e, q40f, p40_l, p40_r, p40_s, q48a, q48b, q48c, q48d, q48e, q48f, p48_l, p48_r, p48_s, q50a, q50b, q50c, q50d, q50e, q50f, p50_l, p50_r, p50_s, p50_m, q52a, q52b, q52c, q52d, q52e, q52f, p52_l, p52_r, p52_s, q60a, q60b, q60c, q60d, q60e, q60f, p60_l, p60_r, p60_s, q63a, q63b, q63c, q63d, q63e, q63f, p63_l, p63_r, p63_s, q80a, q80b, q80c, q80d, q80e, q80f, p80_l, p80_r, p80_s, q99a, q99b, q99c, q99d, q99e, q99f, p99_l, p99_r, p99_s, q100a, q100b, q100c, q100d, q100e, q100f, p100_l, p100_r, p100_s, q120a, q120b, q120c, q120d, q120e, q120f, p120_l, p120_r, p120_s, q240a, q240b, q240c, q240d, q240e, q240f, p240_l, p240_r, p240_s, q243a, q243b, q243c, q243d, q243e, q243f, p243_l, p243_r, p243_s, q244a, q244b, q244c, q244d, q244e, q244f, p244_l, p244_r, p244_s, q580a, q580b, q580c, q580d, q580e, q580f, p580_l, p580_r, p580_s, q581a, q581b, q581c, q581d, q581e, q581f, p581_l, p581_r, p581_s, q582a, q582b, q582c, q582d, q582e, q582f, p582_l, p582_r, p582_s, q583a, q583b, q583c, q583d, q583e, q583f, p583_l, p583_r, p583_s, q584a, q584b, q584c, q584d, q584e, q584f, p584_l, p584_r, p584_s, q585a, q585b, q585c, q585d, q585e, q585f, p585_l, p585_r, p585_s, q586a, q586b, q586c, q586d, q586e, q586f, p586_l, p586_r, p586_s, q999a, q999b, q999c, q999d, q999e, q999f, p999_l, p999_r, p999_s, q1000a, q1000b, q1000c, q1000d, q1000e, q1000f, p1000_l, p1000_r, p1000_s, q2400a, q2400b, q2400c, q2400d, q2400e, q2400f, p2400_l, p2400_r, p2400_s, q9999a, q9999b, q9999c, q9999d, q9999e, q9999f, p9999_l, p9999_r, p9999_s, I00, I01, I10, I11, n_le, n_lt, n_eq, n_cl, n_add, n_ne9, n_ne1, if_true, if_false, Option.bind_some, if_pos, if_neg, hx]
    unfold cfM
    rw [if_neg (by omega)]
theorem ch_loop {κ q nb nm nt c : Nat} {u v : Int32} {ids : Nat → Nat} {Vk V0 W0 : Mm} {wk : Nat → Int32} (hκ : κ < 2) (hids : idsRel V0 W0 c ids) (hk : WRel Vk wk nb nm nt) (h2 : V0 (89 + 9 * q) 2 = nI κ) (h5 : V0 (89 + 9 * q) 5 = u)
    (hstep : ∀ (V W : Mm) (x : Nat), WRel V (W 1) nb nm nt → WF (W 1) nb nm nt → x < 2147483648 → (∀ k, (k < 4 ∨ 75 < k) → (k < 93 + 9 * q ∨ 97 + 9 * q < k) → V k = V0 k) → (∀ k, k ≠ 1 → W k = W0 k) → chStep κ (cfC κ (nI x) u v V) (cfM κ (nI x) u v W) V W x nb nm nt) :
    ∀ d f g j (V W : Mm), j + d = c → d < f → d < g → chI κ q Vk V0 W0 V W nb nm nt ids j →
    (∃ (code : Int32) (V' W' : Mm), code ≠ 0 ∧ eX5_changeIds_b67 f (89 + 9 * q) (91 + 9 * q) (oK κ) v (nI j) V = some (code, V') ∧ eX6_doChange_b235 g (nI κ) u v (nI j) W = some (code, W') ∧ WRel V' wk nb nm nt ∧ rClean V' ∧ (∀ k, (k < 4 ∨ 75 < k) → (k < 93 + 9 * q ∨ 97 + 9 * q < k) → V' k = V0 k) ∧ (∀ k, k ≠ 1 → W' k = W0 k)) ∨
    (∃ (V' W' : Mm), eX5_changeIds_b67 f (89 + 9 * q) (91 + 9 * q) (oK κ) v (nI j) V = some (0, V') ∧ eX6_doChange_b235 g (nI κ) u v (nI j) W = eX6_doChange_b298 fu (nI κ) 0 W' ∧ chI κ q Vk V0 W0 V' W' nb nm nt ids c) := by
  obtain ⟨c50, hi1, hi2, hi3, hi4⟩ := hids
  intro d
  induction d with
  | zero =>
    intro f g j V W hj hf hg hI
    obtain ⟨f, rfl⟩ : ∃ f', f = f' + 1 := ⟨f - 1, by omega⟩
    obtain ⟨g, rfl⟩ : ∃ g', g = g' + 1 := ⟨g - 1, by omega⟩
    have : j = c := by omega
    subst this
    right
    have fV := hI.2.2.2.2.2.2.2.1
    have fW := hI.2.2.2.2.2.2.2.2.1
    refine ⟨V, W, ?_, ?_, hI⟩
    · rw [eX5_changeIds_b67, fV 0 (by omega) (by omega), hi1]
      simp (disch := omega) only [q0a, q0b, q0c, q0d, q0e, q0f, p0_l, p0_r, p0_s, q1a, q1b, q1c, q1d, q1e, q1f, p1_l, p1_r, p1_s, q2a, q2b, q2c, q2d, q2e, q2f, p2_l, p2_r, p2_s, q3a, q3b, q3c, q3d, q3e, q3f, p3_l, p3_r, p3_s, q4a, q4b, q4c, q4d, q4e, q4f, p4_l, p4_r, p4_s, p4_m, q5a, q5b, q5c, q5d, q5e, q5f, p5_l, p5_r, p5_s, p5_m, q6a, q6b, q6c, q6d, q6e, q6f, p6_l, p6_r, p6_s, q7a, q7b, q7c, q7d, q7e, q7f, p7_l, p7_r, p7_s, q8a, q8b, q8c, q8d, q8e, q8f, p8_l, p8_r, p8_s, q9a, q9b, q9c, q9d, q9e, q9f, p9_l, p9_r, p9_s, q10a, q10b, q10c, q10d, q10e, q10f, p10_l, p10_r, p10_s, p10_m, q11a, q11b, q11c, q11d, q11e, q11f, p11_l, p11_r, p11_s, q12a, q12b, q12c, q12d, q12e, q12f, p12_l, p12_r, p12_s, q15a, q15b, q15c, q15d, q15e, q15f, p15_l, p15_r, p15_s, q19a, q19b, q19c, q19d, q19e, q19f, p19_l, p19_r, p19_s, q20a, q20b, q20c, q20d, q20e, q20f, p20_l, p20_r, p20_s, q31a, q31b, q31c, q31d, q31e, q31f, p31_l, p31_r, p31_s, q40a, q40b, q40c, q40d, q40e, q40f, p40_l, p40_r, p40_s, q48a, q48b, q48c, q48d, q48e, q48f, p48_l, p48_r, p48_s, q50a, q50b, q50c, q50d, q50e, q50f, p50_l, p50_r, p50_s, p50_m, q52a, q52b, q52c, q52d, q52e, q52f, p52_l, p52_r, p52_s, q60a, q60b, q60c, q60d, q60e, q60f, p60_l, p60_r, p60_s, q63a, q63b, q63c, q63d, q63e, q63f, p63_l, p63_r, p63_s, q80a, q80b, q80c, q80d, q80e, q80f, p80_l, p80_r, p80_s, q99a, q99b, q99c, q99d, q99e, q99f, p99_l, p99_r, p99_s, q100a, q100b, q100c, q100d, q100e, q100f, p100_l, p100_r, p100_s, q120a, q120b, q120c, q120d, q120e, q120f, p120_l, p120_r, p120_s, q240a, q240b, q240c, q240d, q240e, q240f, p240_l, p240_r, p240_s, q243a, q243b, q243c, q243d, q243e, q243f, p243_l, p243_r, p243_s, q244a, q244b, q244c, q244d, q244e, q244f, p244_l, p244_r, p244_s, q580a, q580b, q580c, q580d, q580e, q580f, p580_l, p580_r, p580_s, q581a, q581b, q581c, q581d, q581e, q581f, p581_l, p581_r, p581_s, q582a, q582b, q582c, q582d, q582e, q582f, p582_l, p582_r, p582_s, q583a, q583b, q583c, q583d, q583e, q583f, p583_l, p583_r, p583_s, q584a, q584b, q584c, q584d, q584e, q584f, p584_l, p584_r, p584_s, q585a, q585b, q585c, q585d, q585e, q585f, p585_l, p585_r, p585_s, q586a, q586b, q586c, q586d, q586e, q586f, p586_l, p586_r, p586_s, q999a, q999b, q999c, q999d, q999e, q999f, p999_l, p999_r, p999_s, q1000a, q1000b, q1000c, q1000d, q1000e, q1000f, p1000_l, p1000_r, p1000_s, q2400a, q2400b, q2400c, q2400d, q2400e, q2400f, p2400_l, p2400_r, p2400_s, q9999a, q9999b, q9999c, q9999d, q9999e, q9999f, p9999_l, p9999_r, p9999_s, I00, I01, I10, I11, n_le, n_lt, n_eq, n_cl, n_add, n_ne9, n_ne1, if_true, if_false, Option.bind_some, if_pos, if_neg]
    · rw [eX6_doChange_b235, fW 0 (by omega), hi2]
      simp (disch := omega) only [q0a, q0b, q0c, q0d, q0e, q0f, p0_l, p0_r, p0_s, q1a, q1b, q1c, q1d, q1e, q1f, p1_l, p1_r, p1_s, q2a, q2b, q2c, q2d, q2e, q2f, p2_l, p2_r, p2_s, q3a, q3b, q3c, q3d, q3e, q3f, p3_l, p3_r, p3_s, q4a, q4b, q4c, q4d, q4e, q4f, p4_l, p4_r, p4_s, p4_m, q5a, q5b, q5c, q5d, q5e, q5f, p5_l, p5_r, p5_s, p5_m, q6a, q6b, q6c, q6d, q6e, q6f, p6_l, p6_r, p6_s, q7a, q7b, q7c, q7d, q7e, q7f, p7_l, p7_r, p7_s, q8a, q8b, q8c, q8d, q8e, q8f, p8_l, p8_r, p8_s, q9a, q9b, q9c, q9d, q9e, q9f, p9_l, p9_r, p9_s, q10a, q10b, q10c, q10d, q10e, q10f, p10_l, p10_r, p10_s, p10_m, q11a, q11b, q11c, q11d, q11e, q11f, p11_l, p11_r, p11_s, q12a, q12b, q12c, q12d, q12e, q12f, p12_l, p12_r, p12_s, q15a, q15b, q15c, q15d, q15e, q15f, p15_l, p15_r, p15_s, q19a, q19b, q19c, q19d, q19e, q19f, p19_l, p19_r, p19_s, q20a, q20b, q20c, q20d, q20e, q20f, p20_l, p20_r, p20_s, q31a, q31b, q31c, q31d, q31e, q31f, p31_l, p31_r, p31_s, q40a, q40b, q40c, q40d, q40e, q40f, p40_l, p40_r, p40_s, q48a, q48b, q48c, q48d, q48e, q48f, p48_l, p48_r, p48_s, q50a, q50b, q50c, q50d, q50e, q50f, p50_l, p50_r, p50_s, p50_m, q52a, q52b, q52c, q52d, q52e, q52f, p52_l, p52_r, p52_s, q60a, q60b, q60c, q60d, q60e, q60f, p60_l, p60_r, p60_s, q63a, q63b, q63c, q63d, q63e, q63f, p63_l, p63_r, p63_s, q80a, q80b, q80c, q80d, q80e, q80f, p80_l, p80_r, p80_s, q99a, q99b, q99c, q99d, q99e, q99f, p99_l, p99_r, p99_s, q100a, q100b, q100c, q100d, q100e, q100f, p100_l, p100_r, p100_s, q120a, q120b, q120c, q120d, q120e, q120f, p120_l, p120_r, p120_s, q240a, q240b, q240c, q240d, q240e, q240f, p240_l, p240_r, p240_s, q243a, q243b, q243c, q243d, q243e, q243f, p243_l, p243_r, p243_s, q244a, q244b, q244c, q244d, q244e, q244f, p244_l, p244_r, p244_s, q580a, q580b, q580c, q580d, q580e, q580f, p580_l, p580_r, p580_s, q581a, q581b, q581c, q581d, q581e, q581f, p581_l, p581_r, p581_s, q582a, q582b, q582c, q582d, q582e, q582f, p582_l, p582_r, p582_s, q583a, q583b, q583c, q583d, q583e, q583f, p583_l, p583_r, p583_s, q584a, q584b, q584c, q584d, q584e, q584f, p584_l, p584_r, p584_s, q585a, q585b, q585c, q585d, q585e, q585f, p585_l, p585_r, p585_s, q586a, q586b, q586c, q586d, q586e, q586f, p586_l, p586_r, p586_s, q999a, q999b, q999c, q999d, q999e, q999f, p999_l, p999_r, p999_s, q1000a, q1000b, q1000c, q1000d, q1000e, q1000f, p1000_l, p1000_r, p1000_s, q2400a, q2400b, q2400c, q2400d, q2400e, q2400f, p2400_l, p2400_r, p2400_s, q9999a, q9999b, q9999c, q9999d, q9999e, q9999f, p9999_l, p9999_r, p9999_s, I00, I01, I10, I11, n_le, n_lt, n_eq, n_cl, n_add, n_ne9, n_ne1, if_true, if_false, Option.bind_some, if_pos, if_neg]
  | succ d ih =>
    intro f g j V W hj hf hg hI
    obtain ⟨f, rfl⟩ : ∃ f', f = f' + 1 := ⟨f - 1, by omega⟩
    obtain ⟨g, rfl⟩ : ∃ g', g = g' + 1 := ⟨g - 1, by omega⟩
    obtain ⟨I1, I2, I3, I4, I5, I6, I7, I8, I9, I10, I11, I12⟩ := id hI
    obtain ⟨x1, x2, x3⟩ := hi3 j (by omega)
    have hwn := WRel_WN I1
    have ev50 := evK_le (κ := κ) hwn
    rw [b67_u (x := ids j) (u := u) hκ (by rw [I8 0 (by omega) (by omega)]; exact hi1) (show j < c by omega) c50 (by rw [I8 (89 + 9 * q) (by omega) (by omega)]; exact h2) (by rw [I8 (89 + 9 * q) (by omega) (by omega)]; exact h5) (by rw [I8 88 (by omega) (by omega)]; exact x2),
      b235_u (x := ids j) (u := u) hκ (by rw [I9 0 (by omega)]; exact hi2) (show j < c by omega) c50 (by rw [I9 16 (by omega)]; exact x3)]
    rcases hstep V W (ids j) I1 I2 x1 I8 I9 with ⟨code, p, y, c0, p1, p2, hF, hM⟩ | ⟨p, y, p1, p2, p8, hth, hWF, hM, hF⟩
    · left
      have hK : ∃ V1 : Mm, cfC κ (nI (ids j)) u v V = some (code, V1) ∧ keptOf Vk V1 ∧ ∀ k, (k < 4 ∨ 75 < k) → (k < 93 + 9 * q ∨ 97 + 9 * q < k) → V1 k = V0 k := by
        rcases hF with hF | hF
        · exact ⟨V, hF, I3, I8⟩
        · exact ⟨_, hF, kept_chW I3 hκ p1 p2, fun k a b => by rw [chW_o hκ p1 p2 a]; exact I8 k a b⟩
      obtain ⟨V1, e1, e2, e3⟩ := hK
      obtain ⟨V2, b1, b2, b3, b4⟩ := bringAll_n hk e2
      refine ⟨code, V2, W, c0, ?_, ?_, b2, b3, fun k a b => by rw [b4 k a]; exact e3 k a b, I9⟩
      · rw [e1, Option.bind_some]
        dsimp only
        rw [if_neg c0, b1]
        rfl
      · rw [hM, Option.bind_some]
        dsimp only
        rw [if_neg c0]
    · have hx := isTh_ev hth (by omega)
      have hun : ∀ l, l < j → ids l ≠ ids j := fun l hl => hi4 l j hl (by omega)
      have hpt := I7 (ids j) hx hun
      rw [hM, Option.bind_some]
      dsimp only
      rw [if_pos rfl]
      rcases hF with ⟨hy, hF⟩ | ⟨hy, hF⟩
      · have eW : wr W 1 (recI κ (ids j) p) y = W := by rw [hy, wr_id]
        rw [eW, hF, Option.bind_some]
        dsimp only
        rw [if_pos rfl]
        have hz : othB (W0 2) (W 1) nm nm κ (ids j) = false := by
          rw [othB_cg (w := W0 2) hκ hpt]; exact oth_self
        have hw0 : whatK (W0 2) (W 1) nb nm nt nb nm nt κ (ids j) = 0 := by
          unfold whatK
          rw [if_pos (I5 κ (ids j) (by omega)).symm, hz]
          split <;> rfl
        rw [isTouched_n (by omega), Option.bind_some, b2i_F (by rw [(I4 κ (by omega)).1 (ids j) (by omega), hw0]; exact fun z => z rfl), if_pos rfl]
        exact ih f g (j + 1) V W (by omega) (by omega) (by omega) ⟨I1, I2, I3, I4, I5, I6, fun x a b k e => I7 x a (fun l hl => b l (by omega)) k e, I8, I9, clRow_F I10 hz, I11, fun l hl => by
          by_cases e : l = j
          · subst e; exact ⟨hx, hth⟩
          · exact I12 l (by omega)⟩
      · rw [hF, Option.bind_some]
        dsimp only
        rw [if_pos rfl]
        have hev : ∀ k, k < recN κ → 1 ≤ k → recI κ (ids j) k < 583 := fun k hk _ => by
          have b20 := hwn.b20
          have b50 := hwn.m50
          have hcs : κ = 0 ∨ κ = 1 := by omega
          rcases hcs with rfl | rfl
          · have hx' : ids j < nb := hx
            have hk' : k < 4 := hk
            show 4 * ids j + k < 583; omega
          · have hx' : ids j < nm := hx
            have hk' : k < 10 := hk
            show 80 + 10 * ids j + k < 583; omega
        have hT : TT (chW κ (ids j) p y V) (whatK (W0 2) (wr W 1 (recI κ (ids j) p) y 1) nb nm nt nb nm nt) := by
          refine TT_chW I4 hκ p1 p2 (by omega) ?_ (fun κ' i hκ' hi hne => whatK_wr hκ hκ' hwn hx p1 p2 p8 hne)
          refine whatK_oth (k := p) (by show isThb _ _ _ _ _ _ = true; rw [← I5 κ _ (by omega)]; exact hth) (by show isThb _ _ _ _ _ _ = true; rw [isThb_wr hκ (by omega) hwn hx p1 p2 p8]; exact hth) ?_ ?_
          · have hcs : κ = 0 ∨ κ = 1 := by omega
            rcases hcs with rfl | rfl
            · exact p2
            · exact p2
          · have hh := hpt p p2
            have hcs : κ = 0 ∨ κ = 1 := by omega
            rcases hcs with rfl | rfl
            · refine decide_eq_true ⟨p1, ?_⟩
              rw [show 4 * ids j + p = recI 0 (ids j) p from rfl, wr_at, ← hh]; exact hy
            · refine decide_eq_true ⟨p1, ?_⟩
              rw [show 80 + 10 * ids j + p = recI 1 (ids j) p from rfl, wr_at, ← hh]; exact hy
        have hch : chP W0 (wr W 1 (recI κ (ids j) p) y) nm κ ids j = true := by
          unfold chP
          refine anyB_iff.mpr ⟨p, ?_, ?_⟩
          · have hcs : κ = 0 ∨ κ = 1 := by omega
            rcases hcs with rfl | rfl
            · exact p2
            · exact p2
          · have hh := hpt p p2
            have hcs : κ = 0 ∨ κ = 1 := by omega
            rcases hcs with rfl | rfl
            · refine decide_eq_true ⟨p1, ?_⟩
              rw [show 4 * ids j + p = recI 0 (ids j) p from rfl, wr_at, ← hh]; exact hy
            · refine decide_eq_true ⟨p1, ?_⟩
              rw [show 80 + 10 * ids j + p = recI 1 (ids j) p from rfl, wr_at, ← hh]; exact hy
        have hrow0 : clRow q 2 (chW κ (ids j) p y V) (chP W0 (wr W 1 (recI κ (ids j) p) y) nm κ ids) ids j := by
          have : clRow q 2 V (chP W0 (wr W 1 (recI κ (ids j) p) y) nm κ ids) ids j := clRow_cg I10 (fun l hl => by
            unfold chP
            exact othB_cg hκ (fun k hk => by rw [wr_in (recI_ne hk p2 (hun l hl))]))
          unfold clRow at this ⊢
          rw [chW_o hκ p1 p2 (by omega), chW_o hκ p1 p2 (by omega)]
          exact this
        obtain ⟨V2, a1, a2, a3, a4⟩ := clRow_T hrow0 hch (by omega) (by omega)
        have ht2 : chW κ (ids j) p y V (oK κ + 23) (ids j) = 2 := by
          unfold chW
          rw [wr_ne (by omega), wr_at]
        rw [isTouched_n (by omega), Option.bind_some, b2i_T (by rw [ht2]; decide), if_neg (by decide), show eX4_add (91 + 9 * q) 2 (nI (ids j)) (chW κ (ids j) p y V) = _ from a1, Option.bind_some]
        have hs : ∀ k, 4 ≤ k → k ≤ 75 → V2 k = chW κ (ids j) p y V k := fun k a b => a3 k (by omega)
        refine ih f g (j + 1) V2 _ (by omega) (by omega) (by omega) ⟨WRel_stay (WRel_chW I1 hκ hx p1 p2 p8) hs, hWF, ?_, TT_stay hT hs, fun κ' i hκ' => by rw [isThb_wr hκ hκ' hwn hx p1 p2 p8]; exact I5 κ' i hκ', fun κ' hκ' => by rw [wr_in (by have := hev p p2 p1; omega)]; exact I6 κ' hκ', fun x a b k e => ?_, fun k a b => by rw [a3 k (by omega), chW_o hκ p1 p2 a]; exact I8 k a b, fun k a => by rw [wr_ne a]; exact I9 k a, a2, fun r hr hr2 => ?_, fun l hl => ?_⟩
        · intro κ' hκ'
          have := oK_b hκ'
          have hkk := kept_chW (x := ids j) (y := y) I3 hκ p1 p2 κ' hκ'
          rw [hs (oK κ') (by omega) (by omega)]
          refine ⟨hkk.1, hkk.2.1, hkk.2.2.1, fun e i he hi => ?_⟩
          rw [hs (oK κ' + 13 + e) (by omega) (by unfold oK; omega)]
          exact hkk.2.2.2 e i he hi
        · have hne : x ≠ ids j := fun z => b j (by omega) z.symm
          rw [wr_in (recI_ne e p2 hne)]
          exact I7 x a (fun l hl => b l (by omega)) k e
        · rw [a4 r hr2, chW_o hκ p1 p2 (by omega)]
          exact I11 r hr hr2
        · have key : ∀ i, isTh (W 1) nb nm nt κ i → isTh (wr W 1 (recI κ (ids j) p) y 1) nb nm nt κ i := fun i hi => by
            show isThb _ _ _ _ _ _ = true
            rw [isThb_wr hκ (by omega) hwn hx p1 p2 p8]; exact hi
          by_cases e : l = j
          · subst e; exact ⟨hx, key _ hth⟩
          · obtain ⟨m1, m2⟩ := I12 l (by omega)
            exact ⟨m1, key _ m2⟩
