
/-! one call of a run: done or not -/
theorem WRel_s {V : Mm} {w : Nat → Int32} {nb nm nt κ : Nat} (h : WRel V w nb nm nt) (hκ : κ < 3) : V (oK κ) 6 = w (583 + κ) := by
  obtain ⟨f1, f2, f3⟩ := h.2.2.2.2.1
  have : κ = 0 ∨ κ = 1 ∨ κ = 2 := by omega
  rcases this with rfl | rfl | rfl
  · exact f1
  · exact f2
  · exact f3
theorem WN_c {w v : Nat → Int32} {nb nm nt : Nat} (h : WN v nb nm nt) (e : ∀ j, 580 ≤ j → j < 583 → w j = v j) : WN w nb nm nt := ⟨h.b20, h.m50, h.tm, by rw [e _ (by omega) (by omega)]; exact h.eb, by rw [e _ (by omega) (by omega)]; exact h.em, by rw [e _ (by omega) (by omega)]; exact h.et⟩
theorem rowRel_fr {V W V' W' : Mm} {q r : Nat} (h : rowRel V W q r) (h1 : V' (91 + 9 * q + 6) = V (91 + 9 * q + 6)) (h2 : V' (91 + 9 * q + 2 + r) = V (91 + 9 * q + 2 + r)) (h9 : W' 9 = W 9) (h10 : W' 10 = W 10) : rowRel V' W' q r := by
  unfold rowRel at h ⊢
  rw [h1, h2, h9, h10]
  exact h
theorem step_n {N k q : Nat} {V W : Mm} (hN : N ≤ 12) (hq : q < N) (hk : k < 512) (h : MI N k q V W) : ∃ (V' W' : Mm) (δ : Nat), (∀ f G : Nat, eX5_run_b34 (f + 1) (nI N) (nI G) (nI q) V = eX5_run_b34 f (nI N) (nI (G + δ)) (nI (q + 1)) V') ∧
    (∀ (g T G : Nat) (l1 : Int32), q < T → T ≤ 12 → eX6_run_b53 (g + 1) l1 (nI T) (nI G) W = eX6_run_b53 g l1 (nI T) (nI (G + δ)) W') ∧ MI N k (q + 1) V' W' ∧ frR V W V' W' := by
  obtain ⟨nb, nm, nt, hCS⟩ := CS_n hN hq hk h
  obtain ⟨m1, m2, m3, m4, m5, -, m7, m8, m9⟩ := h
  obtain ⟨-, -, hW2, hF2, hfil2, hlog2, -, hcl2, -, hcp⟩ := id hCS
  obtain ⟨code, V3, W3, hc, hd, ⟨fc1, fc2⟩, ⟨fm1, fm2, fm3, fm4⟩, hres⟩ := any_call hCS
  have c1 : ∀ c, c ≠ 2 → c ≠ 9 → clrM q (cpy W 1 2 586) c = W c := fun c a b => by rw [clrM_k b, cpy_ne a]
  have hwnA := WRel_WN hW2
  have hinv2 : rLogInv (k + 1) (clrM q (cpy W 1 2 586)) := rLogInv_k m8 (by rw [← c1 1 (by omega) (by omega)]; exact hwnA) (by rw [c1 0 (by omega) (by omega)]) (fun j _ => by rw [c1 1 (by omega) (by omega)]) (fun c a b => c1 c (by omega) (by omega))
  have h3 : W3 0 21 = nI q := by rw [fm2 21 (by omega), c1 0 (by omega) (by omega)]; exact m1
  have e32 : W3 2 = clrM q (cpy W 1 2 586) 2 := fm1 2 (by omega) (by omega) (by omega) (by omega) (by omega) (by omega) (by omega)
  have h0 : ∀ j, j < 586 → W3 2 j = clrM q (cpy W 1 2 586) 1 j := fun j hj => by rw [e32]; exact hcp j hj
  have hWk : ∀ k, k ≠ 0 → k ≠ 1 → k ≠ 2 → k ≠ 9 → k ≠ 10 → k ≠ 16 → k ≠ 17 → k ≠ 22 → W3 k = W k := fun k a0 a1 a2 a9 a10 a16 a17 a22 => by rw [fm1 k a0 a1 a9 a10 a16 a17 a22, c1 k a2 a9]
  have hVk : ∀ k, k ≠ 0 → (k < 4 ∨ 75 < k) → k ≠ 83 → k ≠ 88 → (k < 93 + 9 * q ∨ 97 + 9 * q < k) → V3 k = V k := fun k a b c e f => by rw [fc1 k a b c e f, clrC_k (by omega)]
  have hV0 : ∀ x, x ≠ 9 → V3 0 x = V 0 x := fun x hx => by rw [fc2 x hx, clrC_k (by omega)]
  have hW0 : ∀ x, x ≠ 20 → W3 0 x = W 0 x := fun x hx => by rw [fm2 x hx, c1 0 (by omega) (by omega)]
  have c3 : ¬ (nI q < 0 ∨ 12 ≤ (nI q).toNatClampNeg) := by
    rw [n_cl (by omega), show (0 : Int32) = nI 0 from rfl, n_lt (by omega) (by omega)]; omega
  have c4 : ¬ (nI q < 0 ∨ 12 ≤ q) := by rw [n_cl (by omega)] at c3; exact c3
  rcases hres with ⟨hc0, hrows, nb', nm', nt', hW3, hF3, hg, hT⟩ | ⟨hc0, hWf, hclf⟩
  · subst hc0
    have hwn0 : WN (W3 2) nb nm nt := WN_c hwnA (fun j _ b => h0 j (by omega))
    have hwn := WRel_WN hW3
    have hg' : grow (W3 2) (W3 1) nb nm nt nb' nm' nt' := ⟨hg.1, hg.2.1, hg.2.2.1, fun κ i hκ hi hth => by
      show isThb _ _ _ _ _ _ = true
      rw [isThb_c0 h0 hwn0 hκ]; exact hg.2.2.2.1 κ i hκ hi hth, fun κ hκ => by rw [hg.2.2.2.2 κ hκ]; exact (h0 _ (by omega)).symm⟩
    obtain ⟨s0, hs0, hl⟩ := lgS_start (Vs := V3) (Ws := wr W3 8 q 0) (w0 := W3 2) (w := W3 1) hlog2 hinv2 hwnA hg h0 (fun c a b => fc1 c (by omega) (by omega) (by omega) (by omega) (by omega)) (fun c a b => by rw [wr_ne (by omega)]; exact fm1 c (by omega) (by omega) (by omega) (by omega) (by omega) (by omega) (by omega)) (by rw [wr_ne (by omega)]; exact fm2 13 (by omega))
    have hs1 : ∀ κ, κ < 3 → s0 κ ≤ 12 * k + q := fun κ hκ => by
      obtain ⟨s, s1, s2⟩ := m9 κ hκ
      have e := (hs0 κ hκ).1
      rw [c1 1 (by omega) (by omega), s2] at e
      have := (nI_eq (a := s) (b := s0 κ) (by omega) (by have := (hs0 κ hκ).2; omega)).mp e
      omega
    have hT' : TT V3 (whatK (W3 2) (W3 1) nb nm nt nb' nm' nt') := TT_congr hT (fun κ i hκ hi => whatK_c0 h0 hwn0 hwn hκ)
    obtain ⟨V4, W5, s', a1, a2, ⟨f1, f2, f3, f4, f5⟩, hst, hsb, hl2, hcl4⟩ := settle_n (Vs := V3) (Ws := wr W3 8 q 0) (w0 := W3 2) (w := W3 1) hwn0 hwn hg' (fun κ hκ => by have := hs1 κ hκ; omega) (wr_ne (by omega)) (wr_ne (by omega)) (fun κ hκ => ever_K hW3 hκ) hT' (fun κ hκ => by
      rw [wr_ne (show 1 ≠ 8 by omega)]
      have e1 : W3 1 (583 + κ) = nI (s0 κ) := (hg.2.2.2.2 κ hκ).trans (hs0 κ hκ).1
      exact ⟨(WRel_s hW3 hκ).trans e1, e1⟩) hl
    have e51 : ∀ j, j < 583 → W5 1 j = W3 1 j := fun j hj => by rw [f3 j hj, wr_ne (by omega)]
    have e5k : ∀ k, k ≠ 0 → k ≠ 1 → k ≠ 8 → (k < 11 ∨ 15 < k) → W5 k = W3 k := fun k a b c d => by rw [f1 k a b d, wr_ne c]
    have e58 : W5 8 = wr W3 8 q 0 8 := f1 8 (by omega) (by omega) (by omega)
    have e50 : ∀ j, j ≠ 13 → W5 0 j = W3 0 j := fun j hj => by rw [f2 j hj, wr_ne (by omega)]
    obtain ⟨hlogE, hinvE⟩ := lgS_end (k := k + 1) hl2 hwn e51 (fun κ hκ => ⟨(hst κ hκ).2, by have := hsb κ; have := hs1 κ hκ; omega⟩)
    have hW5 : WRel V4 (W5 1) nb' nm' nt' := WRel_c1 hW3 e51 (fun κ hκ => (hst κ hκ).1.trans (hst κ hκ).2.symm) (fun κ hκ => ⟨f5 κ 3 hκ (by omega) (by omega), f5 κ 4 hκ (by omega) (by omega)⟩) (fun κ c i hκ hc2 _ => by
      rw [f4 (oK κ + 2 + c) (by unfold oK; omega) (by unfold oK; omega) (by unfold oK; omega) (by unfold oK; omega) (by unfold oK; omega) (by unfold oK; omega) (by unfold oK; omega)])
    have eV4 : ∀ k, (k < 4 ∨ 82 < k) → V4 k = V3 k := fun k hk => f4 k (by omega) (by omega) (by omega) (by omega) (by omega) (by omega) (by omega)
    refine ⟨wr V4 (91 + 9 * q) 2 0, wr W5 0 21 (nI (q + 1)), 1, fun f G => ?_, fun g T G l1 hqT hT12 => ?_, ⟨by rw [wr_at], fun p hp => ?_, fun p hp => ?_, ?_, ?_, ⟨nb', nm', nt', ?_, ?_⟩, ?_, ?_, fun κ hκ => ?_⟩, ⟨fun x hx => ?_, ?_, fun k a b => ?_, fun p hp => ⟨?_, ?_⟩, fun k a b => ?_, fun k a b => ?_, fun x a b c => ?_⟩⟩
    · rw [b34_u hN hq, hc, Option.bind_some]
      unfold eX5_run_b90
      dsimp only
      rw [if_pos rfl, a1, Option.bind_some, if_neg c3, n_cl (by omega), show nI G + 1 = nI (G + 1) from n_add G 1, show nI q + 1 = nI (q + 1) from n_add q 1]
    · rw [b53_u hT12 hqT m1 hd h3, if_pos rfl, a2, Option.bind_some, e50 21 (by omega), h3, show nI q + 1 = nI (q + 1) from n_add q 1]
    · by_cases e : p = q
      · subst e
        refine ⟨by rw [wr_at, wr_ne (by omega), e58, wr_at], fun r hr => rowRel_fr (hrows r hr) ?_ ?_ ?_ ?_⟩
        · rw [wr_ne (by omega), eV4 _ (by omega)]
        · rw [wr_ne (by omega), eV4 _ (by omega)]
        · rw [wr_ne (by omega), e5k 9 (by omega) (by omega) (by omega) (by omega)]
        · rw [wr_ne (by omega), e5k 10 (by omega) (by omega) (by omega) (by omega)]
      · have hp' : p < q := by omega
        refine outRel_fr (m2 p hp') ?_ ?_ (fun r hr => ?_) ?_ (fun r hr => ?_) (fun r hr i hi => ?_)
        · rw [wr_ne (by omega), eV4 _ (by omega), hVk _ (by omega) (by omega) (by omega) (by omega) (by omega)]
        · rw [wr_ne (by omega), eV4 _ (by omega), hVk _ (by omega) (by omega) (by omega) (by omega) (by omega)]
        · rw [wr_ne (by omega), eV4 _ (by omega), hVk _ (by omega) (by omega) (by omega) (by omega) (by omega)]
        · rw [wr_ne (by omega), e58, wr_in e, hWk 8 (by omega) (by omega) (by omega) (by omega) (by omega) (by omega) (by omega) (by omega)]
        · rw [wr_ne (by omega), e5k 9 (by omega) (by omega) (by omega) (by omega), fm3 _ (by omega), clrM_i (by omega), cpy_ne (by omega)]
        · rw [wr_ne (by omega), e5k 10 (by omega) (by omega) (by omega) (by omega), fm4 _ (by omega), c1 10 (by omega) (by omega)]
    · refine callRel_fr (m3 p hp) ?_ ?_ ?_ ?_ ?_
      · rw [wr_ne (by omega), eV4 _ (by omega), hVk _ (by omega) (by omega) (by omega) (by omega) (by omega)]
      · rw [wr_ne (by omega), eV4 _ (by omega), hVk _ (by omega) (by omega) (by omega) (by omega) (by omega)]
      · rw [wr_ne (by omega), e5k 5 (by omega) (by omega) (by omega) (by omega), hWk 5 (by omega) (by omega) (by omega) (by omega) (by omega) (by omega) (by omega) (by omega)]
      · rw [wr_ne (by omega), e5k 6 (by omega) (by omega) (by omega) (by omega), hWk 6 (by omega) (by omega) (by omega) (by omega) (by omega) (by omega) (by omega) (by omega)]
      · rw [wr_ne (by omega), e5k 7 (by omega) (by omega) (by omega) (by omega), hWk 7 (by omega) (by omega) (by omega) (by omega) (by omega) (by omega) (by omega) (by omega)]
    · refine rFil_k m4 (fun k a b => ?_) ?_ (fun k a b => ?_)
      · rw [wr_ne (by omega), eV4 _ (by omega), hVk _ (by omega) (by omega) (by omega) (by omega) (by omega)]
      · rw [wr_in (by omega), e50 24 (by omega), hW0 24 (by omega)]
      · rw [wr_ne (by omega), e5k k (by omega) (by omega) (by omega) (by omega), hWk k (by omega) (by omega) (by omega) (by omega) (by omega) (by omega) (by omega) (by omega)]
    · exact rLog_k hlogE (fun k a b => wr_ne (by omega)) (wr_in (by omega)) (fun k a b => wr_ne (by omega))
    · rw [wr_ne (by omega)]
      exact WRel_stay hW5 (fun k a b => wr_ne (by omega))
    · rw [wr_ne (by omega)]
      exact WF_c0 (fun j hj => e51 j (by omega)) hwn.b20 hwn.m50 hF3
    · exact rClean_stay hcl4 (fun k a b => wr_ne (by omega))
    · exact rLogInv_k hinvE (WRel_WN hW5) (wr_in (by omega)) (fun j _ => by rw [wr_ne (by omega)]) (fun c a b => wr_ne (by omega))
    · exact ⟨s' κ, by have := hsb κ; have := hs1 κ hκ; omega, by rw [wr_ne (by omega)]; exact (hst κ hκ).2⟩
    · rw [wr_ne (by omega), eV4 0 (by omega), hV0 x hx]
    · rw [wr_ne (by omega), eV4 1 (by omega), hVk 1 (by omega) (by omega) (by omega) (by omega) (by omega)]
    · rw [wr_ne (by omega), eV4 k (by omega), hVk k (by omega) (by omega) (by omega) (by omega) (by omega)]
    · rw [wr_ne (by omega), eV4 _ (by omega), hVk _ (by omega) (by omega) (by omega) (by omega) (by omega)]
    · rw [wr_ne (by omega), eV4 _ (by omega), hVk _ (by omega) (by omega) (by omega) (by omega) (by omega)]
    · rw [wr_ne (by omega), e5k k (by omega) (by omega) (by omega) (by omega), hWk k (by omega) (by omega) (by omega) (by omega) (by omega) (by omega) (by omega) (by omega)]
    · rw [wr_ne (by omega), e5k k (by omega) (by omega) (by omega) (by omega), hWk k (by omega) (by omega) (by omega) (by omega) (by omega) (by omega) (by omega) (by omega)]
    · rw [wr_in c, e50 x a, hW0 x b]
  · have eM : ∀ k, k ≠ 0 → k ≠ 1 → k ≠ 8 → k ≠ 9 → (wr (cpy (clrM q (wr W3 8 q code)) 2 1 586) 0 21 (nI (q + 1))) k = W3 k := fun k a b c d => by rw [wr_ne a, cpy_ne b, clrM_k d, wr_ne c]
    have e1 : ∀ j, j < 586 → (wr (cpy (clrM q (wr W3 8 q code)) 2 1 586) 0 21 (nI (q + 1))) 1 j = W 1 j := fun j hj => by
      rw [wr_ne (by omega), cpy_at hj, clrM_k (by omega), wr_ne (by omega), h0 j hj, c1 1 (by omega) (by omega)]
    have eV : ∀ k, k ≠ 91 + 9 * q → k ≠ 91 + 9 * q + 6 → (wr (clrC q V3) (91 + 9 * q) 2 code) k = V3 k := fun k a b => by rw [wr_ne a, clrC_k b]
    have e0 : ∀ x, x ≠ 21 → (wr (cpy (clrM q (wr W3 8 q code)) 2 1 586) 0 21 (nI (q + 1))) 0 x = W3 0 x := fun x hx => by rw [wr_in hx, cpy_ne (by omega), clrM_k (by omega), wr_ne (by omega)]
    have e8 : (wr (cpy (clrM q (wr W3 8 q code)) 2 1 586) 0 21 (nI (q + 1))) 8 = wr W3 8 q code 8 := by rw [wr_ne (by omega), cpy_ne (by omega), clrM_k (by omega)]
    have e9 : (wr (cpy (clrM q (wr W3 8 q code)) 2 1 586) 0 21 (nI (q + 1))) 9 = clrM q (wr W3 8 q code) 9 := by rw [wr_ne (by omega), cpy_ne (by omega)]
    refine ⟨wr (clrC q V3) (91 + 9 * q) 2 code, wr (cpy (clrM q (wr W3 8 q code)) 2 1 586) 0 21 (nI (q + 1)), 0, fun f G => ?_, fun g T G l1 hqT hT12 => ?_, ⟨by rw [wr_at], fun p hp => ?_, fun p hp => ?_, ?_, ?_, ⟨nb, nm, nt, ?_, ?_⟩, ?_, ?_, fun κ hκ => ?_⟩, ⟨fun x hx => ?_, ?_, fun k a b => ?_, fun p hp => ⟨?_, ?_⟩, fun k a b => ?_, fun k a b => ?_, fun x a b c => ?_⟩⟩
    · rw [b34_u hN hq, hc, Option.bind_some]
      unfold eX5_run_b90
      dsimp only
      rw [if_neg hc0, if_neg c3, n_cl (by omega), clear_n, Option.bind_some, if_neg c4, show nI q + 1 = nI (q + 1) from n_add q 1]
      rfl
    · rw [b53_u hT12 hqT m1 hd h3, if_neg hc0, copy_n (by omega), Option.bind_some]
      have e21 : (cpy (clrM q (wr W3 8 q code)) 2 1 586) 0 21 = nI q := by rw [cpy_ne (by omega), clrM_k (by omega), wr_ne (by omega)]; exact h3
      rw [e21, show nI q + 1 = nI (q + 1) from n_add q 1]
      rfl
    · by_cases e : p = q
      · subst e
        refine ⟨by rw [wr_at, e8, wr_at], fun r hr => row0 ?_ ?_⟩
        · rw [wr_ne (by omega)]; exact clrC_r hr
        · rw [e9]; exact clrM_r hr
      · have hp' : p < q := by omega
        refine outRel_fr (m2 p hp') ?_ ?_ (fun r hr => ?_) ?_ (fun r hr => ?_) (fun r hr i hi => ?_)
        · rw [eV _ (by omega) (by omega), hVk _ (by omega) (by omega) (by omega) (by omega) (by omega)]
        · rw [eV _ (by omega) (by omega), hVk _ (by omega) (by omega) (by omega) (by omega) (by omega)]
        · rw [eV _ (by omega) (by omega), hVk _ (by omega) (by omega) (by omega) (by omega) (by omega)]
        · rw [e8, wr_in e, hWk 8 (by omega) (by omega) (by omega) (by omega) (by omega) (by omega) (by omega) (by omega)]
        · rw [e9, clrM_i (by omega), wr_ne (by omega), fm3 _ (by omega), clrM_i (by omega), cpy_ne (by omega)]
        · rw [eM 10 (by omega) (by omega) (by omega) (by omega), fm4 _ (by omega), c1 10 (by omega) (by omega)]
    · refine callRel_fr (m3 p hp) ?_ ?_ ?_ ?_ ?_
      · rw [eV _ (by omega) (by omega), hVk _ (by omega) (by omega) (by omega) (by omega) (by omega)]
      · rw [eV _ (by omega) (by omega), hVk _ (by omega) (by omega) (by omega) (by omega) (by omega)]
      · rw [eM 5 (by omega) (by omega) (by omega) (by omega), hWk 5 (by omega) (by omega) (by omega) (by omega) (by omega) (by omega) (by omega) (by omega)]
      · rw [eM 6 (by omega) (by omega) (by omega) (by omega), hWk 6 (by omega) (by omega) (by omega) (by omega) (by omega) (by omega) (by omega) (by omega)]
      · rw [eM 7 (by omega) (by omega) (by omega) (by omega), hWk 7 (by omega) (by omega) (by omega) (by omega) (by omega) (by omega) (by omega) (by omega)]
    · refine rFil_k m4 (fun k a b => ?_) ?_ (fun k a b => ?_)
      · rw [eV _ (by omega) (by omega), hVk _ (by omega) (by omega) (by omega) (by omega) (by omega)]
      · rw [e0 24 (by omega), hW0 24 (by omega)]
      · rw [eM k (by omega) (by omega) (by omega) (by omega), hWk k (by omega) (by omega) (by omega) (by omega) (by omega) (by omega) (by omega) (by omega)]
    · refine rLog_k m5 (fun k a b => ?_) ?_ (fun k a b => ?_)
      · rw [eV _ (by omega) (by omega), hVk _ (by omega) (by omega) (by omega) (by omega) (by omega)]
      · rw [e0 13 (by omega), hW0 13 (by omega)]
      · rw [eM k (by omega) (by omega) (by omega) (by omega), hWk k (by omega) (by omega) (by omega) (by omega) (by omega) (by omega) (by omega) (by omega)]
    · have hWf' := WRel_c0 hWf (w := (wr (cpy (clrM q (wr W3 8 q code)) 2 1 586) 0 21 (nI (q + 1))) 1) (fun j hj => by rw [e1 j hj, c1 1 (by omega) (by omega)])
      exact WRel_stay hWf' (fun k a b => eV k (by omega) (by omega))
    · exact WF_c0 (fun j hj => by rw [e1 j (by omega), c1 1 (by omega) (by omega)]) hwnA.b20 hwnA.m50 hF2
    · exact rClean_stay hclf (fun k a b => eV k (by omega) (by omega))
    · refine rLogInv_k m8 (by rw [← c1 1 (by omega) (by omega)]; exact hwnA) ?_ e1 (fun c a b => ?_)
      · rw [e0 13 (by omega), hW0 13 (by omega)]
      · rw [eM c (by omega) (by omega) (by omega) (by omega), hWk c (by omega) (by omega) (by omega) (by omega) (by omega) (by omega) (by omega) (by omega)]
    · obtain ⟨s, s1, s2⟩ := m9 κ hκ
      exact ⟨s, by omega, by rw [e1 _ (by omega)]; exact s2⟩
    · rw [eV 0 (by omega) (by omega), hV0 x hx]
    · rw [eV 1 (by omega) (by omega), hVk 1 (by omega) (by omega) (by omega) (by omega) (by omega)]
    · rw [eV k (by omega) (by omega), hVk k (by omega) (by omega) (by omega) (by omega) (by omega)]
    · rw [eV _ (by omega) (by omega), hVk _ (by omega) (by omega) (by omega) (by omega) (by omega)]
    · rw [eV _ (by omega) (by omega), hVk _ (by omega) (by omega) (by omega) (by omega) (by omega)]
    · rw [eM k (by omega) (by omega) (by omega) (by omega), hWk k (by omega) (by omega) (by omega) (by omega) (by omega) (by omega) (by omega) (by omega)]
    · rw [eM k (by omega) (by omega) (by omega) (by omega), hWk k (by omega) (by omega) (by omega) (by omega) (by omega) (by omega) (by omega) (by omega)]
    · rw [e0 x c, hW0 x b]
