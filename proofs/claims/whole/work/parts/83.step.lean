
/-! one call of a run -/
def MI (N k q : Nat) (V W : Mm) : Prop := W 0 21 = nI q ∧ (∀ p, p < q → outRel V W p) ∧ (∀ p, p < N → callRel V W p) ∧ rFil V W ∧ rLog V W ∧ rWorld V W ∧ rClean V ∧ rLogInv (k + 1) W ∧ (∀ κ, κ < 3 → ∃ s, s ≤ 12 * k + q ∧ W 1 (583 + κ) = nI s)
def frR (V0 W0 V W : Mm) : Prop := (∀ x, x ≠ 9 → V 0 x = V0 0 x) ∧ V 1 = V0 1 ∧ (∀ k, 84 ≤ k → k ≤ 87 → V k = V0 k) ∧ (∀ p, p < 12 → V (89 + 9 * p) = V0 (89 + 9 * p) ∧ V (89 + 9 * p + 1) = V0 (89 + 9 * p + 1)) ∧ (∀ k, 3 ≤ k → k ≤ 7 → W k = W0 k) ∧ (∀ k, 18 ≤ k → k ≤ 21 → W k = W0 k) ∧ (∀ x, x ≠ 13 → x ≠ 20 → x ≠ 21 → W 0 x = W0 0 x)
theorem frR_tr {V0 W0 V1 W1 V2 W2 : Mm} (h : frR V0 W0 V1 W1) (g : frR V1 W1 V2 W2) : frR V0 W0 V2 W2 :=
  ⟨fun x a => (g.1 x a).trans (h.1 x a), g.2.1.trans h.2.1, fun k a b => (g.2.2.1 k a b).trans (h.2.2.1 k a b), fun p hp => ⟨(g.2.2.2.1 p hp).1.trans (h.2.2.2.1 p hp).1, (g.2.2.2.1 p hp).2.trans (h.2.2.2.1 p hp).2⟩, fun k a b => (g.2.2.2.2.1 k a b).trans (h.2.2.2.2.1 k a b), fun k a b => (g.2.2.2.2.2.1 k a b).trans (h.2.2.2.2.2.1 k a b), fun x a b c => (g.2.2.2.2.2.2 x a b c).trans (h.2.2.2.2.2.2 x a b c)⟩
def clrC (q : Nat) (V : Mm) : Mm := wr (wr (wr (wr V (91 + 9 * q + 6) 0 0) (91 + 9 * q + 6) 1 0) (91 + 9 * q + 6) 2 0) (91 + 9 * q + 6) 3 0
def clrM (q : Nat) (W : Mm) : Mm := wr (wr (wr (wr W 9 (4 * q + 0) 0) 9 (4 * q + 1) 0) 9 (4 * q + 2) 0) 9 (4 * q + 3) 0
theorem clrC_k {q k : Nat} {V : Mm} (h : k ≠ 91 + 9 * q + 6) : clrC q V k = V k := by
  unfold clrC; simp (disch := omega) only [wr_ne]
theorem clrC_r {q r : Nat} {V : Mm} (h : r < 4) : clrC q V (91 + 9 * q + 6) r = 0 := by
  unfold clrC
  have : r = 0 ∨ r = 1 ∨ r = 2 ∨ r = 3 := by omega
  rcases this with rfl | rfl | rfl | rfl <;> simp (disch := omega) only [wr_in, wr_at]
theorem clrM_k {q k : Nat} {W : Mm} (h : k ≠ 9) : clrM q W k = W k := by
  unfold clrM; simp (disch := omega) only [wr_ne]
theorem clrM_r {q r : Nat} {W : Mm} (h : r < 4) : clrM q W 9 (4 * q + r) = 0 := by
  unfold clrM
  have : r = 0 ∨ r = 1 ∨ r = 2 ∨ r = 3 := by omega
  rcases this with rfl | rfl | rfl | rfl <;> simp (disch := omega) only [wr_in, wr_at]
theorem clrM_i {q i : Nat} {W : Mm} (h : i < 4 * q) : clrM q W 9 i = W 9 i := by
  unfold clrM; simp (disch := omega) only [wr_in]
theorem b34_u {f N q : Nat} {l2 : Int32} {V : Mm} (hN : N ≤ 12) (hq : q < N) : eX5_run_b34 (f + 1) (nI N) l2 (nI q) V = (callC q (clrC q V)).bind fun r => eX5_run_b90 (fun l1 l2 l3 V => eX5_run_b34 f l1 l2 l3 V) (nI N) l2 (nI q) r.1 r.2 := by
  have c1 : ¬ nI N ≤ nI q := by rw [n_le (by omega) (by omega)]; omega
  have c2 : ¬ (12 : Int32) ≤ nI q := by rw [show (12 : Int32) = nI 12 from rfl, n_le (by omega) (by omega)]; omega
  have c3 : ¬ (nI q < 0 ∨ 12 ≤ (nI q).toNatClampNeg) := by
    rw [n_cl (by omega), show (0 : Int32) = nI 0 from rfl, n_lt (by omega) (by omega)]; omega
  have c4 : ¬ (nI q < 0 ∨ 12 ≤ q) := by rw [n_cl (by omega)] at c3; exact c3
  rw [eX5_run_b34, if_neg c1, if_neg c2, if_neg c3, n_cl (by omega), clear_n, Option.bind_some, if_neg c4]
  unfold callC
  rw [show wr (wr (wr (wr V (91 + 9 * q + 6) 0 0) (91 + 9 * q + 6) 1 0) (91 + 9 * q + 6) 2 0) (91 + 9 * q + 6) 3 0 = clrC q V from rfl]
  cases eX5_refusalOf (89 + 9 * q) (nI q) (clrC q V) with
  | none => rfl
  | some r =>
    simp only [Option.bind_some]
    by_cases h0 : r = 0
    · rw [if_pos h0, if_pos h0, if_neg c4, if_neg c4]
    · rw [if_neg h0, if_neg h0]
      rfl
theorem cpy12_9 {W : Mm} {k : Nat} (h : k ≠ 2) : cpy W 1 2 586 k = W k := cpy_ne h
theorem b53_u {g q T : Nat} {l1 : Int32} {G : Nat} {W W3 : Mm} {code : Int32} (hT : T ≤ 12) (hq : q < T) (h21 : W 0 21 = nI q) (hd : eX6_doCall (clrM q (cpy W 1 2 586)) = some (code, W3)) (h3 : W3 0 21 = nI q) :
    eX6_run_b53 (g + 1) l1 (nI T) (nI G) W = if code = 0 then (eX6_settle (wr W3 8 q code)).bind fun r25 => eX6_run_b53 g l1 (nI T) (nI (G + 1)) (wr r25 0 21 ((r25 0 21) + 1)) else (eX6_copy 2 1 (clrM q (wr W3 8 q code))).bind fun r23 => eX6_run_b53 g l1 (nI T) (nI G) (wr r23 0 21 ((r23 0 21) + 1)) := by
  have c1 : ¬ nI T ≤ nI q := by rw [n_le (by omega) (by omega)]; omega
  have c3 : ¬ (nI q < 0 ∨ 12 ≤ (nI q).toNatClampNeg) := by
    rw [n_cl (by omega), show (0 : Int32) = nI 0 from rfl, n_lt (by omega) (by omega)]; omega
  have e21 : (cpy W 1 2 586) 0 21 = nI q := by rw [cpy_ne (by omega)]; exact h21
  have e21c : (clrM q (cpy W 1 2 586)) 0 21 = nI q := by rw [clrM_k (by omega)]; exact e21
  rw [eX6_run_b53, h21, if_neg c1, copy_n (by omega), Option.bind_some, e21, clearRows_n (by omega), Option.bind_some]
  rw [show wr (wr (wr (wr (cpy W 1 2 586) 9 (4 * q + 0) 0) 9 (4 * q + 1) 0) 9 (4 * q + 2) 0) 9 (4 * q + 3) 0 = clrM q (cpy W 1 2 586) from rfl, hd, Option.bind_some]
  simp only [e21c, h3]
  have c4 : ¬ (nI q < 0 ∨ 12 ≤ q) := by rw [n_cl (by omega)] at c3; exact c3
  rw [if_neg c3, n_cl (by omega), if_neg c4, wr_at]
  by_cases h0 : code = 0
  · rw [if_pos h0, if_pos h0]
    rw [show nI G + 1 = nI (G + 1) from n_add G 1]
  · rw [if_neg h0, if_neg h0, clearRows_n (by omega), Option.bind_some]
    rfl
theorem rFil_k {Vc Vm Vc' Vm' : Mm} (h : rFil Vc Vm) (hV : ∀ k, 84 ≤ k → k ≤ 87 → Vc' k = Vc k) (h0 : Vm' 0 24 = Vm 0 24) (hW : ∀ k, 19 ≤ k → k ≤ 21 → Vm' k = Vm k) : rFil Vc' Vm' :=
  rFil_fr h (by rw [hV 84 (by omega) (by omega)]) h0 (hV 85 (by omega) (by omega)) (hV 86 (by omega) (by omega)) (hV 87 (by omega) (by omega)) (hW 19 (by omega) (by omega)) (hW 20 (by omega) (by omega)) (hW 21 (by omega) (by omega))
theorem rLog_k {Vc Vm Vc' Vm' : Mm} (h : rLog Vc Vm) (hV : ∀ k, 76 ≤ k → k ≤ 82 → Vc' k = Vc k) (h0 : Vm' 0 13 = Vm 0 13) (hW : ∀ k, 11 ≤ k → k ≤ 15 → Vm' k = Vm k) : rLog Vc' Vm' :=
  rLog_fr h (hV 76 (by omega) (by omega)) h0 (hV 78 (by omega) (by omega)) (hV 79 (by omega) (by omega)) (hV 80 (by omega) (by omega)) (hV 81 (by omega) (by omega)) (hV 82 (by omega) (by omega)) (hW 11 (by omega) (by omega)) (hW 12 (by omega) (by omega)) (hW 13 (by omega) (by omega)) (hW 14 (by omega) (by omega)) (hW 15 (by omega) (by omega))
/-- the log's invariant, where the world's row is alike -/
theorem rLogInv_c {k k' nb nm nt : Nat} {Vm Vm' : Mm} (h : rLogInv k Vm) (hk : k ≤ k') (hwn : WN (Vm 1) nb nm nt) (h0 : Vm' 0 13 = Vm 0 13) (hw : ∀ j, j < 586 → Vm' 1 j = Vm 1 j) (hW : ∀ c i, 11 ≤ c → c ≤ 14 → (∀ n, Vm 0 13 = nI n → n ≤ 60 → i < n) → Vm' c i = Vm c i) (h15 : ∀ κ, κ < 3 → Vm' 15 κ = Vm 15 κ) : rLogInv k' Vm' := by
  obtain ⟨n, s, d, K, St, Id, Wh, i1, i2, i3, i4, i5, i6, i7⟩ := h
  have hwn' : WN (Vm' 1) nb nm nt := ⟨hwn.b20, hwn.m50, hwn.tm, by rw [hw _ (by omega)]; exact hwn.eb, by rw [hw _ (by omega)]; exact hwn.em, by rw [hw _ (by omega)]; exact hwn.et⟩
  have hin : ∀ c i, 11 ≤ c → c ≤ 14 → i < n → Vm' c i = Vm c i := fun c i a b hi => hW c i a b (fun n' e1 e2 => by
    have : n' = n := by rw [i2] at e1; exact ((nI_eq (by omega) (by omega)).mp e1).symm
    omega)
  refine ⟨n, s, d, K, St, Id, Wh, i1, h0.trans i2, fun κ hκ => ⟨by rw [hw _ (by omega)]; exact (i3 κ hκ).1, by have := (i3 κ hκ).2.1; omega, by rw [h15 κ hκ]; exact (i3 κ hκ).2.2.1, (i3 κ hκ).2.2.2⟩, fun i hi => ?_, i5, i6, i7⟩
  obtain ⟨p1, p2, p3, p4, p5, p6, p7, p8, p9, p10, p11, p12⟩ := i4 i hi
  refine ⟨(hin 11 i (by omega) (by omega) hi).trans p1, (hin 12 i (by omega) (by omega) hi).trans p2, (hin 13 i (by omega) (by omega) hi).trans p3, (hin 14 i (by omega) (by omega) hi).trans p4, p5, p6, p7, p8, by rw [hw _ (by omega)]; exact p9, p10, p11, fun z y => p12 z ((thK_iff hwn p5).mpr ?_)⟩
  show isThb _ _ _ _ _ _ = true
  rw [← isThb_c1 (fun x hx => hw x (by omega)) hwn.b20 hwn.m50 p5]
  exact (thK_iff hwn' p5).mp y
theorem rLogInv_k {k nb nm nt : Nat} {Vm Vm' : Mm} (h : rLogInv k Vm) (hwn : WN (Vm 1) nb nm nt) (h0 : Vm' 0 13 = Vm 0 13) (hw : ∀ j, j < 586 → Vm' 1 j = Vm 1 j) (hW : ∀ c, 11 ≤ c → c ≤ 15 → Vm' c = Vm c) : rLogInv k Vm' :=
  rLogInv_c h (Nat.le_refl _) hwn h0 hw (fun c i a b _ => by rw [hW c a (by omega)]) (fun κ _ => by rw [hW 15 (by omega) (by omega)])
theorem CS_n {N k q : Nat} {V W : Mm} (hN : N ≤ 12) (hq : q < N) (hk : k < 512) (h : MI N k q V W) : ∃ nb nm nt, CS q (clrC q V) (clrM q (cpy W 1 2 586)) nb nm nt := by
  obtain ⟨m1, m2, m3, m4, m5, ⟨nb, nm, nt, hW, hF⟩, m7, m8, m9⟩ := h
  have c1 : ∀ c, c ≠ 2 → c ≠ 9 → clrM q (cpy W 1 2 586) c = W c := fun c a b => by rw [clrM_k b, cpy_ne a]
  refine ⟨nb, nm, nt, ⟨by omega, by rw [c1 0 (by omega) (by omega)]; exact m1, fun p hp => ?_⟩, ?_, ?_, by rw [c1 1 (by omega) (by omega)]; exact hF, ?_, ?_, ⟨k + 1, by omega, ?_⟩, ?_, fun r hr => ?_, fun j hj => ?_⟩
  · exact outRel_fr (m2 p hp) (by rw [clrC_k (by omega)]) (by rw [clrC_k (by omega)]) (fun r hr => by rw [clrC_k (by omega)]) (by rw [c1 8 (by omega) (by omega)]) (fun r hr => by rw [clrM_i (by omega), cpy_ne (by omega)]) (fun r hr i hi => by rw [c1 10 (by omega) (by omega)])
  · exact callRel_fr (m3 q hq) (clrC_k (by omega)) (clrC_k (by omega)) (c1 5 (by omega) (by omega)) (c1 6 (by omega) (by omega)) (c1 7 (by omega) (by omega))
  · rw [c1 1 (by omega) (by omega)]
    exact WRel_stay hW (fun k a b => clrC_k (by omega))
  · exact rFil_k m4 (fun k a b => clrC_k (by omega)) (by rw [c1 0 (by omega) (by omega)]) (fun k a b => c1 k (by omega) (by omega))
  · exact rLog_k m5 (fun k a b => clrC_k (by omega)) (by rw [c1 0 (by omega) (by omega)]) (fun k a b => c1 k (by omega) (by omega))
  · exact rLogInv_k m8 (WRel_WN hW) (by rw [c1 0 (by omega) (by omega)]) (fun j _ => by rw [c1 1 (by omega) (by omega)]) (fun c a b => c1 c (by omega) (by omega))
  · exact rClean_stay m7 (fun k a b => clrC_k (by omega))
  · exact ⟨0, Nat.le_refl _, clrC_r hr, clrM_r hr, fun i hi => absurd hi (by omega), fun i j _ hj => absurd hj (by omega)⟩
  · rw [c1 1 (by omega) (by omega), clrM_k (by omega), cpy_at hj]
