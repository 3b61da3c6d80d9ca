
/-! a run -/
theorem loop_n {N k : Nat} (hN : N ≤ 12) (hk : k < 512) : ∀ (e q T : Nat) (V W : Mm), q + e = T → T ≤ N → MI N k q V W → ∃ (V' W' : Mm) (δ : Nat), (∀ f G : Nat, eX5_run_b34 (f + e) (nI N) (nI G) (nI q) V = eX5_run_b34 f (nI N) (nI (G + δ)) (nI T) V') ∧
    (∀ (g G : Nat) (l1 : Int32), eX6_run_b53 (g + e) l1 (nI T) (nI G) W = eX6_run_b53 g l1 (nI T) (nI (G + δ)) W') ∧ MI N k T V' W' ∧ frR V W V' W' := by
  intro e
  induction e with
  | zero =>
    intro q T V W hq hT hM
    have : q = T := by omega
    subst this
    exact ⟨V, W, 0, fun f G => rfl, fun g G l1 => rfl, hM, fun _ _ => rfl, rfl, fun _ _ _ => rfl, fun _ _ => ⟨rfl, rfl⟩, fun _ _ _ => rfl, fun _ _ _ => rfl, fun _ _ _ _ => rfl⟩
  | succ e ih =>
    intro q T V W hq hT hM
    obtain ⟨V1, W1, δ, a1, a2, a3, a4⟩ := step_n hN (show q < N by omega) hk hM
    obtain ⟨V2, W2, ε, b1, b2, b3, b4⟩ := ih (q + 1) T V1 W1 (by omega) hT a3
    refine ⟨V2, W2, δ + ε, fun f G => ?_, fun g G l1 => ?_, b3, frR_tr a4 b4⟩
    · rw [show f + (e + 1) = (f + e) + 1 by omega, a1, b1, Nat.add_assoc]
    · rw [show g + (e + 1) = (g + e) + 1 by omega, a2 (g + e) T G l1 (by omega) (by omega), b2, Nat.add_assoc]
theorem b34_end {f N : Nat} {l2 : Int32} {V : Mm} : eX5_run_b34 (f + 1) (nI N) l2 (nI N) V = some (l2, wr V 0 11 (nI N)) := by
  rw [eX5_run_b34, if_pos (Int32.le_refl _)]
theorem sim_run {k : Nat} {Vc Vm : Mm} (hk : k < 512) (h : RR k Vc Vm) : Sim2 RR k Vc Vm eX5_run eX6_run := by
  obtain ⟨r1, ⟨N, hN, p1, p2, p3⟩, r3, r4, r5, r6, r7, r8, r9⟩ := h
  obtain ⟨nb, nm, nt, hW, hF⟩ := id r7
  have hwn := WRel_WN hW
  obtain ⟨n, f, l1, l2, l3, l4, l5, l6, l7⟩ := id r6
  have kp := keep_n (V0 := cpy Vm 1 3 586) (n := n) (by rw [cpy_ne (by omega)]; exact l4) l1
  obtain ⟨X, x1, x2, x3, x4, x5⟩ := kp
  have xk : ∀ c, c ≠ 3 → c ≠ 18 → X c = Vm c := fun c a b => by rw [x2 c b, cpy_ne a]
  have hM0 : MI N k 0 (wr (wr Vc 0 10 0) 0 11 0) (wr X 0 21 (nI 0)) := by
    have eV : ∀ c, c ≠ 0 → wr (wr Vc 0 10 0) 0 11 0 c = Vc c := fun c a => by rw [wr_ne a, wr_ne a]
    have eW : ∀ c, c ≠ 0 → c ≠ 3 → c ≠ 18 → wr X 0 21 (nI 0) c = Vm c := fun c a b d => by rw [wr_ne a, xk c b d]
    refine ⟨by rw [wr_at], fun p hp => absurd hp (by omega), fun p hp => ?_, ?_, ?_, ⟨nb, nm, nt, ?_, ?_⟩, ?_, ?_, fun κ hκ => ?_⟩
    · exact callRel_fr (p3 p hp) (eV _ (by omega)) (eV _ (by omega)) (eW 5 (by omega) (by omega) (by omega)) (eW 6 (by omega) (by omega) (by omega)) (eW 7 (by omega) (by omega) (by omega))
    · exact rFil_k r5 (fun c a b => eV c (by omega)) (by rw [wr_in (by omega), xk 0 (by omega) (by omega)]) (fun c a b => eW c (by omega) (by omega) (by omega))
    · exact rLog_k r6 (fun c a b => eV c (by omega)) (by rw [wr_in (by omega), xk 0 (by omega) (by omega)]) (fun c a b => eW c (by omega) (by omega) (by omega))
    · rw [eW 1 (by omega) (by omega) (by omega)]
      exact WRel_stay hW (fun c a b => eV c (by omega))
    · rw [eW 1 (by omega) (by omega) (by omega)]; exact hF
    · exact rClean_stay r8 (fun c a b => eV c (by omega))
    · exact rLogInv_c r9 (Nat.le_succ k) hwn (by rw [wr_in (by omega), xk 0 (by omega) (by omega)]) (fun j _ => by rw [eW 1 (by omega) (by omega) (by omega)]) (fun c i a b _ => by rw [eW c (by omega) (by omega) (by omega)]) (fun κ _ => by rw [eW 15 (by omega) (by omega) (by omega)])
    · obtain ⟨n2, s, d, K, St, Id, Wh, i1, i2, i3, -⟩ := r9
      exact ⟨s κ, (i3 κ hκ).2.1, by rw [eW 1 (by omega) (by omega) (by omega)]; exact (i3 κ hκ).1⟩
  have hmod : eX6_run Vm = if X 0 8 = -9 then eX6_run_b53 fu (X 0 4) (X 0 4) 0 (wr X 0 21 0) else if (X 0 4) ≤ (X 0 8) then eX6_run_b53 fu (X 0 4) (X 0 4) 0 (wr X 0 21 0) else eX6_run_b53 fu (X 0 4) (X 0 8) 0 (wr X 0 21 0) := by
    unfold eX6_run
    rw [copy_n (by omega), Option.bind_some, x1, Option.bind_some]
  have x04 : X 0 4 = nI N := by rw [xk 0 (by omega) (by omega)]; exact p2
  have x08 : X 0 8 = Vm 0 8 := by rw [xk 0 (by omega) (by omega)]
  have hfuN : ∀ T, T ≤ N → fu = (2999 - T + 1) + T := fun T hT => by unfold fu; omega
  rcases r4 with ⟨q1, q2⟩ | ⟨q1, c, hc, q2⟩
  · -- no crash
    obtain ⟨V', W', δ, a1, a2, ⟨m1, m2, m3, m4, m5, m6, m7, m8, m9⟩, ⟨g1, g2, g3, g4, g5, g6, g7⟩⟩ := loop_n hN hk N 0 N _ _ (by omega) (Nat.le_refl _) hM0
    have e8 : W' 0 8 = -9 := by rw [g7 8 (by omega) (by omega) (by omega), wr_in (by omega), x08]; exact q2
    refine ⟨nI (0 + δ), wr V' 0 11 (nI N), wr (wr W' 0 4 0) 0 9 (nI N), ?_, ?_, ?_⟩
    · unfold eX5_run
      rw [if_pos q1, p1, hfuN N (Nat.le_refl _)]
      have := a1 (2999 - N + 1) 0
      rw [show eX5_run_b34 (2999 - N + 1 + N) (nI N) 0 0 (wr (wr Vc 0 10 0) 0 11 0) = _ from this]
      exact b34_end
    · rw [hmod, if_pos (by rw [x08]; exact q2), x04, hfuN N (Nat.le_refl _)]
      have := a2 (2999 - N + 1) 0 (nI N)
      rw [show eX6_run_b53 (2999 - N + 1 + N) (nI N) (nI N) 0 (wr X 0 21 0) = _ from this]
      rw [eX6_run_b53, m1, if_pos (Int32.le_refl _), if_pos e8]
    · have eV : ∀ c, c ≠ 0 → wr V' 0 11 (nI N) c = V' c := fun c a => wr_ne a
      have eW : ∀ c, c ≠ 0 → wr (wr W' 0 4 0) 0 9 (nI N) c = W' c := fun c a => by rw [wr_ne a, wr_ne a]
      refine ⟨?_, ⟨0, by omega, ?_, ?_, fun p hp => absurd hp (by omega)⟩, ⟨N, hN, by rw [wr_at], by rw [wr_at], fun p hp => ?_⟩, Or.inl ⟨?_, ?_⟩, ?_, ?_, ?_, ?_, ?_⟩
      · exact rDraft_fr r1 (by rw [eV 1 (by omega), g2, wr_ne (by omega), wr_ne (by omega)]) (by rw [eW 4 (by omega), g5 4 (by omega) (by omega), wr_ne (by omega), xk 4 (by omega) (by omega)])
      · rw [wr_in (by omega), g1 10 (by omega), wr_in (by omega), wr_at]; rfl
      · rw [wr_in (by omega), wr_at]; rfl
      · exact outRel_fr (m2 p hp) (by rw [eV _ (by omega)]) (eV _ (by omega)) (fun r _ => eV _ (by omega)) (by rw [eW 8 (by omega)]) (fun r _ => by rw [eW 9 (by omega)]) (fun r _ i _ => by rw [eW 10 (by omega)])
      · rw [wr_in (by omega), g1 12 (by omega), wr_in (by omega), wr_in (by omega)]; exact q1
      · rw [wr_in (by omega), wr_in (by omega)]; exact e8
      · exact rFil_k m4 (fun c a b => eV c (by omega)) (by rw [wr_in (by omega), wr_in (by omega)]) (fun c a b => eW c (by omega))
      · exact rLog_k m5 (fun c a b => eV c (by omega)) (by rw [wr_in (by omega), wr_in (by omega)]) (fun c a b => eW c (by omega))
      · obtain ⟨nb', nm', nt', hW', hF'⟩ := m6
        exact ⟨nb', nm', nt', by rw [eW 1 (by omega)]; exact WRel_stay hW' (fun c a b => eV c (by omega)), by rw [eW 1 (by omega)]; exact hF'⟩
      · exact rClean_stay m7 (fun c a b => eV c (by omega))
      · obtain ⟨nb', nm', nt', hW', hF'⟩ := m6
        exact rLogInv_k m8 (WRel_WN hW') (by rw [wr_in (by omega), wr_in (by omega)]) (fun j _ => by rw [eW 1 (by omega)]) (fun c a b => eW c (by omega))
  · -- a crash
    have hT : ∃ T, T ≤ N ∧ eX6_run Vm = eX6_run_b53 fu (nI N) (nI T) 0 (wr X 0 21 0) := by
      rw [hmod, x08, q2, x04, if_neg (show ¬ nI c = -9 by rw [n_ne9 (by omega)]; exact id)]
      by_cases e : N ≤ c
      · exact ⟨N, Nat.le_refl _, by rw [if_pos (by rw [n_le (by omega) (by omega)]; exact e)]⟩
      · exact ⟨c, by omega, by rw [if_neg (by rw [n_le (by omega) (by omega)]; exact e)]⟩
    obtain ⟨T, hTN, hrun⟩ := hT
    obtain ⟨V', W', δ, a1, a2, ⟨m1, m2, m3, m4, m5, m6, m7, m8, m9⟩, ⟨g1, g2, g3, g4, g5, g6, g7⟩⟩ := loop_n hN hk T 0 T _ _ (by omega) hTN hM0
    have e8 : ¬ W' 0 8 = -9 := by rw [g7 8 (by omega) (by omega) (by omega), wr_in (by omega), x08, q2, n_ne9 (by omega)]; exact id
    have z18 : ∀ j, cpy (wr (wr (wr (wr W' 0 4 0) 0 9 (nI N)) 0 8 (-9)) 0 9 0) 3 1 586 18 j = X 18 j := fun j => by
      rw [cpy_ne (by omega), wr_ne (by omega), wr_ne (by omega), wr_ne (by omega), wr_ne (by omega), g6 18 (by omega) (by omega), wr_ne (by omega)]
    obtain ⟨B, b1, b2, b3, b4, b5, b6⟩ := back_n (V0 := cpy (wr (wr (wr (wr W' 0 4 0) 0 9 (nI N)) 0 8 (-9)) 0 9 0) 3 1 586) l1 (by rw [z18]; exact x5)
    have bk : ∀ c, 4 ≤ c → c ≤ 7 ∨ (19 ≤ c ∧ c ≤ 21) → B c = Vm c := fun c a b => by
      rw [b2 c (by omega) (by omega) (by omega) (by omega) (by omega) (by omega), cpy_ne (by omega), wr_ne (by omega), wr_ne (by omega), wr_ne (by omega), wr_ne (by omega)]
      rcases b with b | b
      · rw [g5 c (by omega) (by omega), wr_ne (by omega), xk c (by omega) (by omega)]
      · rw [g6 c (by omega) (by omega), wr_ne (by omega), xk c (by omega) (by omega)]
    have bw : ∀ j, j < 586 → B 1 j = Vm 1 j := fun j hj => by
      rw [b2 1 (by omega) (by omega) (by omega) (by omega) (by omega) (by omega), cpy_at hj, wr_ne (by omega), wr_ne (by omega), wr_ne (by omega), wr_ne (by omega), g5 3 (by omega) (by omega), wr_ne (by omega), x2 3 (by omega), cpy_at hj]
    have bl : ∀ i, i < n → B 11 i = Vm 11 i ∧ B 12 i = Vm 12 i ∧ B 13 i = Vm 13 i ∧ B 14 i = Vm 14 i := fun i hi => by
      obtain ⟨u1, u2, u3, u4⟩ := b5 i hi
      obtain ⟨v1, v2, v3, v4⟩ := x3 i hi
      rw [z18] at u1 u2 u3 u4
      rw [cpy_ne (by omega)] at v1 v2 v3 v4
      exact ⟨u1.symm.trans v1, u2.symm.trans v2, u3.symm.trans v3, u4.symm.trans v4⟩
    have b15 : ∀ κ, κ < 3 → B 15 κ = Vm 15 κ := fun κ hκ => by
      rw [b6 κ hκ, z18, x4 κ hκ, cpy_ne (by omega)]
    have eV : ∀ c, c ≠ 0 → wr (wr (wr Vc 0 10 0) 0 11 0) 0 12 0 c = Vc c := fun c a => by rw [wr_ne a, wr_ne a, wr_ne a]
    refine ⟨-9, wr (wr (wr Vc 0 10 0) 0 11 0) 0 12 0, B, ?_, ?_, ?_⟩
    · unfold eX5_run
      rw [if_neg (by rw [q1]; decide)]
    · rw [hrun, hfuN T hTN]
      have := a2 (2999 - T + 1) 0 (nI N)
      rw [show eX6_run_b53 (2999 - T + 1 + T) (nI N) (nI T) 0 (wr X 0 21 0) = _ from this]
      rw [eX6_run_b53, m1, if_pos (Int32.le_refl _), if_neg e8, copy_n (by omega), Option.bind_some, b1]
      rfl
    · refine ⟨?_, ⟨0, by omega, ?_, ?_, fun p hp => absurd hp (by omega)⟩, ⟨0, by omega, ?_, ?_, fun p hp => absurd hp (by omega)⟩, Or.inl ⟨?_, ?_⟩, ?_, ?_, ⟨nb, nm, nt, ?_, ?_⟩, ?_, ?_⟩
      · exact rDraft_fr r1 (eV 1 (by omega)) (bk 4 (by omega) (by omega))
      · rw [wr_in (by omega), wr_in (by omega), wr_at]; rfl
      · rw [b3 4 (by omega), cpy_ne (by omega), wr_in (by omega), wr_in (by omega), wr_in (by omega), wr_at]; rfl
      · rw [wr_in (by omega), wr_at]; rfl
      · rw [b3 9 (by omega), cpy_ne (by omega), wr_at]; rfl
      · rw [wr_at]
      · rw [b3 8 (by omega), cpy_ne (by omega), wr_in (by omega), wr_at]
      · refine rFil_k r5 (fun c a b => eV c (by omega)) ?_ (fun c a b => bk c (by omega) (by omega))
        rw [b3 24 (by omega), cpy_ne (by omega), wr_in (by omega), wr_in (by omega), wr_in (by omega), wr_in (by omega), g7 24 (by omega) (by omega) (by omega), wr_in (by omega), xk 0 (by omega) (by omega)]
      · refine ⟨n, f, l1, l2, by rw [eV 76 (by omega)]; exact l3, b4, by rw [eV 76 (by omega)]; exact l5, fun i hi => ?_, fun κ hκ => by rw [eV 82 (by omega), b15 κ hκ]; exact l7 κ hκ⟩
        obtain ⟨u1, u2, u3, u4⟩ := bl i hi
        rw [eV 78 (by omega), eV 79 (by omega), eV 80 (by omega), eV 81 (by omega), u1, u2, u3, u4]
        exact l6 i hi
      · exact WRel_c0 (WRel_stay hW (fun c a b => eV c (by omega))) bw
      · exact WF_c0 (fun j hj => bw j (by omega)) hwn.b20 hwn.m50 hF
      · exact rClean_stay r8 (fun c a b => eV c (by omega))
      · refine rLogInv_c r9 (Nat.le_succ k) hwn (b4.trans l4.symm) bw (fun c i a b hi => ?_) b15
        have hi' := hi n l4 l1
        obtain ⟨u1, u2, u3, u4⟩ := bl i hi'
        have hcs : c = 11 ∨ c = 12 ∨ c = 13 ∨ c = 14 := by omega
        rcases hcs with rfl | rfl | rfl | rfl
        · exact u1
        · exact u2
        · exact u3
        · exact u4
