/-! the references behind the constructors -/
def bigP (P : Nat → Nat → Option Nat) : Prop := ∀ i j, (13 ≤ j ∨ 197 ≤ i) → P i j = none
theorem big_0 : bigP (fun _ _ => none) := fun _ _ _ => rfl
theorem big_wp {P : Nat → Nat → Option Nat} {c k : Nat} {x : Option Nat} (h : bigP P) (hc : c < 197) (hk : k < 13) : bigP (wp P c k x) := by
  intro i j hij
  unfold wp
  by_cases e1 : i = c
  · rw [if_pos e1]
    by_cases e2 : j = k
    · exact absurd hij (by omega)
    · rw [if_neg e2]; exact h i j hij
  · rw [if_neg e1]; exact h i j hij
theorem big_mna {P : Nat → Nat → Option Nat} {N n : Nat} (h : bigP P) (hc : N < 197) (hk : n ≤ 13) : bigP (mnaP P N n) := by
  intro i j hij
  unfold mnaP
  by_cases e1 : i = N
  · rw [if_pos e1, if_neg (by omega)]
  · rw [if_neg e1]; exact h i j hij
theorem eqP {P Q : Nat → Nat → Option Nat} (hP : bigP P) (hQ : bigP Q) (h : ((List.range 197).all fun i => (List.range 13).all fun j => P i j == Q i j) = true) : P = Q := by
  funext i j
  by_cases hi : i < 197
  · by_cases hj : j < 13
    · have h1 := List.all_eq_true.mp h i (List.mem_range.mpr hi)
      have h2 := List.all_eq_true.mp h1 j (List.mem_range.mpr hj)
      exact eq_of_beq h2
    · rw [hP i j (Or.inl (by omega)), hQ i j (Or.inl (by omega))]
  · rw [hP i j (Or.inr (by omega)), hQ i j (Or.inr (by omega))]
theorem big_PC : bigP PC := by
  intro i j h
  unfold PC
  repeat' split
  all_goals first | rfl | omega
theorem big_PM : ∀ i j, (29 ≤ j ∨ 1 ≤ i) → PM i j = none := by
  intro i j h
  unfold PM
  repeat' split
  all_goals first | rfl | omega
set_option maxRecDepth 100000 in
theorem big_core : bigP (cCore (fun _ _ => none)) := by
  unfold cCore cKind cLog cFil cCall cOut
  repeat first | exact big_0 | refine big_wp ?_ (by decide) (by decide) | refine big_mna ?_ (by decide) (by decide)
set_option maxRecDepth 100000 in
set_option maxHeartbeats 4000000 in
theorem core_PC : cCore (fun _ _ => none) = PC := eqP big_core big_PC (by decide +kernel)
def bigM (P : Nat → Nat → Option Nat) : Prop := ∀ i j, (29 ≤ j ∨ 1 ≤ i) → P i j = none
theorem bigM_0 : bigM (fun _ _ => none) := fun _ _ _ => rfl
theorem bigM_wp {P : Nat → Nat → Option Nat} {c k : Nat} {x : Option Nat} (h : bigM P) (hc : c < 1) (hk : k < 29) : bigM (wp P c k x) := by
  intro i j hij
  unfold wp
  by_cases e1 : i = c
  · rw [if_pos e1]
    by_cases e2 : j = k
    · exact absurd hij (by omega)
    · rw [if_neg e2]; exact h i j hij
  · rw [if_neg e1]; exact h i j hij
set_option maxRecDepth 100000 in
theorem big_model : bigM (cModel (fun _ _ => none)) := by
  unfold cModel
  repeat first | exact bigM_0 | refine bigM_wp ?_ (by decide) (by decide)
set_option maxRecDepth 100000 in
theorem model_PM : cModel (fun _ _ => none) = PM := by
  funext i j
  by_cases hi : i < 1
  · by_cases hj : j < 29
    · have h : ((List.range 29).all fun j => cModel (fun _ _ => none) 0 j == PM 0 j) = true := by decide +kernel
      have h2 := List.all_eq_true.mp h j (List.mem_range.mpr hj)
      have : i = 0 := by omega
      subst this
      exact eq_of_beq h2
    · rw [big_model i j (Or.inl (by omega)), big_PM i j (Or.inl (by omega))]
  · rw [big_model i j (Or.inr (by omega)), big_PM i j (Or.inr (by omega))]
/-! the law's start: what it says of the classes and the static array -/
theorem law_top {args : Array Value} {s : State} (hts : ∀ w ∈ lw_tbl, w.before args s = true) (hgv : (Jvm.Cond.and given_1 narrow_1).before args s = true) : XS (fun q => s.heap.size ≤ q) s s.heap := by
  have hs := flat_of_before _ hgv
  have hA : ∀ a : Nat, a < s.heap.size → ¬ s.heap.size ≤ a := fun a h => Nat.not_le.mpr h
  have e (j : Nat) (v : Int32) (h : Cond.eq (.elem (.static "MailCore" "DRAFT_TOP" "[I") (.int (Int32.ofNat j))) (.int v) ∈ flatC (Jvm.Cond.and given_1 narrow_1)) : (Term.elem (.static "MailCore" "DRAFT_TOP" "[I") (.int (Int32.ofNat j))).eval args s none [] s = some (.int v) := va_eqt (hs _ h)
  obtain ⟨t, ht, hT⟩ := va_Tof (args := args) (s := s) (tm := .static "MailCore" "DRAFT_TOP" "[I") (ty := .int) (N := 10) (f := fun j => .int (topf j)) (A := fun q => s.heap.size ≤ q) (by decide) (hs (Cond.arrayOf (.static "MailCore" "DRAFT_TOP" "[I") .int) (by decide +kernel)) (va_eqt (hs (Cond.eq (.length (.static "MailCore" "DRAFT_TOP" "[I")) (.int 10)) (by decide +kernel)))
    (fun j hj => by
      match j, hj with
      | 0, _ => exact e 0 99 (by decide +kernel)
      | 1, _ => exact e 1 0 (by decide +kernel)
      | 2, _ => exact e 2 9 (by decide +kernel)
      | 3, _ => exact e 3 99 (by decide +kernel)
      | 4, _ => exact e 4 999 (by decide +kernel)
      | 5, _ => exact e 5 1000 (by decide +kernel)
      | 6, _ => exact e 6 1000 (by decide +kernel)
      | 7, _ => exact e 7 9999 (by decide +kernel)
      | 8, _ => exact e 8 9999 (by decide +kernel)
      | 9, _ => exact e 9 15 (by decide +kernel)
      | k + 10, hj => exact absurd hj (by omega)) hA
  exact ⟨t, va_Zof (hts (.laysStatic "MailCore" "DRAFT_TOP" "[I") (by decide +kernel)) (hts (.initialized "MailCore") (by decide +kernel)) ht hA, hT⟩
theorem law_KW {args : Array Value} {s : State} (hts : ∀ w ∈ lw_tbl, w.before args s = true) : KW s := by
  refine ⟨fun w hw => ?_, va_AO.of (hts (.arrayOver (.object "MailCore$Call")) (by decide +kernel)), va_AO.of (hts (.arrayOver (.object "MailCore$Outcome")) (by decide +kernel)), hts (.arrayOver (.array .int)) (by decide +kernel)⟩
  obtain ⟨h1, h2⟩ := List.mem_filter.mp hw
  have h3 := hts w h1
  cases w with
  | methodLinkNest => exact va_Nw.of rfl h3
  | fieldLinkNest => exact va_Nw.of rfl h3
  | _ => cases h2
theorem law_K {args : Array Value} {s : State} (hts : ∀ w ∈ lw_tbl, w.before args s = true) : ∃ (D : va_G) (dA : Nat → ClassId), va_K D vwCl (tys dA) s := by
  have hg : ∀ w ∈ gw, w.before args s = true := fun w hw => hts w (List.mem_filter.mp hw).1
  obtain ⟨c0, i0, k0⟩ := u_known (C := RX0) (T := TX0) (N := 12) (n := 12) hg inG0 (hts (.instantiable RX0 12) (by decide +kernel))
  obtain ⟨c1, i1, k1⟩ := u_known (C := RX1) (T := TX1) (N := 4) (n := 4) hg inG1 (hts (.instantiable RX1 4) (by decide +kernel))
  obtain ⟨c2, i2, k2⟩ := u_known (C := RX2) (T := TX2) (N := 8) (n := 8) hg inG2 (hts (.instantiable RX2 8) (by decide +kernel))
  obtain ⟨c3, i3, k3⟩ := u_known (C := RX3) (T := TX3) (N := 5) (n := 5) hg inG3 (hts (.instantiable RX3 5) (by decide +kernel))
  obtain ⟨c4, i4, k4⟩ := u_known (C := RX4) (T := TX4) (N := 3) (n := 3) hg inG4 (hts (.instantiable RX4 3) (by decide +kernel))
  obtain ⟨c5, i5, k5⟩ := u_known (C := RX5) (T := TX5) (N := 13) (n := 13) hg inG5 (hts (.instantiable RX5 13) (by decide +kernel))
  obtain ⟨c6, i6, k6⟩ := u_known (C := RX6) (T := TX6) (N := 29) (n := 29) hg inG6 (hts (.instantiable RX6 29) (by decide +kernel))
  obtain ⟨aI, kI, pI, fI, hI, gI⟩ := Cond.arrayClass_spec (hts (.arrayClass .int) (by decide +kernel))
  obtain ⟨aZ, kZ, pZ, fZ, hZ, gZ⟩ := Cond.arrayClass_spec (hts (.arrayClass .boolean) (by decide +kernel))
  obtain ⟨pA, aA, kA, -, -, hA, gA, fA⟩ := arrayOver_specB (hts (.arrayOver (.array .int)) (by decide +kernel))
  obtain ⟨pC, aC, kC, nC, -, hC, gC, fC⟩ := Cond.arrayOver_spec (hts (.arrayOver (.object "MailCore$Call")) (by decide +kernel))
  obtain ⟨pO, aO, kO, nO, -, hO, gO, fO⟩ := Cond.arrayOver_spec (hts (.arrayOver (.object "MailCore$Outcome")) (by decide +kernel))
  refine ⟨(fun k => if k = 0 then c0 else if k = 1 then c1 else if k = 2 then c2 else if k = 3 then c3 else if k = 4 then c4 else if k = 5 then c5 else c6, fun k => if k = 0 then i0 else if k = 1 then i1 else if k = 2 then i2 else if k = 3 then i3 else if k = 4 then i4 else if k = 5 then i5 else i6),
    (fun k => if k = 0 then aI else if k = 1 then aZ else if k = 2 then aA else if k = 3 then aC else aO), fun k q hq => ?_, fun k q hq => ?_⟩
  · match k, hq with
    | 0, hq => cases hq; exact k0
    | 1, hq => cases hq; exact k1
    | 2, hq => cases hq; exact k2
    | 3, hq => cases hq; exact k3
    | 4, hq => cases hq; exact k4
    | 5, hq => cases hq; exact k5
    | 6, hq => cases hq; exact k6
    | k + 7, hq => simp [vwCl] at hq
  · match k, hq with
    | 0, hq => cases hq; exact ⟨fun n z => ⟨(fun k h => by cases h), kI, hI, pI, gI⟩, fI⟩
    | 1, hq => cases hq; exact ⟨fun n z => ⟨(fun k h => by cases h), kZ, hZ, pZ, gZ⟩, fZ⟩
    | 2, hq => cases hq; exact ⟨fun n z => ⟨(fun k h => by cases h), kA, hA, pA, gA⟩, fA⟩
    | 3, hq => cases hq; exact ⟨fun n z => ⟨(fun k h => by cases h), kC, hC, pC, gC⟩, kC, pC, hC, gC, nC, fC⟩
    | 4, hq => cases hq; exact ⟨fun n z => ⟨(fun k h => by cases h), kO, hO, pO, gO⟩, kO, pO, hO, gO, nO, fO⟩
    | k + 5, hq => simp [tys] at hq
/-! both worlds side by side -/
theorem toE_id {dA : Nat → ClassId} {ad ad' : Nat → Nat} {h : HP} (hw : wfh h.1 h.2.2.1 h.2.2.2) (he : ∀ i, i < h.1 → ad' i = ad i) : wl dA ad' h = wl dA ad h := by
  obtain ⟨N, T, P, V⟩ := h
  unfold wl
  apply List.map_congr_left
  intro i hi
  have hi' : i < N := List.mem_range.mp hi
  rw [he i hi', toE_new (N := N) (N' := N) (P := P) (P' := P) (V := V) rfl (fun j a hj => (hw.1 i j a hj).1) he]
theorem run_k2 {p : Program} {l : Launch} {e : Env} {R : Room} {s : State} {m : MethodId} {args : Array Value} {below : List Frame} {meth : Method} {c : Code} {H : Heap} {locs : List Loc} {cells slots mc ms : Nat} {Q : State → Prop} {pc : Nat} {ls : Array Slot} {stk rest : List Value}
    {D : va_G} {dA : Nat → ClassId} {ad : Nat → Nat} {N : Nat} {A A1 : Nat → Prop} {r : Option Value} {h1 : HP} {free : Addr → Prop} {a : Array Value}
    (hr : va_Run p l e R s m args below meth c H locs cells slots mc ms (F0 m pc ls stk) rest (QE D dA ad N A1 r h1 a) free) (hS : va_S A s.heap H locs) (hA : ∀ q, A1 q → A q) (hf : ∀ q, free q → A q)
    (kk : ∀ (ad' : Nat → Nat) (H1 : Heap) (locs1 : List Loc), (∀ i, i < N → ad' i = ad i) → N ≤ h1.1 → va_P D vwCl (wl dA ad' h1) H1 → va_D A1 (wl dA ad' h1) → wfh h1.1 h1.2.2.1 h1.2.2.2 → va_S A s.heap H1 locs1 → H.size ≤ H1.size → (∀ q : Nat, q < H.size → ¬ A1 q → H1[q]? = H[q]?) →
      W p l e R s m args below meth c H1 locs1 (cells + mc) (slots + ms) Q (F0 m (pc + 3) ls ((r.map (vl ad')).toList ++ rest))) : W p l e R s m args below meth c H locs cells slots Q (F0 m pc ls stk) := by
  intro T hT X
  obtain ⟨v, st₀, t, T', L, h0, X', hL, e1, e2, ⟨⟨ad', hv, g1, g2, g3, g4, g5, g6⟩, hz, hk⟩, st⟩ := hr T hT X
  cases hv
  rw [h0] at hz hk
  obtain ⟨t2, a1, b1⟩ := kk ad' T'.heap (locs ++ L) g1 g2 (by rw [e1]; exact g3) g4 g5
    ⟨Nat.le_trans hS.1 (by rw [e1]; exact hz), fun q h1 h2 => by rw [e1, hk q (Nat.lt_of_lt_of_le h1 hS.1) (fun z => h2 (hA q z))]; exact hS.2.1 q h1 h2, fun q hq => by
      rcases List.mem_append.mp hq with h | h
      · exact hS.2.2 q h
      · exact hf _ (hL q h)⟩ (by rw [e1]; exact hz) (fun q h1 h2 => by rw [e1]; exact hk q h1 h2) T' rfl X'
  exact ⟨t2, st t2 a1, b1⟩
/-- what stands at each of the law's rows -/
def LC (p : Program) (s : State) (m : MethodId) (args : Array Value) (c : Code) (D : va_G) (dA : Nat → ClassId) : Prop :=
  p.tables.exec = Jvm.exec ∧ c.code = cL_law ∧ c.maxLocals = 4 ∧ s.vm.findClass RL = some m.cls ∧ (∀ w ∈ gw, w.before args s = true) ∧ va_K D vwCl (tys dA) s ∧ KW s ∧ XS (fun q => s.heap.size ≤ q) s s.heap
theorem law_pre {p : Program} {s : State} {m : MethodId} {args : Array Value} {c : Code} {D : va_G} {dA : Nat → ClassId} {ad : Nat → Nat} {h : HP} {H : Heap} {locs : List Loc} (B : LC p s m args c D dA) (hP : va_P D vwCl (wl dA ad h) H) (hD : va_D (fun q => s.heap.size ≤ q) (wl dA ad h)) (hS : va_S (fun q => s.heap.size ≤ q) s.heap H locs) :
    ∀ U : State, U.heap = H → s.WarmedH U.vm → PreB D dA ad h H.size U := by
  intro U hU hW
  obtain ⟨hx, hb, hml, hown, hts, hK, hKW, hX⟩ := B
  refine ⟨by rw [hU], by rw [hU]; exact hP, va_K.moved hW.alike hK, hD.weaken (fun _ _ _ _ => trivial), hKW.warm hW, ?_⟩
  have hX1 : XS (fun q => s.heap.size ≤ q) s H := hX.kept (fun a h1 h2 => hS.2.1 a h1 h2)
  rw [hU]
  exact (hX1.narrow (wl_free (D := D) hD hS (fun _ h => h))).moved hW.alike
/-- a call of a method of one of the two worlds (its object: number 0), out of the law -/
theorem law_cV {p : Program} {l : Launch} {e : Env} {s : State} {m : MethodId} {args : Array Value} {below : List Frame} {meth : Method} {c : Code} {D : va_G} {dA : Nat → ClassId} {H : Heap} {locs : List Loc} {cells slots : Nat} {Q : State → Prop} {pc : Nat} {ls : Array Slot}
    {M1 : MS} {n idx ci nn : Nat} {stk rest As : List Value} {ad ad2 : Nat → Nat} {N N2 : Nat} {T T2 : Nat → Nat × Nat} {P P2 : Nat → Nat → Option Nat} {V V1 V2 : Mm} {r : Int32}
    (B : LC p s m args c D dA) (hls : ls.size = 4) (hP1 : va_P D vwCl (wl dA ad (N, T, P, V)) H) (hP2 : va_P D vwCl (wl dA ad2 (N2, T2, P2, V2)) H) (hD1 : va_D (fun q => s.heap.size ≤ q) (wl dA ad (N, T, P, V))) (hdis : ∀ i j, i < N → j < N2 → ad i ≠ ad2 j) (hw : wfh N P V) (hS : va_S (fun q => s.heap.size ≤ q) s.heap H locs)
    (hE : Ev M1 (.ref 0 :: As) (N, T, P, V) (some (.int r)) (N, T, P, V1)) (hAs : ∀ v ∈ As, ∃ x, v = .int x) (hs : stk = As.reverse ++ .ref (ad 0) :: rest) (hM : MOK M1 n) (hi : Cond.instanceMethod M1.1 ∈ gw) (hsel : Cond.selects M1.1.cls M1.1 M1.1 ∈ gw) (hL : Cond.methodLink RL idx M1.1 ∈ gw) (hn : As.length = n) (hN0 : 0 < N) (hT : T 0 = (ci + 5, nn)) (hci : (vwCl[ci]?).map (fun q => q.1) = some M1.1.cls) (hst : (rest.map fun v => v.category).sum ≤ 8)
    (hR : M1.2.2.2.2.1 + 1 ≤ 9 ∧ 8 + (M1.2.2.1 + 11) + M1.2.2.2.2.2.1 ≤ 330) (h0 : M1.2.2.2.2.2.2.1 = 0 ∧ M1.2.2.2.2.2.2.2 = 0) (hc : cells ≤ 600000 ∧ slots ≤ 7302249) (hd : decode cL_law pc = .ok (.invokevirtual idx, 3))
    (kk : ∀ (H1 : Heap) (locs1 : List Loc), va_P D vwCl (wl dA ad (N, T, P, V1)) H1 → va_P D vwCl (wl dA ad2 (N2, T2, P2, V2)) H1 → va_D (fun q => s.heap.size ≤ q) (wl dA ad (N, T, P, V1)) → wfh N P V1 → va_S (fun q => s.heap.size ≤ q) s.heap H1 locs1 →
      W p l e room_1 s m args below meth c H1 locs1 cells slots Q (F0 m (pc + 3) ls (.int r :: rest))) : W p l e room_1 s m args below meth c H locs cells slots Q (F0 m pc ls stk) := by
  subst hs
  obtain ⟨hx, hb, hml, hown, hts, hK, hKW, hX⟩ := id B
  have hag : ∀ v ∈ (Value.ref 0 :: As), wfv N v := fun v hv => by
    rcases List.mem_cons.mp hv with rfl | hv
    · exact hN0
    · obtain ⟨x, rfl⟩ := hAs v hv
      trivial
  have hE' := hE l D dA ad H.size hw hag
  have hAm : As.map (vl ad) = As := by
    have : ∀ v ∈ As, vl ad v = v := fun v hv => by
      obtain ⟨x, rfl⟩ := hAs v hv
      rfl
    exact (List.map_congr_left this).trans (List.map_id _)
  rw [List.map_cons, hAm] at hE'
  have hG := good_gw hM
  obtain ⟨m1, m2, m3, m4, m5⟩ := hM
  have hg := wl_get (dA := dA) (ad := ad) (h := (N, T, P, V)) (i := 0) hN0
  rw [toE_o (h := (N, T, P, V)) hT] at hg
  have hq : ∃ q : vw_C, vwCl[ci]? = some q ∧ q.1 = M1.1.cls := by
    cases hcc : vwCl[ci]? with
    | none => rw [hcc] at hci; cases hci
    | some q => rw [hcc] at hci; exact ⟨q, rfl, Option.some.inj hci⟩
  obtain ⟨q, hq1, hq2⟩ := hq
  have hrecv := va_recv hK hP1 hq1 hg
  rw [hq2] at hrecv
  have hlen : ∀ sig, parseMethodDescriptor M1.1.desc = some sig → n = sig.parameters.length := fun sig hsig => by
    rw [hsig] at m3
    exact (Option.some.inj m3).symm
  have hws := pay_in hts hG
  have hbl : FrameBlind (va_Pc (Value.ref (ad 0) :: As) (PreB D dA ad (N, T, P, V) H.size)) := by
    have := preB_blind (D := D) (dA := dA) (ad := ad) (h := (N, T, P, V)) (sz := H.size) (vs := Value.ref 0 :: As)
    rw [List.map_cons, hAm] at this
    exact this
  have hPv : PreV s H M1.1.cls (ad 0) (va_Pc (Value.ref (ad 0) :: As) (PreB D dA ad (N, T, P, V) H.size)) As := ⟨hbl, hrecv, fun U hU hW => ⟨rfl, law_pre B hP1 hD1 hS U hU hW⟩⟩
  have hfree := wl_free (D := D) hD1 hS (fun _ h => h)
  refine run_k2 (va_runV (C := M1.1.cls) (As := As) (rest := rest) ⟨hx, hb, hml, hown, hts⟩ hE' ⟨⟨rfl, rfl, hR.1, hR.2, hws, List.mem_cons_self, hts _ m4, hts _ m5, m2, hlen, hts _ hL⟩, hts _ hi, hts _ hsel⟩ hPv rfl hn hls rfl (lv_room hst) hd ⟨by rw [h0.1]; exact hc.1, by rw [h0.2]; exact hc.2⟩) hS hfree hfree (fun ad' H1 locs1 g1 g2 g3 g4 g5 g6 g7 g8 => ?_)
  rw [toE_id g5 g1] at g3 g4
  rw [h0.1, h0.2]
  refine kk H1 locs1 g3 (hP2.kept (fun k q hk => ?_)) (g4.weaken (fun _ q _ h => hfree q.1 h)) g5 g6
  have hk1 : k < N2 := by
    have := (List.getElem?_eq_some_iff.mp hk).1
    rw [wl_len] at this
    exact this
  rw [wl_get (h := (N2, T2, P2, V2)) hk1] at hk
  cases hk
  have hlt : ad2 k < H.size := by
    have := (hP2 k _ (wl_get (dA := dA) (ad := ad2) (h := (N2, T2, P2, V2)) hk1)).lt
    exact this
  refine g8 (ad2 k) hlt (fun ha => ?_)
  rcases ha with ⟨j, e2, hj⟩ | ha
  · have hj1 : j < N := by
      have := (List.getElem?_eq_some_iff.mp hj).1
      rw [wl_len] at this
      exact this
    rw [wl_get (h := (N, T, P, V)) hj1] at hj
    have : ad j = ad2 k := congrArg (fun z => z.1) (Option.some.inj hj)
    exact hdis j k hj1 hk1 this
  · omega
