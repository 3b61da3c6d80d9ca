/-! new int[n][k] -/
def mnaP (P : Nat → Nat → Option Nat) (N n : Nat) : Nat → Nat → Option Nat := fun i j => if i = N then (if j < n then some (N + 1 + j) else none) else P i j
def mad (ad : Nat → Nat) (N q : Nat) (r : Nat → Nat) : Nat → Nat := fun i => if i < N then ad i else if i = N then q else r (i - N - 1)
theorem wl_mna {dA : Nat → ClassId} {ad r : Nat → Nat} {N n k q : Nat} {T : Nat → Nat × Nat} {P : Nat → Nat → Option Nat} {V : Nat → Nat → Int32} {f0 : Nat → va_E} (hw : wfh N P V) (hT : T N = (2, n)) (hTr : ∀ j, j < n → T (N + 1 + j) = (0, k)) :
    (wl dA ad (N, T, P, V) ++ [(q, .inl (dA 2, n, .inr (.inr (.inr (.inr (fun i => if i < n then some (r i) else none))))))]) ++ va_pl ([] ++ (List.range n).map r) (vr_up f0 ((List.range n).map r) (.inl (dA 0, (k, .inl (fun _ => 0))))) = wl dA (mad ad N q r) (N + 1 + n, T, mnaP P N n, V) := by
  have he : ∀ i, i < N → mad ad N q r i = ad i := fun i hi => by simp [mad, hi]
  have h1 : wl dA (mad ad N q r) (N + 1 + n, T, mnaP P N n, V) = ((List.range N).map (fun i => (mad ad N q r i, toE dA (mad ad N q r) (N + 1 + n, T, mnaP P N n, V) i)) ++ [(mad ad N q r N, toE dA (mad ad N q r) (N + 1 + n, T, mnaP P N n, V) N)]) ++ (List.range n).map (fun j => (mad ad N q r (N + 1 + j), toE dA (mad ad N q r) (N + 1 + n, T, mnaP P N n, V) (N + 1 + j))) := by
    unfold wl
    rw [show ((N + 1 + n, T, mnaP P N n, V) : HP).1 = N + 1 + n from rfl, List.range_add, List.map_append, List.range_succ, List.map_append, List.map_map]
    rfl
  rw [h1]
  congr 1
  · congr 1
    · unfold wl
      apply List.map_congr_left
      intro i hi
      have hi' : i < N := List.mem_range.mp hi
      have e : mnaP P N n i = P i := by
        funext j
        simp [mnaP, Nat.ne_of_lt hi']
      rw [he i hi', toE_new (N := N) (N' := N + 1 + n) (P := P) (P' := mnaP P N n) (V := V) e (fun j a hj => (hw.1 i j a hj).1) he]
    · have e0 : mad ad N q r N = q := by simp [mad]
      rw [e0, toE_q (h := (N + 1 + n, T, mnaP P N n, V)) (Or.inl rfl) hT]
      have e1 : (fun j => (mnaP P N n N j).map (mad ad N q r)) = fun i => if i < n then some (r i) else none := by
        funext j
        by_cases hj : j < n
        · have e2 : ¬ N + 1 + j < N := by omega
          have e3 : ¬ N + 1 + j = N := by omega
          have e4 : N + 1 + j - N - 1 = j := by omega
          simp [mnaP, mad, hj, e2, e3, e4]
        · simp [mnaP, hj]
      show _ = [(q, (Sum.inl (dA 2, n, Sum.inr (Sum.inr (Sum.inr (Sum.inr (fun j => (mnaP P N n N j).map (mad ad N q r)))))) : va_E))]
      rw [e1]
  · unfold va_pl
    rw [List.nil_append, List.map_map]
    apply List.map_congr_left
    intro j hj
    have hj' : j < n := List.mem_range.mp hj
    have e0 : mad ad N q r (N + 1 + j) = r j := by
      have e2 : ¬ N + 1 + j < N := by omega
      have e3 : ¬ N + 1 + j = N := by omega
      have e4 : N + 1 + j - N - 1 = j := by omega
      simp [mad, e2, e3, e4]
    rw [e0, toE_0 (h := (N + 1 + n, T, mnaP P N n, V)) (hTr j hj')]
    show (r j, vr_up f0 ((List.range n).map r) _ (r j)) = (r j, (Sum.inl (dA 0, k, Sum.inl (V (N + 1 + j))) : va_E))
    rw [vr_up_in (List.mem_map.mpr ⟨j, hj, rfl⟩), hw.2 (N + 1 + j) (by omega)]
theorem go_mna {M : MS} {pc cells slots n k idx : Nat} {L : List (Option Value)} {st : List Value} {N : Nat} {T : Nat → Nat × Nat} {P : Nat → Nat → Option Nat} {V : Nat → Nat → Int32} {r : Option Value} {h' : HP} {x y : Int32} (hw : Cond.classLink M.1.cls idx "[[I" ∈ gw ∧ Cond.arrayClass .int ∈ gw) (hx : ¬ x < 0) (hy : ¬ y < 0) (hn : x.toNatClampNeg = n) (hk : y.toNatClampNeg = k) (hT : T N = (2, n)) (hTr : ∀ j, j < n → T (N + 1 + j) = (0, k)) (hb : n * 4 ≤ 536870912 ∧ k * 4 ≤ 536870912 ∧ k ≤ 536870912)
    (hf : cells + (1 + n) ≤ M.2.2.2.2.2.2.1 ∧ slots + (n + n * k) ≤ M.2.2.2.2.2.2.2) (hd : decode M.2.1 pc = .ok (.multianewarray idx 2, 4)) (kk : Go M (pc + 4) L (.ref N :: st) (N + 1 + n, T, mnaP P N n, V) (cells + 1 + n) (slots + n + n * k) r h') : Go M pc L (.int y :: .int x :: st) (N, T, P, V) cells slots r h' := by
  intro p l e s m args below meth c D dA ad ad0 N0 A H locs ls B Y
  have hK := B.2.2.2.2.2.2.2.2.1
  have hA : ∀ q, s.heap.size ≤ q → A q := B.2.2.2.2.2.2.2.2.2.2.2
  have hw0 : wfh N P V := Y.2.2.2.1
  have hX : wl dA ad (N, T, P, V) ++ va_pl [] (fun _ => (Sum.inr (0, []) : va_E)) = wl dA ad (N, T, P, V) := by simp [va_pl]
  have hcy : s.vm.findClass (FieldType.array .int).toString = some (dA 0) := (hK.2 0 (dA 0, .int) rfl).2
  refine va_mna (X := wl dA ad (N, T, P, V)) (L := []) (f := fun _ => (Sum.inr (0, []) : va_E)) (ty := .int) (z := (k, .inl (fun _ => 0))) B.1 B.2.1 B.2.2.2.2.1 (B.2.2.2.2.2.1 _ hw.1) B.2.2.2.2.2.2.2.2.2.1.2.2.2 (B.2.2.2.2.2.1 _ hw.2) hcy hK (by rw [hX]; exact Y.1) (by rw [hX]; exact Y.2.1) Y.2.2.1 hA hx hy hn hk hb.1 hb.2.1 hb.2.2 rfl rfl hf.1 hf.2 (fun cI => ?_) hd (fun q r0 cA H1 g0 g00 g1 g2 g3 g4 => ?_)
  · rw [vp_cell_i, ← arrV_new]
    rfl
  · have ec : cA = dA 2 := by
      have z1 := (g1.2 5 (cA, .array .int) rfl).2
      have z2 := (hK.2 2 (dA 2, .array .int) rfl).2
      exact Option.some.inj (Eq.trans (Eq.symm z1) z2)
    subst ec
    rw [wl_mna hw0 hT hTr] at g2 g3
    have hwn : wfh (N + 1 + n) (mnaP P N n) V := by
      refine ⟨fun i j a hj => ?_, fun i hi => hw0.2 i (by omega)⟩
      unfold mnaP at hj
      split at hj
      · split at hj
        · cases hj; omega
        · cases hj
      · have := hw0.1 i j a hj
        omega
    obtain ⟨y1, y2⟩ := Y.pop.pop.grow (show N < N + 1 + n by omega) (fun i hi => by simp [mad, hi]) hwn g2 g3 g4
    have e0 : mad ad N q r0 N = q := by simp [mad]
    rw [e0] at y2
    rw [show (List.map (vl ad) st) = st.map (vl ad) from rfl, y2]
    exact kk p l e s m args below meth c D dA (mad ad N q r0) ad0 N0 A H1 locs ls B y1
