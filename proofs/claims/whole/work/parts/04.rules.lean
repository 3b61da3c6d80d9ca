theorem Dy.pop {M : MS} {D : va_G} {dA : Nat → ClassId} {ad ad0 : Nat → Nat} {N0 : Nat} {h : HP} {s : State} {A : Nat → Prop} {H : Heap} {locs : List Loc} {ls : Array Slot} {L : List (Option Value)} {a : Value} {st : List Value} (Y : Dy M D dA ad ad0 N0 h s A H locs ls L (a :: st)) : Dy M D dA ad ad0 N0 h s A H locs ls L st :=
  ⟨Y.1, Y.2.1, Y.2.2.1, Y.2.2.2.1, Y.2.2.2.2.1, Y.2.2.2.2.2.1, fun v hv => Y.2.2.2.2.2.2.1 v (List.mem_cons_of_mem _ hv), Y.2.2.2.2.2.2.2⟩
theorem Dy.push {M : MS} {D : va_G} {dA : Nat → ClassId} {ad ad0 : Nat → Nat} {N0 : Nat} {h : HP} {s : State} {A : Nat → Prop} {H : Heap} {locs : List Loc} {ls : Array Slot} {L : List (Option Value)} {a : Value} {st : List Value} (Y : Dy M D dA ad ad0 N0 h s A H locs ls L st) (ha : wfv h.1 a) : Dy M D dA ad ad0 N0 h s A H locs ls L (a :: st) :=
  ⟨Y.1, Y.2.1, Y.2.2.1, Y.2.2.2.1, Y.2.2.2.2.1, Y.2.2.2.2.2.1, fun v hv => by
    rcases List.mem_cons.mp hv with rfl | hv
    · exact ha
    · exact Y.2.2.2.2.2.2.1 v hv, Y.2.2.2.2.2.2.2⟩
theorem Dy.pushI {M : MS} {D : va_G} {dA : Nat → ClassId} {ad ad0 : Nat → Nat} {N0 : Nat} {h : HP} {s : State} {A : Nat → Prop} {H : Heap} {locs : List Loc} {ls : Array Slot} {L : List (Option Value)} (x : Int32) {st : List Value} (Y : Dy M D dA ad ad0 N0 h s A H locs ls L st) : Dy M D dA ad ad0 N0 h s A H locs ls L (.int x :: st) := Y.push trivial
theorem Dy.top {M : MS} {D : va_G} {dA : Nat → ClassId} {ad ad0 : Nat → Nat} {N0 : Nat} {h : HP} {s : State} {A : Nat → Prop} {H : Heap} {locs : List Loc} {ls : Array Slot} {L : List (Option Value)} {a : Value} {st : List Value} (Y : Dy M D dA ad ad0 N0 h s A H locs ls L (a :: st)) : wfv h.1 a := Y.2.2.2.2.2.2.1 a List.mem_cons_self
theorem Dy.loc {M : MS} {D : va_G} {dA : Nat → ClassId} {ad ad0 : Nat → Nat} {N0 : Nat} {h : HP} {s : State} {A : Nat → Prop} {H : Heap} {locs : List Loc} {ls ls' : Array Slot} {L L' : List (Option Value)} {st : List Value} (Y : Dy M D dA ad ad0 N0 h s A H locs ls L st) (hl : lv_has ls' M.2.2.1 (la ad 0 L')) (hw : ∀ (j : Nat) (w : Value), L'[j]? = some (some w) → wfv h.1 w) : Dy M D dA ad ad0 N0 h s A H locs ls' L' st :=
  ⟨Y.1, Y.2.1, Y.2.2.1, Y.2.2.2.1, hl, hw, Y.2.2.2.2.2.2⟩
theorem Dy.set {M : MS} {D : va_G} {dA : Nat → ClassId} {ad ad0 : Nat → Nat} {N0 : Nat} {h : HP} {s : State} {A : Nat → Prop} {H : Heap} {locs : List Loc} {ls ls' : Array Slot} {L : List (Option Value)} {i : Nat} {v : Value} {st : List Value} (Y : Dy M D dA ad ad0 N0 h s A H locs ls L st) (hv : wfv h.1 v)
    (hl : lv_has ls' M.2.2.1 ((i, vl ad v) :: (la ad 0 L).filter (fun q => !(q.1 == i) && !(q.1 + 1 == i && q.2.category == 2)))) : Dy M D dA ad ad0 N0 h s A H locs ls' (L.set i (some v)) st := by
  refine Y.loc (la_store Y.2.2.2.2.2.1 hl) (fun j w hj => ?_)
  by_cases e : i = j
  · subst e
    by_cases hl : i < L.length
    · rw [List.getElem?_set_self hl] at hj
      cases hj
      exact hv
    · rw [List.getElem?_eq_none (by rw [List.length_set]; omega)] at hj
      cases hj
  · rw [List.getElem?_set_ne e] at hj
    exact Y.2.2.2.2.2.1 j w hj
/-- other numbers in the cells -/
theorem Dy.mem {M : MS} {D : va_G} {dA : Nat → ClassId} {ad ad0 : Nat → Nat} {N0 : Nat} {h h' : HP} {s : State} {A : Nat → Prop} {H H1 : Heap} {locs locs1 : List Loc} {ls : Array Slot} {L : List (Option Value)} {st : List Value} (Y : Dy M D dA ad ad0 N0 h s A H locs ls L st) (hN : h'.1 = h.1) (hw : wfh h'.1 h'.2.2.1 h'.2.2.2)
    (hP : va_P D vwCl (wl dA ad h') H1) (hD : va_D A (wl dA ad h')) (hS : va_S A s.heap H1 locs1) : Dy M D dA ad ad0 N0 h' s A H1 locs1 ls L st := by
  refine ⟨hP, hD, hS, hw, Y.2.2.2.2.1, ?_, ?_, ?_, Y.2.2.2.2.2.2.2.2⟩
  · rw [hN]; exact Y.2.2.2.2.2.1
  · rw [hN]; exact Y.2.2.2.2.2.2.1
  · rw [hN]; exact Y.2.2.2.2.2.2.2.1
theorem wfh_wr {N : Nat} {P : Nat → Nat → Option Nat} {V : Nat → Nat → Int32} {c k : Nat} {x : Int32} (h : wfh N P V) (hc : c < N) : wfh N P (wr V c k x) := by
  refine ⟨h.1, fun i hi => ?_⟩
  have e : i ≠ c := by omega
  funext q
  simp [wr, e, h.2 i hi]
theorem wfh_wp {N : Nat} {P : Nat → Nat → Option Nat} {V : Nat → Nat → Int32} {c k : Nat} {x : Option Nat} (h : wfh N P V) (hc : c < N) (hx : ∀ a, x = some a → a < N) : wfh N (wp P c k x) V := by
  refine ⟨fun i j a hi => ?_, h.2⟩
  simp only [wp] at hi
  split at hi
  · split at hi
    · exact ⟨hx a hi, by omega⟩
    · exact h.1 i j a hi
  · exact h.1 i j a hi

theorem go_iconst {M : MS} {pc cells slots : Nat} {L : List (Option Value)} {st : List Value} {h : HP} {r : Option Value} {h' : HP} {n : Int} {v : Int32} (hd : decode M.2.1 pc = .ok (.iconst n, 1)) (hv : Int32.ofInt n = v) (k : Go M (pc + 1) L (.int v :: st) h cells slots r h') : Go M pc L st h cells slots r h' := by
  intro p l e s m args below meth c D dA ad ad0 N0 A H locs ls B Y
  exact lv_iconst B.1 B.2.1 hd hv (k p l e s m args below meth c D dA ad ad0 N0 A H locs ls B (Y.pushI v))

theorem go_bipush {M : MS} {pc cells slots : Nat} {L : List (Option Value)} {st : List Value} {h : HP} {r : Option Value} {h' : HP} {n : Int} {v : Int32} (hd : decode M.2.1 pc = .ok (.bipush n, 2)) (hv : (Int8.ofInt n).toInt32 = v) (k : Go M (pc + 2) L (.int v :: st) h cells slots r h') : Go M pc L st h cells slots r h' := by
  intro p l e s m args below meth c D dA ad ad0 N0 A H locs ls B Y
  exact lv_bipush B.1 B.2.1 hd hv (k p l e s m args below meth c D dA ad ad0 N0 A H locs ls B (Y.pushI v))

theorem go_sipush {M : MS} {pc cells slots : Nat} {L : List (Option Value)} {st : List Value} {h : HP} {r : Option Value} {h' : HP} {n : Int} {v : Int32} (hd : decode M.2.1 pc = .ok (.sipush n, 3)) (hv : (Int16.ofInt n).toInt32 = v) (k : Go M (pc + 3) L (.int v :: st) h cells slots r h') : Go M pc L st h cells slots r h' := by
  intro p l e s m args below meth c D dA ad ad0 N0 A H locs ls B Y
  exact lv_sipush B.1 B.2.1 hd hv (k p l e s m args below meth c D dA ad ad0 N0 A H locs ls B (Y.pushI v))

theorem go_ldcw {M : MS} {pc cells slots : Nat} {L : List (Option Value)} {st : List Value} {h : HP} {r : Option Value} {h' : HP} {own : String} {i : Nat} {v : Int32} (ho : M.1.cls = own) (hw : Cond.constant own i v ∈ gw) (hd : decode M.2.1 pc = .ok (.ldc_w i, 3)) (k : Go M (pc + 3) L (.int v :: st) h cells slots r h') : Go M pc L st h cells slots r h' := by
  intro p l e s m args below meth c D dA ad ad0 N0 A H locs ls B Y
  exact lv_ldcw B.1 B.2.1 (own := own) (by rw [← ho]; exact B.2.2.2.2.1) (B.2.2.2.2.2.1 _ hw) hd (k p l e s m args below meth c D dA ad ad0 N0 A H locs ls B (Y.pushI v))

theorem go_iload_n {M : MS} {pc cells slots : Nat} {L : List (Option Value)} {st : List Value} {h : HP} {r : Option Value} {h' : HP} {q : Fin 4} {i : Nat} {x : Int32} (hd : decode M.2.1 pc = .ok (.iload_n q, 1)) (hq : (q : Nat) = i) (hl : L[i]? = some (some (.int x))) (k : Go M (pc + 1) L (.int x :: st) h cells slots r h') : Go M pc L st h cells slots r h' := by
  intro p l e s m args below meth c D dA ad ad0 N0 A H locs ls B Y
  exact lv_iload_n B.1 B.2.1 hd hq (la_at Y.2.2.2.2.1 hl) (k p l e s m args below meth c D dA ad ad0 N0 A H locs ls B (Y.pushI x))

theorem go_iload {M : MS} {pc cells slots : Nat} {L : List (Option Value)} {st : List Value} {h : HP} {r : Option Value} {h' : HP} {i : Nat} {x : Int32} (hd : decode M.2.1 pc = .ok (.iload i, 2)) (hl : L[i]? = some (some (.int x))) (k : Go M (pc + 2) L (.int x :: st) h cells slots r h') : Go M pc L st h cells slots r h' := by
  intro p l e s m args below meth c D dA ad ad0 N0 A H locs ls B Y
  exact lv_iload B.1 B.2.1 hd (la_at Y.2.2.2.2.1 hl) (k p l e s m args below meth c D dA ad ad0 N0 A H locs ls B (Y.pushI x))

theorem go_aload_n {M : MS} {pc cells slots : Nat} {L : List (Option Value)} {st : List Value} {h : HP} {r : Option Value} {h' : HP} {q : Fin 4} {i x : Nat} (hd : decode M.2.1 pc = .ok (.aload_n q, 1)) (hq : (q : Nat) = i) (hl : L[i]? = some (some (.ref x))) (k : Go M (pc + 1) L (.ref x :: st) h cells slots r h') : Go M pc L st h cells slots r h' := by
  intro p l e s m args below meth c D dA ad ad0 N0 A H locs ls B Y
  exact lv_aload_n B.1 B.2.1 hd hq (la_at Y.2.2.2.2.1 hl) (k p l e s m args below meth c D dA ad ad0 N0 A H locs ls B (Y.push (Y.2.2.2.2.2.1 _ _ hl)))

theorem go_aload {M : MS} {pc cells slots : Nat} {L : List (Option Value)} {st : List Value} {h : HP} {r : Option Value} {h' : HP} {i x : Nat} (hd : decode M.2.1 pc = .ok (.aload i, 2)) (hl : L[i]? = some (some (.ref x))) (k : Go M (pc + 2) L (.ref x :: st) h cells slots r h') : Go M pc L st h cells slots r h' := by
  intro p l e s m args below meth c D dA ad ad0 N0 A H locs ls B Y
  exact lv_aload B.1 B.2.1 hd (la_at Y.2.2.2.2.1 hl) (k p l e s m args below meth c D dA ad ad0 N0 A H locs ls B (Y.push (Y.2.2.2.2.2.1 _ _ hl)))

theorem go_istore_n {M : MS} {pc cells slots : Nat} {L : List (Option Value)} {st : List Value} {h : HP} {r : Option Value} {h' : HP} {q : Fin 4} {i : Nat} {x : Int32} (hd : decode M.2.1 pc = .ok (.istore_n q, 1)) (hq : (q : Nat) = i) (hi : i < M.2.2.1) {L2 : List (Option Value)} (hL : L.set i (some (.int x)) = L2) (k : Go M (pc + 1) L2 st h cells slots r h') : Go M pc L (.int x :: st) h cells slots r h' := by
  intro p l e s m args below meth c D dA ad ad0 N0 A H locs ls B Y
  subst hL
  exact lv_istore_n B.1 B.2.1 hd hq Y.2.2.2.2.1 hi rfl (fun ls' hl => k p l e s m args below meth c D dA ad ad0 N0 A H locs ls' B (Y.pop.set Y.top hl))

theorem go_istore {M : MS} {pc cells slots : Nat} {L : List (Option Value)} {st : List Value} {h : HP} {r : Option Value} {h' : HP} {i : Nat} {x : Int32} (hd : decode M.2.1 pc = .ok (.istore i, 2)) (hi : i < M.2.2.1) {L2 : List (Option Value)} (hL : L.set i (some (.int x)) = L2) (k : Go M (pc + 2) L2 st h cells slots r h') : Go M pc L (.int x :: st) h cells slots r h' := by
  intro p l e s m args below meth c D dA ad ad0 N0 A H locs ls B Y
  subst hL
  exact lv_istore B.1 B.2.1 hd Y.2.2.2.2.1 hi rfl (fun ls' hl => k p l e s m args below meth c D dA ad ad0 N0 A H locs ls' B (Y.pop.set Y.top hl))

theorem go_astore_n {M : MS} {pc cells slots : Nat} {L : List (Option Value)} {st : List Value} {h : HP} {r : Option Value} {h' : HP} {q : Fin 4} {i : Nat} {x : Nat} (hd : decode M.2.1 pc = .ok (.astore_n q, 1)) (hq : (q : Nat) = i) (hi : i < M.2.2.1) {L2 : List (Option Value)} (hL : L.set i (some (.ref x)) = L2) (k : Go M (pc + 1) L2 st h cells slots r h') : Go M pc L (.ref x :: st) h cells slots r h' := by
  intro p l e s m args below meth c D dA ad ad0 N0 A H locs ls B Y
  subst hL
  exact lv_astore_n B.1 B.2.1 hd hq Y.2.2.2.2.1 hi rfl (fun ls' hl => k p l e s m args below meth c D dA ad ad0 N0 A H locs ls' B (Y.pop.set Y.top hl))

theorem go_astore {M : MS} {pc cells slots : Nat} {L : List (Option Value)} {st : List Value} {h : HP} {r : Option Value} {h' : HP} {i : Nat} {x : Nat} (hd : decode M.2.1 pc = .ok (.astore i, 2)) (hi : i < M.2.2.1) {L2 : List (Option Value)} (hL : L.set i (some (.ref x)) = L2) (k : Go M (pc + 2) L2 st h cells slots r h') : Go M pc L (.ref x :: st) h cells slots r h' := by
  intro p l e s m args below meth c D dA ad ad0 N0 A H locs ls B Y
  subst hL
  exact lv_astore B.1 B.2.1 hd Y.2.2.2.2.1 hi rfl (fun ls' hl => k p l e s m args below meth c D dA ad ad0 N0 A H locs ls' B (Y.pop.set Y.top hl))

theorem go_iinc {M : MS} {pc cells slots : Nat} {L : List (Option Value)} {st : List Value} {h : HP} {r : Option Value} {h' : HP} {i : Nat} {n : Int} {x v : Int32} (hd : decode M.2.1 pc = .ok (.iinc i n, 3)) (hl : L[i]? = some (some (.int x))) (hv : x + Int32.ofInt n = v) (hi : i < M.2.2.1) {L2 : List (Option Value)} (hL : L.set i (some (.int v)) = L2) (k : Go M (pc + 3) L2 st h cells slots r h') : Go M pc L st h cells slots r h' := by
  intro p l e s m args below meth c D dA ad ad0 N0 A H locs ls B Y
  subst hL
  obtain ⟨k0, hk0⟩ := List.getElem?_of_mem ((la_mem (ad := ad) L 0).mpr ⟨i, .int x, hl, rfl⟩)
  rw [Nat.zero_add] at hk0
  exact lv_iinc B.1 B.2.1 hd Y.2.2.2.2.1 hk0 hv hi rfl (fun ls' hl => k p l e s m args below meth c D dA ad ad0 N0 A H locs ls' B (Y.set (v := .int v) trivial hl))

theorem go_iadd {M : MS} {pc cells slots : Nat} {L : List (Option Value)} {st : List Value} {h : HP} {r : Option Value} {h' : HP} {x y : Int32} (hd : decode M.2.1 pc = .ok (.iadd, 1)) (k : Go M (pc + 1) L (.int (x + y) :: st) h cells slots r h') : Go M pc L (.int y :: .int x :: st) h cells slots r h' := by
  intro p l e s m args below meth c D dA ad ad0 N0 A H locs ls B Y
  exact lv_iadd B.1 B.2.1 hd (k p l e s m args below meth c D dA ad ad0 N0 A H locs ls B (Y.pop.pop.pushI _))

theorem go_isub {M : MS} {pc cells slots : Nat} {L : List (Option Value)} {st : List Value} {h : HP} {r : Option Value} {h' : HP} {x y : Int32} (hd : decode M.2.1 pc = .ok (.isub, 1)) (k : Go M (pc + 1) L (.int (x - y) :: st) h cells slots r h') : Go M pc L (.int y :: .int x :: st) h cells slots r h' := by
  intro p l e s m args below meth c D dA ad ad0 N0 A H locs ls B Y
  exact lv_isub B.1 B.2.1 hd (k p l e s m args below meth c D dA ad ad0 N0 A H locs ls B (Y.pop.pop.pushI _))

theorem go_imul {M : MS} {pc cells slots : Nat} {L : List (Option Value)} {st : List Value} {h : HP} {r : Option Value} {h' : HP} {x y : Int32} (hd : decode M.2.1 pc = .ok (.imul, 1)) (k : Go M (pc + 1) L (.int (x * y) :: st) h cells slots r h') : Go M pc L (.int y :: .int x :: st) h cells slots r h' := by
  intro p l e s m args below meth c D dA ad ad0 N0 A H locs ls B Y
  exact lv_imul B.1 B.2.1 hd (k p l e s m args below meth c D dA ad ad0 N0 A H locs ls B (Y.pop.pop.pushI _))

theorem go_iand {M : MS} {pc cells slots : Nat} {L : List (Option Value)} {st : List Value} {h : HP} {r : Option Value} {h' : HP} {x y : Int32} (hd : decode M.2.1 pc = .ok (.iand, 1)) (k : Go M (pc + 1) L (.int (x &&& y) :: st) h cells slots r h') : Go M pc L (.int y :: .int x :: st) h cells slots r h' := by
  intro p l e s m args below meth c D dA ad ad0 N0 A H locs ls B Y
  exact lv_iand B.1 B.2.1 hd (k p l e s m args below meth c D dA ad ad0 N0 A H locs ls B (Y.pop.pop.pushI _))

theorem go_ior {M : MS} {pc cells slots : Nat} {L : List (Option Value)} {st : List Value} {h : HP} {r : Option Value} {h' : HP} {x y : Int32} (hd : decode M.2.1 pc = .ok (.ior, 1)) (k : Go M (pc + 1) L (.int (x ||| y) :: st) h cells slots r h') : Go M pc L (.int y :: .int x :: st) h cells slots r h' := by
  intro p l e s m args below meth c D dA ad ad0 N0 A H locs ls B Y
  exact lv_ior B.1 B.2.1 hd (k p l e s m args below meth c D dA ad ad0 N0 A H locs ls B (Y.pop.pop.pushI _))

theorem go_ixor {M : MS} {pc cells slots : Nat} {L : List (Option Value)} {st : List Value} {h : HP} {r : Option Value} {h' : HP} {x y : Int32} (hd : decode M.2.1 pc = .ok (.ixor, 1)) (k : Go M (pc + 1) L (.int (x ^^^ y) :: st) h cells slots r h') : Go M pc L (.int y :: .int x :: st) h cells slots r h' := by
  intro p l e s m args below meth c D dA ad ad0 N0 A H locs ls B Y
  exact lv_ixor B.1 B.2.1 hd (k p l e s m args below meth c D dA ad ad0 N0 A H locs ls B (Y.pop.pop.pushI _))

theorem go_ishl {M : MS} {pc cells slots : Nat} {L : List (Option Value)} {st : List Value} {h : HP} {r : Option Value} {h' : HP} {x y : Int32} (hd : decode M.2.1 pc = .ok (.ishl, 1)) (k : Go M (pc + 1) L (.int (x <<< (y &&& 31)) :: st) h cells slots r h') : Go M pc L (.int y :: .int x :: st) h cells slots r h' := by
  intro p l e s m args below meth c D dA ad ad0 N0 A H locs ls B Y
  exact lv_ishl B.1 B.2.1 hd (k p l e s m args below meth c D dA ad ad0 N0 A H locs ls B (Y.pop.pop.pushI _))

theorem go_ishr {M : MS} {pc cells slots : Nat} {L : List (Option Value)} {st : List Value} {h : HP} {r : Option Value} {h' : HP} {x y : Int32} (hd : decode M.2.1 pc = .ok (.ishr, 1)) (k : Go M (pc + 1) L (.int (x >>> (y &&& 31)) :: st) h cells slots r h') : Go M pc L (.int y :: .int x :: st) h cells slots r h' := by
  intro p l e s m args below meth c D dA ad ad0 N0 A H locs ls B Y
  exact lv_ishr B.1 B.2.1 hd (k p l e s m args below meth c D dA ad ad0 N0 A H locs ls B (Y.pop.pop.pushI _))

theorem go_iushr {M : MS} {pc cells slots : Nat} {L : List (Option Value)} {st : List Value} {h : HP} {r : Option Value} {h' : HP} {x y : Int32} (hd : decode M.2.1 pc = .ok (.iushr, 1)) (k : Go M (pc + 1) L (.int (x.toUInt32 >>> (y.toUInt32 &&& Int32.toUInt32 31)).toInt32 :: st) h cells slots r h') : Go M pc L (.int y :: .int x :: st) h cells slots r h' := by
  intro p l e s m args below meth c D dA ad ad0 N0 A H locs ls B Y
  exact lv_iushr B.1 B.2.1 hd rfl (k p l e s m args below meth c D dA ad ad0 N0 A H locs ls B (Y.pop.pop.pushI _))

theorem go_irem {M : MS} {pc cells slots : Nat} {L : List (Option Value)} {st : List Value} {h : HP} {r : Option Value} {h' : HP} {x y : Int32} (hd : decode M.2.1 pc = .ok (.irem, 1)) (hy : ¬ y = 0) (k : Go M (pc + 1) L (.int (x - x / y * y) :: st) h cells slots r h') : Go M pc L (.int y :: .int x :: st) h cells slots r h' := by
  intro p l e s m args below meth c D dA ad ad0 N0 A H locs ls B Y
  exact lv_irem B.1 B.2.1 hd hy (k p l e s m args below meth c D dA ad ad0 N0 A H locs ls B (Y.pop.pop.pushI _))

theorem go_ineg {M : MS} {pc cells slots : Nat} {L : List (Option Value)} {st : List Value} {h : HP} {r : Option Value} {h' : HP} {x : Int32} (hd : decode M.2.1 pc = .ok (.ineg, 1)) (k : Go M (pc + 1) L (.int (-x) :: st) h cells slots r h') : Go M pc L (.int x :: st) h cells slots r h' := by
  intro p l e s m args below meth c D dA ad ad0 N0 A H locs ls B Y
  exact lv_ineg B.1 B.2.1 hd (k p l e s m args below meth c D dA ad ad0 N0 A H locs ls B (Y.pop.pushI _))

theorem go_dup {M : MS} {pc cells slots : Nat} {L : List (Option Value)} {st : List Value} {h : HP} {r : Option Value} {h' : HP} {a : Value} (hd : decode M.2.1 pc = .ok (.dup, 1)) (k : Go M (pc + 1) L (a :: a :: st) h cells slots r h') : Go M pc L (a :: st) h cells slots r h' := by
  intro p l e s m args below meth c D dA ad ad0 N0 A H locs ls B Y
  exact lv_dup B.1 B.2.1 hd (vl_cat Y.top) (k p l e s m args below meth c D dA ad ad0 N0 A H locs ls B (Y.push Y.top))

theorem go_dup_x1 {M : MS} {pc cells slots : Nat} {L : List (Option Value)} {st : List Value} {h : HP} {r : Option Value} {h' : HP} {a b : Value} (hd : decode M.2.1 pc = .ok (.dup_x1, 1)) (k : Go M (pc + 1) L (a :: b :: a :: st) h cells slots r h') : Go M pc L (a :: b :: st) h cells slots r h' := by
  intro p l e s m args below meth c D dA ad ad0 N0 A H locs ls B Y
  exact lv_dup_x1 B.1 B.2.1 hd (vl_cat Y.top) (vl_cat Y.pop.top) (k p l e s m args below meth c D dA ad ad0 N0 A H locs ls B (((Y.pop.pop.push Y.top).push Y.pop.top).push Y.top))

theorem go_dup2 {M : MS} {pc cells slots : Nat} {L : List (Option Value)} {st : List Value} {h : HP} {r : Option Value} {h' : HP} {a b : Value} (hd : decode M.2.1 pc = .ok (.dup2, 1)) (k : Go M (pc + 1) L (a :: b :: a :: b :: st) h cells slots r h') : Go M pc L (a :: b :: st) h cells slots r h' := by
  intro p l e s m args below meth c D dA ad ad0 N0 A H locs ls B Y
  exact lv_dup2_11 B.1 B.2.1 hd (vl_cat Y.top) (vl_cat Y.pop.top) (k p l e s m args below meth c D dA ad ad0 N0 A H locs ls B ((Y.push Y.pop.top).push Y.top))

theorem go_pop {M : MS} {pc cells slots : Nat} {L : List (Option Value)} {st : List Value} {h : HP} {r : Option Value} {h' : HP} {a : Value} (hd : decode M.2.1 pc = .ok (.pop, 1)) (k : Go M (pc + 1) L st h cells slots r h') : Go M pc L (a :: st) h cells slots r h' := by
  intro p l e s m args below meth c D dA ad ad0 N0 A H locs ls B Y
  exact lv_pop B.1 B.2.1 hd (vl_cat Y.top) (k p l e s m args below meth c D dA ad ad0 N0 A H locs ls B Y.pop)

theorem go_if_eq {M : MS} {pc cells slots : Nat} {L : List (Option Value)} {st : List Value} {h : HP} {r : Option Value} {h' : HP} {x : Int32} {off : Int} {tgt : Nat} (hd : decode M.2.1 pc = .ok (.ifCond .eq off, 3)) (ht : (pc : Int) + off = (tgt : Int)) (k : x = 0 → Go M tgt L st h cells slots r h') (k2 : ¬ (x = 0) → Go M (pc + 3) L st h cells slots r h') : Go M pc L (.int x :: st) h cells slots r h' := by
  intro p l e s m args below meth c D dA ad ad0 N0 A H locs ls B Y
  exact lv_if_eq B.1 B.2.1 hd ht (fun q => k q p l e s m args below meth c D dA ad ad0 N0 A H locs ls B Y.pop) (fun q => k2 q p l e s m args below meth c D dA ad ad0 N0 A H locs ls B Y.pop)

theorem go_icmp_eq {M : MS} {pc cells slots : Nat} {L : List (Option Value)} {st : List Value} {h : HP} {r : Option Value} {h' : HP} {x y : Int32} {off : Int} {tgt : Nat} (hd : decode M.2.1 pc = .ok (.if_icmp .eq off, 3)) (ht : (pc : Int) + off = (tgt : Int)) (k : x = y → Go M tgt L st h cells slots r h') (k2 : ¬ (x = y) → Go M (pc + 3) L st h cells slots r h') : Go M pc L (.int y :: .int x :: st) h cells slots r h' := by
  intro p l e s m args below meth c D dA ad ad0 N0 A H locs ls B Y
  exact lv_icmp_eq B.1 B.2.1 hd ht (fun q => k q p l e s m args below meth c D dA ad ad0 N0 A H locs ls B Y.pop.pop) (fun q => k2 q p l e s m args below meth c D dA ad ad0 N0 A H locs ls B Y.pop.pop)

theorem go_if_ne {M : MS} {pc cells slots : Nat} {L : List (Option Value)} {st : List Value} {h : HP} {r : Option Value} {h' : HP} {x : Int32} {off : Int} {tgt : Nat} (hd : decode M.2.1 pc = .ok (.ifCond .ne off, 3)) (ht : (pc : Int) + off = (tgt : Int)) (k : ¬ x = 0 → Go M tgt L st h cells slots r h') (k2 : x = 0 → Go M (pc + 3) L st h cells slots r h') : Go M pc L (.int x :: st) h cells slots r h' := by
  intro p l e s m args below meth c D dA ad ad0 N0 A H locs ls B Y
  exact lv_if_ne B.1 B.2.1 hd ht (fun q => k q p l e s m args below meth c D dA ad ad0 N0 A H locs ls B Y.pop) (fun q => k2 q p l e s m args below meth c D dA ad ad0 N0 A H locs ls B Y.pop)

theorem go_icmp_ne {M : MS} {pc cells slots : Nat} {L : List (Option Value)} {st : List Value} {h : HP} {r : Option Value} {h' : HP} {x y : Int32} {off : Int} {tgt : Nat} (hd : decode M.2.1 pc = .ok (.if_icmp .ne off, 3)) (ht : (pc : Int) + off = (tgt : Int)) (k : ¬ x = y → Go M tgt L st h cells slots r h') (k2 : x = y → Go M (pc + 3) L st h cells slots r h') : Go M pc L (.int y :: .int x :: st) h cells slots r h' := by
  intro p l e s m args below meth c D dA ad ad0 N0 A H locs ls B Y
  exact lv_icmp_ne B.1 B.2.1 hd ht (fun q => k q p l e s m args below meth c D dA ad ad0 N0 A H locs ls B Y.pop.pop) (fun q => k2 q p l e s m args below meth c D dA ad ad0 N0 A H locs ls B Y.pop.pop)

theorem go_if_lt {M : MS} {pc cells slots : Nat} {L : List (Option Value)} {st : List Value} {h : HP} {r : Option Value} {h' : HP} {x : Int32} {off : Int} {tgt : Nat} (hd : decode M.2.1 pc = .ok (.ifCond .lt off, 3)) (ht : (pc : Int) + off = (tgt : Int)) (k : x < 0 → Go M tgt L st h cells slots r h') (k2 : ¬ (x < 0) → Go M (pc + 3) L st h cells slots r h') : Go M pc L (.int x :: st) h cells slots r h' := by
  intro p l e s m args below meth c D dA ad ad0 N0 A H locs ls B Y
  exact lv_if_lt B.1 B.2.1 hd ht (fun q => k q p l e s m args below meth c D dA ad ad0 N0 A H locs ls B Y.pop) (fun q => k2 q p l e s m args below meth c D dA ad ad0 N0 A H locs ls B Y.pop)

theorem go_icmp_lt {M : MS} {pc cells slots : Nat} {L : List (Option Value)} {st : List Value} {h : HP} {r : Option Value} {h' : HP} {x y : Int32} {off : Int} {tgt : Nat} (hd : decode M.2.1 pc = .ok (.if_icmp .lt off, 3)) (ht : (pc : Int) + off = (tgt : Int)) (k : x < y → Go M tgt L st h cells slots r h') (k2 : ¬ (x < y) → Go M (pc + 3) L st h cells slots r h') : Go M pc L (.int y :: .int x :: st) h cells slots r h' := by
  intro p l e s m args below meth c D dA ad ad0 N0 A H locs ls B Y
  exact lv_icmp_lt B.1 B.2.1 hd ht (fun q => k q p l e s m args below meth c D dA ad ad0 N0 A H locs ls B Y.pop.pop) (fun q => k2 q p l e s m args below meth c D dA ad ad0 N0 A H locs ls B Y.pop.pop)

theorem go_if_ge {M : MS} {pc cells slots : Nat} {L : List (Option Value)} {st : List Value} {h : HP} {r : Option Value} {h' : HP} {x : Int32} {off : Int} {tgt : Nat} (hd : decode M.2.1 pc = .ok (.ifCond .ge off, 3)) (ht : (pc : Int) + off = (tgt : Int)) (k : 0 ≤ x → Go M tgt L st h cells slots r h') (k2 : ¬ (0 ≤ x) → Go M (pc + 3) L st h cells slots r h') : Go M pc L (.int x :: st) h cells slots r h' := by
  intro p l e s m args below meth c D dA ad ad0 N0 A H locs ls B Y
  exact lv_if_ge B.1 B.2.1 hd ht (fun q => k q p l e s m args below meth c D dA ad ad0 N0 A H locs ls B Y.pop) (fun q => k2 q p l e s m args below meth c D dA ad ad0 N0 A H locs ls B Y.pop)

theorem go_icmp_ge {M : MS} {pc cells slots : Nat} {L : List (Option Value)} {st : List Value} {h : HP} {r : Option Value} {h' : HP} {x y : Int32} {off : Int} {tgt : Nat} (hd : decode M.2.1 pc = .ok (.if_icmp .ge off, 3)) (ht : (pc : Int) + off = (tgt : Int)) (k : y ≤ x → Go M tgt L st h cells slots r h') (k2 : ¬ (y ≤ x) → Go M (pc + 3) L st h cells slots r h') : Go M pc L (.int y :: .int x :: st) h cells slots r h' := by
  intro p l e s m args below meth c D dA ad ad0 N0 A H locs ls B Y
  exact lv_icmp_ge B.1 B.2.1 hd ht (fun q => k q p l e s m args below meth c D dA ad ad0 N0 A H locs ls B Y.pop.pop) (fun q => k2 q p l e s m args below meth c D dA ad ad0 N0 A H locs ls B Y.pop.pop)

theorem go_if_gt {M : MS} {pc cells slots : Nat} {L : List (Option Value)} {st : List Value} {h : HP} {r : Option Value} {h' : HP} {x : Int32} {off : Int} {tgt : Nat} (hd : decode M.2.1 pc = .ok (.ifCond .gt off, 3)) (ht : (pc : Int) + off = (tgt : Int)) (k : 0 < x → Go M tgt L st h cells slots r h') (k2 : ¬ (0 < x) → Go M (pc + 3) L st h cells slots r h') : Go M pc L (.int x :: st) h cells slots r h' := by
  intro p l e s m args below meth c D dA ad ad0 N0 A H locs ls B Y
  exact lv_if_gt B.1 B.2.1 hd ht (fun q => k q p l e s m args below meth c D dA ad ad0 N0 A H locs ls B Y.pop) (fun q => k2 q p l e s m args below meth c D dA ad ad0 N0 A H locs ls B Y.pop)

theorem go_icmp_gt {M : MS} {pc cells slots : Nat} {L : List (Option Value)} {st : List Value} {h : HP} {r : Option Value} {h' : HP} {x y : Int32} {off : Int} {tgt : Nat} (hd : decode M.2.1 pc = .ok (.if_icmp .gt off, 3)) (ht : (pc : Int) + off = (tgt : Int)) (k : y < x → Go M tgt L st h cells slots r h') (k2 : ¬ (y < x) → Go M (pc + 3) L st h cells slots r h') : Go M pc L (.int y :: .int x :: st) h cells slots r h' := by
  intro p l e s m args below meth c D dA ad ad0 N0 A H locs ls B Y
  exact lv_icmp_gt B.1 B.2.1 hd ht (fun q => k q p l e s m args below meth c D dA ad ad0 N0 A H locs ls B Y.pop.pop) (fun q => k2 q p l e s m args below meth c D dA ad ad0 N0 A H locs ls B Y.pop.pop)

theorem go_if_le {M : MS} {pc cells slots : Nat} {L : List (Option Value)} {st : List Value} {h : HP} {r : Option Value} {h' : HP} {x : Int32} {off : Int} {tgt : Nat} (hd : decode M.2.1 pc = .ok (.ifCond .le off, 3)) (ht : (pc : Int) + off = (tgt : Int)) (k : x ≤ 0 → Go M tgt L st h cells slots r h') (k2 : ¬ (x ≤ 0) → Go M (pc + 3) L st h cells slots r h') : Go M pc L (.int x :: st) h cells slots r h' := by
  intro p l e s m args below meth c D dA ad ad0 N0 A H locs ls B Y
  exact lv_if_le B.1 B.2.1 hd ht (fun q => k q p l e s m args below meth c D dA ad ad0 N0 A H locs ls B Y.pop) (fun q => k2 q p l e s m args below meth c D dA ad ad0 N0 A H locs ls B Y.pop)

theorem go_icmp_le {M : MS} {pc cells slots : Nat} {L : List (Option Value)} {st : List Value} {h : HP} {r : Option Value} {h' : HP} {x y : Int32} {off : Int} {tgt : Nat} (hd : decode M.2.1 pc = .ok (.if_icmp .le off, 3)) (ht : (pc : Int) + off = (tgt : Int)) (k : x ≤ y → Go M tgt L st h cells slots r h') (k2 : ¬ (x ≤ y) → Go M (pc + 3) L st h cells slots r h') : Go M pc L (.int y :: .int x :: st) h cells slots r h' := by
  intro p l e s m args below meth c D dA ad ad0 N0 A H locs ls B Y
  exact lv_icmp_le B.1 B.2.1 hd ht (fun q => k q p l e s m args below meth c D dA ad ad0 N0 A H locs ls B Y.pop.pop) (fun q => k2 q p l e s m args below meth c D dA ad ad0 N0 A H locs ls B Y.pop.pop)

theorem go_goto {M : MS} {pc cells slots : Nat} {L : List (Option Value)} {st : List Value} {h : HP} {r : Option Value} {h' : HP} {off : Int} {tgt : Nat} (hd : decode M.2.1 pc = .ok (.goto off, 3)) (ht : (pc : Int) + off = (tgt : Int)) (k : Go M tgt L st h cells slots r h') : Go M pc L st h cells slots r h' := by
  intro p l e s m args below meth c D dA ad ad0 N0 A H locs ls B Y
  exact lv_goto B.1 B.2.1 hd ht (k p l e s m args below meth c D dA ad ad0 N0 A H locs ls B Y)

theorem go_tabOut {M : MS} {pc cells slots : Nat} {L : List (Option Value)} {st : List Value} {h : HP} {r : Option Value} {h' : HP} {dflt lo hi : Int} {offs : Array Int} {len tgt : Nat} {x : Int32} (hd : decode M.2.1 pc = .ok (.tableswitch dflt lo hi offs, len)) (hx : x.toInt < lo ∨ hi < x.toInt) (ht : (pc : Int) + dflt = (tgt : Int)) (k : Go M tgt L st h cells slots r h') : Go M pc L (.int x :: st) h cells slots r h' := by
  intro p l e s m args below meth c D dA ad ad0 N0 A H locs ls B Y
  exact lv_tableOut B.1 B.2.1 hd hx ht (k p l e s m args below meth c D dA ad ad0 N0 A H locs ls B Y.pop)

theorem go_tabIn {M : MS} {pc cells slots : Nat} {L : List (Option Value)} {st : List Value} {h : HP} {r : Option Value} {h' : HP} {dflt lo hi : Int} {offs : Array Int} {len tgt : Nat} {off : Int} {x : Int32} (hd : decode M.2.1 pc = .ok (.tableswitch dflt lo hi offs, len)) (h1 : ¬ x.toInt < lo) (h2 : ¬ hi < x.toInt) (ho : offs[(x.toInt - lo).toNat]? = some off) (ht : (pc : Int) + off = (tgt : Int)) (k : Go M tgt L st h cells slots r h') : Go M pc L (.int x :: st) h cells slots r h' := by
  intro p l e s m args below meth c D dA ad ad0 N0 A H locs ls B Y
  exact lv_tableIn B.1 B.2.1 hd h1 h2 ho ht (k p l e s m args below meth c D dA ad ad0 N0 A H locs ls B Y.pop)

theorem go_le {M : MS} {pc cells slots : Nat} {L : List (Option Value)} {st : List Value} {h : HP} {r : Option Value} {h' : HP} {L' : List (Option Value)} (hl : lle L' L) (k : Go M pc L' st h cells slots r h') : Go M pc L st h cells slots r h' := by
  intro p l e s m args below meth c D dA ad ad0 N0 A H locs ls B Y
  exact k p l e s m args below meth c D dA ad ad0 N0 A H locs ls B (Y.loc (la_le Y.2.2.2.2.1 hl) (fun j w hj => Y.2.2.2.2.2.1 j w (hl j w hj)))
/-! the rules of the heap -/
def FL (own : String) (idx ci k : Nat) : Prop := ∃ (C : String) (TT : u_T) (ty : Nat → FieldType) (NN : Nat), vwCl[ci]? = some (C, TT, NN) ∧ fN ci = NN ∧ k < NN ∧ (∀ w ∈ u_ws C TT NN, w ∈ gw) ∧ (∀ k, k < NN → parseFieldDescriptor (TT k).2.2.1 = some (ty k)) ∧ (∀ a, a < NN → ∀ b, b < NN → a ≠ b → (TT a).2.1 ≠ (TT b).2.1) ∧ (TT k).2.2.2 = fF ci k ∧ (TT k).1 = C ∧ (fK ci k = 0 → ty k = .int) ∧ (fK ci k = 1 → ty k = .boolean) ∧ (fK ci k = 2 → ∀ a, narrow (ty k) (.ref a) = .ref a ∧ fits (ty k) (.ref a) = true) ∧
  (Cond.fieldLink own idx (TT k).1 (TT k).2.1 (TT k).2.2.1 ∈ gw ∨ ∃ host, Cond.fieldLinkNest own idx (TT k).1 (TT k).2.1 (TT k).2.2.1 host ∈ nw)
theorem wl_putI {dA : Nat → ClassId} {ad : Nat → Nat} {N : Nat} {T : Nat → Nat × Nat} {P : Nat → Nat → Option Nat} {V : Nat → Nat → Int32} {o ci k n : Nat} {x : Int32} (hT : T o = (ci + 5, n)) (hk : fK ci k ≠ 2) :
    (wl dA ad (N, T, P, V)).set o (ad o, .inr (ci, (flds ad ci (P o) (V o)).set k (.int x))) = wl dA ad (N, T, P, wr V o k x) := by
  rw [← wl_set (h := (N, T, P, V)) (h' := (N, T, P, wr V o k x)) (i := o) rfl (fun j hj => toE_wr hj), toE_o (h := (N, T, P, wr V o k x)) hT, flds_setV hk, ← wr_self]
theorem wl_putP {dA : Nat → ClassId} {ad : Nat → Nat} {N : Nat} {T : Nat → Nat × Nat} {P : Nat → Nat → Option Nat} {V : Nat → Nat → Int32} {o ci k n : Nat} {x : Option Nat} (hT : T o = (ci + 5, n)) (hk : fK ci k = 2) :
    (wl dA ad (N, T, P, V)).set o (ad o, .inr (ci, (flds ad ci (P o) (V o)).set k (va_rf (x.map ad)))) = wl dA ad (N, T, wp P o k x, V) := by
  have e : (fun j => if j = k then x else P o j) = wp P o k x o := by funext j; simp [wp]
  rw [← wl_set (h := (N, T, P, V)) (h' := (N, T, wp P o k x, V)) (i := o) rfl (fun j hj => toE_wp hj), toE_o (h := (N, T, wp P o k x, V)) hT, flds_setP hk, e]
theorem wl_ast {dA : Nat → ClassId} {ad : Nat → Nat} {N : Nat} {T : Nat → Nat × Nat} {P : Nat → Nat → Option Nat} {V : Nat → Nat → Int32} {o k n : Nat} {x : Int32} (hT : T o = (0, n)) :
    (wl dA ad (N, T, P, V)).set o (ad o, .inl (dA 0, n, .inl (upd (V o) k x))) = wl dA ad (N, T, P, wr V o k x) := by
  rw [← wl_set (h := (N, T, P, V)) (h' := (N, T, P, wr V o k x)) (i := o) rfl (fun j hj => toE_wr hj), toE_0 (h := (N, T, P, wr V o k x)) hT, ← wr_self]
theorem wl_zst {dA : Nat → ClassId} {ad : Nat → Nat} {N : Nat} {T : Nat → Nat × Nat} {P : Nat → Nat → Option Nat} {V : Nat → Nat → Int32} {o k n : Nat} {x : Int32} (hT : T o = (1, n)) :
    (wl dA ad (N, T, P, V)).set o (ad o, .inl (dA 1, n, .inl (upd (V o) k x))) = wl dA ad (N, T, P, wr V o k x) := by
  rw [← wl_set (h := (N, T, P, V)) (h' := (N, T, P, wr V o k x)) (i := o) rfl (fun j hj => toE_wr hj), toE_1 (h := (N, T, P, wr V o k x)) hT, ← wr_self]
theorem wl_qst {dA : Nat → ClassId} {ad : Nat → Nat} {N t : Nat} {T : Nat → Nat × Nat} {P : Nat → Nat → Option Nat} {V : Nat → Nat → Int32} {o k n v : Nat} (ht : t = 2 ∨ t = 3 ∨ t = 4) (hT : T o = (t, n)) :
    (wl dA ad (N, T, P, V)).set o (ad o, .inl (dA t, n, .inr (.inr (.inr (.inr (va_up (fun j => (P o j).map ad) k (some (ad v)))))))) = wl dA ad (N, T, wp P o k (some v), V) := by
  have e : (va_up (fun j => (P o j).map ad) k (some (ad v))) = fun j => (wp P o k (some v) o j).map ad := by
    funext j
    by_cases q : j = k
    · simp [va_up, wp, q]
    · simp [va_up, wp, q]
  rw [← wl_set (h := (N, T, P, V)) (h' := (N, T, wp P o k (some v), V)) (i := o) rfl (fun j hj => toE_wp hj), toE_q (h := (N, T, wp P o k (some v), V)) ht hT, e]
theorem go_getI {M : MS} {pc cells slots : Nat} {L : List (Option Value)} {st : List Value} {N : Nat} {T : Nat → Nat × Nat} {P : Nat → Nat → Option Nat} {V : Nat → Nat → Int32} {r : Option Value} {h' : HP} {o ci k idx n : Nat} (hF : FL M.1.cls idx ci k) (hk : fK ci k ≠ 2) (hT : T o = (ci + 5, n)) (hd : decode M.2.1 pc = .ok (.getfield idx, 3))
    (kk : Go M (pc + 3) L (.int (V o k) :: st) (N, T, P, V) cells slots r h') : Go M pc L (.ref o :: st) (N, T, P, V) cells slots r h' := by
  intro p l e s m args below meth c D dA ad ad0 N0 A H locs ls B Y
  obtain ⟨C, TT, ty, NN, hc, hN, hkN, hin, hty, hnm, hfin, hC, -, -, -, hlink⟩ := hF
  obtain ⟨hx, hb, hr, hml, hown, hts, hlk, hme, hK, hKW, hX, hA⟩ := id B
  have hg := wl_get (dA := dA) (ad := ad) (h := (N, T, P, V)) (i := o) Y.top
  rw [toE_o (h := (N, T, P, V)) hT] at hg
  have hv : (flds ad ci (P o) (V o))[k]? = some (.int (V o k)) := by rw [flds_get (by rw [hN]; exact hkN), if_neg hk]
  rcases hlink with hl | ⟨host, hl⟩
  · exact va_get (D := D) hx hb hts hin hown hK Y.1 o hg hc k hkN (hts _ hl) (fun _ q => q) hv hd (kk p l e s m args below meth c D dA ad ad0 N0 A H locs ls B (Y.pop.pushI _))
  · exact va_getN (D := D) hx hb hts hin hown hK Y.1 o hg hc k hkN (va_Nw.use rfl (hKW.1 _ hl)) (fun _ q => q) hv hd (kk p l e s m args below meth c D dA ad ad0 N0 A H locs ls B (Y.pop.pushI _))
theorem go_getP {M : MS} {pc cells slots : Nat} {L : List (Option Value)} {st : List Value} {N : Nat} {T : Nat → Nat × Nat} {P : Nat → Nat → Option Nat} {V : Nat → Nat → Int32} {r : Option Value} {h' : HP} {o ci k idx n a : Nat} (hF : FL M.1.cls idx ci k) (hk : fK ci k = 2) (hT : T o = (ci + 5, n)) (hP : P o k = some a) (hd : decode M.2.1 pc = .ok (.getfield idx, 3))
    (kk : Go M (pc + 3) L (.ref a :: st) (N, T, P, V) cells slots r h') : Go M pc L (.ref o :: st) (N, T, P, V) cells slots r h' := by
  intro p l e s m args below meth c D dA ad ad0 N0 A H locs ls B Y
  obtain ⟨C, TT, ty, NN, hc, hN, hkN, hin, hty, hnm, hfin, hC, -, -, -, hlink⟩ := hF
  obtain ⟨hx, hb, hr, hml, hown, hts, hlk, hme, hK, hKW, hX, hA⟩ := id B
  have hg := wl_get (dA := dA) (ad := ad) (h := (N, T, P, V)) (i := o) Y.top
  rw [toE_o (h := (N, T, P, V)) hT] at hg
  have hv : (flds ad ci (P o) (V o))[k]? = some (.ref (ad a)) := by rw [flds_get (by rw [hN]; exact hkN), if_pos hk, hP]; rfl
  have hw : wfv N (.ref a) := (Y.2.2.2.1.1 o k a hP).1
  rcases hlink with hl | ⟨host, hl⟩
  · exact va_get (D := D) hx hb hts hin hown hK Y.1 o hg hc k hkN (hts _ hl) (fun _ q => q) hv hd (kk p l e s m args below meth c D dA ad ad0 N0 A H locs ls B (Y.pop.push hw))
  · exact va_getN (D := D) hx hb hts hin hown hK Y.1 o hg hc k hkN (va_Nw.use rfl (hKW.1 _ hl)) (fun _ q => q) hv hd (kk p l e s m args below meth c D dA ad ad0 N0 A H locs ls B (Y.pop.push hw))
theorem go_putI {M : MS} {pc cells slots : Nat} {L : List (Option Value)} {st : List Value} {N : Nat} {T : Nat → Nat × Nat} {P : Nat → Nat → Option Nat} {V : Nat → Nat → Int32} {r : Option Value} {h' : HP} {o ci k idx n : Nat} {x : Int32} (hF : FL M.1.cls idx ci k) (hk : fK ci k = 0 ∨ fK ci k = 1 ∧ (x = 0 ∨ x = 1)) (hfi : fF ci k = false ∨ fF ci k = true ∧ M.1.name = "<init>" ∧ (vwCl[ci]?).map (fun q => q.1) = some M.1.cls ∧ ∀ host C f d, Cond.fieldLinkNest M.1.cls idx C f d host ∉ nw) (hT : T o = (ci + 5, n)) (hd : decode M.2.1 pc = .ok (.putfield idx, 3))
    (kk : Go M (pc + 3) L st (N, T, P, wr V o k x) cells slots r h') : Go M pc L (.int x :: .ref o :: st) (N, T, P, V) cells slots r h' := by
  intro p l e s m args below meth c D dA ad ad0 N0 A H locs ls B Y
  obtain ⟨C, TT, ty, NN, hc, hN, hkN, hin, hty, hnm, hfin, hC, hk0, hk1, -, hlink⟩ := hF
  obtain ⟨hx, hb, hr, hml, hown, hts, hlk, hme, hK, hKW, hX, hA⟩ := id B
  have ho : o < N := Y.pop.top
  have hg := wl_get (dA := dA) (ad := ad) (h := (N, T, P, V)) (i := o) ho
  rw [toE_o (h := (N, T, P, V)) hT] at hg
  have hk2 : fK ci k ≠ 2 := by rcases hk with q | ⟨q, -⟩ <;> omega
  have hnf : narrow (ty k) (.int x) = .int x ∧ fits (ty k) (.int x) = true := by
    rcases hk with q | ⟨q, q2⟩
    · rw [hk0 q]; exact ⟨rfl, rfl⟩
    · rw [hk1 q]; rcases q2 with rfl | rfl <;> exact ⟨by decide, by decide⟩
  have hlen : k < (flds ad ci (P o) (V o)).length := by rw [flds_len, hN]; exact hkN
  have kx : ∀ (H1 : Heap) (locs1 : List Loc), va_P D vwCl ((wl dA ad (N, T, P, V)).set o (ad o, .inr (ci, (flds ad ci (P o) (V o)).set k (.int x)))) H1 → va_D A ((wl dA ad (N, T, P, V)).set o (ad o, .inr (ci, (flds ad ci (P o) (V o)).set k (.int x)))) → va_S A s.heap H1 locs1 →
      W p l e (rmOf M) s m args below meth c H1 locs1 cells slots (MQ below (QE D dA ad0 N0 A r h') args s M.2.2.2.2.2.2.1 M.2.2.2.2.2.2.2 A) (F0 m (pc + 3) ls (st.map (vl ad))) := by
    intro H1 locs1 q1 q2 q3
    rw [wl_putI hT hk2] at q1 q2
    exact kk p l e s m args below meth c D dA ad ad0 N0 A H1 locs1 ls B (Y.pop.pop.mem rfl (wfh_wr Y.2.2.2.1 ho) q1 q2 q3)
  rcases hlink with hl | ⟨host, hl⟩
  · rcases hfi with hfi | ⟨hfi, hi1, hi2, hnn⟩
    · exact va_put (D := D) hx hb hts hin ty hty hnm hown hK Y.1 Y.2.1 Y.2.2.1 o hg hc k hkN (hts _ hl) (fun _ q => q) (by rw [hfin]; exact hfi) (hty k hkN) hnf.1 hnf.2 hlen hd kx
    · rw [hc] at hi2
      exact va_putF (D := D) hx hb hts hin ty hty hnm hown hK Y.1 Y.2.1 Y.2.2.1 o hg hc k hkN (hts _ hl) (fun _ q => q) (by rw [hfin]; exact hfi) (by rw [hme]; exact hi1) (by rw [hC]; exact Option.some.inj hi2) (hty k hkN) hnf.1 hnf.2 hlen hd kx
  · rcases hfi with hfi | ⟨hfi, hi1, hi2, hnn⟩
    · exact va_putN (D := D) hx hb hts hin ty hty hnm hown hK Y.1 Y.2.1 Y.2.2.1 o hg hc k hkN (va_Nw.use rfl (hKW.1 _ hl)) (fun _ q => q) (by rw [hfin]; exact hfi) (hty k hkN) hnf.1 hnf.2 hlen hd kx
    · exact absurd hl (hnn _ _ _ _)
theorem go_putP {M : MS} {pc cells slots : Nat} {L : List (Option Value)} {st : List Value} {N : Nat} {T : Nat → Nat × Nat} {P : Nat → Nat → Option Nat} {V : Nat → Nat → Int32} {r : Option Value} {h' : HP} {o ci k idx n a : Nat} (hF : FL M.1.cls idx ci k) (hnn : ∀ host C f d, Cond.fieldLinkNest M.1.cls idx C f d host ∉ nw) (hk : fK ci k = 2) (hfi : fF ci k = true ∧ M.1.name = "<init>" ∧ (vwCl[ci]?).map (fun q => q.1) = some M.1.cls) (hT : T o = (ci + 5, n)) (hd : decode M.2.1 pc = .ok (.putfield idx, 3))
    (kk : Go M (pc + 3) L st (N, T, wp P o k (some a), V) cells slots r h') : Go M pc L (.ref a :: .ref o :: st) (N, T, P, V) cells slots r h' := by
  intro p l e s m args below meth c D dA ad ad0 N0 A H locs ls B Y
  obtain ⟨C, TT, ty, NN, hc, hN, hkN, hin, hty, hnm, hfin, hC, -, -, hk2, hlink⟩ := hF
  obtain ⟨hx, hb, hr, hml, hown, hts, hlk, hme, hK, hKW, hX, hA⟩ := id B
  have ho : o < N := Y.pop.top
  have ha : a < N := Y.top
  have hg := wl_get (dA := dA) (ad := ad) (h := (N, T, P, V)) (i := o) ho
  rw [toE_o (h := (N, T, P, V)) hT] at hg
  have hnf := hk2 hk (ad a)
  have hlen : k < (flds ad ci (P o) (V o)).length := by rw [flds_len, hN]; exact hkN
  have kx : ∀ (H1 : Heap) (locs1 : List Loc), va_P D vwCl ((wl dA ad (N, T, P, V)).set o (ad o, .inr (ci, (flds ad ci (P o) (V o)).set k (.ref (ad a))))) H1 → va_D A ((wl dA ad (N, T, P, V)).set o (ad o, .inr (ci, (flds ad ci (P o) (V o)).set k (.ref (ad a))))) → va_S A s.heap H1 locs1 →
      W p l e (rmOf M) s m args below meth c H1 locs1 cells slots (MQ below (QE D dA ad0 N0 A r h') args s M.2.2.2.2.2.2.1 M.2.2.2.2.2.2.2 A) (F0 m (pc + 3) ls (st.map (vl ad))) := by
    intro H1 locs1 q1 q2 q3
    have e9 : (Value.ref (ad a)) = va_rf ((some a : Option Nat).map ad) := rfl
    rw [e9, wl_putP hT hk] at q1 q2
    exact kk p l e s m args below meth c D dA ad ad0 N0 A H1 locs1 ls B (Y.pop.pop.mem rfl (wfh_wp Y.2.2.2.1 ho (fun b hb => by cases hb; exact ha)) q1 q2 q3)
  rcases hlink with hl | ⟨host, hl⟩
  · rw [hc] at hfi
    exact va_putF (D := D) hx hb hts hin ty hty hnm hown hK Y.1 Y.2.1 Y.2.2.1 o hg hc k hkN (hts _ hl) (fun _ q => q) (by rw [hfin]; exact hfi.1) (by rw [hme]; exact hfi.2.1) (by rw [hC]; exact Option.some.inj hfi.2.2) (hty k hkN) hnf.1 hnf.2 hlen hd kx
  · exact absurd hl (hnn _ _ _ _)
theorem go_iald {M : MS} {pc cells slots : Nat} {L : List (Option Value)} {st : List Value} {N : Nat} {T : Nat → Nat × Nat} {P : Nat → Nat → Option Nat} {V : Nat → Nat → Int32} {r : Option Value} {h' : HP} {o n : Nat} {i : Int32} (hT : T o = (0, n)) (hi : vp_in i n) (hd : decode M.2.1 pc = .ok (.iaload, 1))
    (kk : Go M (pc + 1) L (.int (V o i.toNatClampNeg) :: st) (N, T, P, V) cells slots r h') : Go M pc L (.int i :: .ref o :: st) (N, T, P, V) cells slots r h' := by
  intro p l e s m args below meth c D dA ad ad0 N0 A H locs ls B Y
  have hg := wl_get (dA := dA) (ad := ad) (h := (N, T, P, V)) (i := o) Y.pop.top
  rw [toE_0 (h := (N, T, P, V)) hT] at hg
  exact va_iald B.1 B.2.1 B.2.2.2.2.2.2.2.2.1 Y.1 o 0 hg rfl hi hd (kk p l e s m args below meth c D dA ad ad0 N0 A H locs ls B (Y.pop.pop.pushI _))
theorem go_zald {M : MS} {pc cells slots : Nat} {L : List (Option Value)} {st : List Value} {N : Nat} {T : Nat → Nat × Nat} {P : Nat → Nat → Option Nat} {V : Nat → Nat → Int32} {r : Option Value} {h' : HP} {o n : Nat} {i : Int32} (hT : T o = (1, n)) (hi : vp_in i n) (hd : decode M.2.1 pc = .ok (.baload, 1))
    (kk : Go M (pc + 1) L (.int (V o i.toNatClampNeg) :: st) (N, T, P, V) cells slots r h') : Go M pc L (.int i :: .ref o :: st) (N, T, P, V) cells slots r h' := by
  intro p l e s m args below meth c D dA ad ad0 N0 A H locs ls B Y
  have hg := wl_get (dA := dA) (ad := ad) (h := (N, T, P, V)) (i := o) Y.pop.top
  rw [toE_1 (h := (N, T, P, V)) hT] at hg
  exact va_zald B.1 B.2.1 B.2.2.2.2.2.2.2.2.1 Y.1 o 1 hg rfl hi hd (kk p l e s m args below meth c D dA ad ad0 N0 A H locs ls B (Y.pop.pop.pushI _))
theorem go_aald2 {M : MS} {pc cells slots : Nat} {L : List (Option Value)} {st : List Value} {N : Nat} {T : Nat → Nat × Nat} {P : Nat → Nat → Option Nat} {V : Nat → Nat → Int32} {r : Option Value} {h' : HP} {o n a : Nat} {i : Int32} (hT : T o = (2, n)) (hi : vp_in i n) (hP : P o i.toNatClampNeg = some a) (hd : decode M.2.1 pc = .ok (.aaload, 1))
    (kk : Go M (pc + 1) L (.ref a :: st) (N, T, P, V) cells slots r h') : Go M pc L (.int i :: .ref o :: st) (N, T, P, V) cells slots r h' := by
  intro p l e s m args below meth c D dA ad ad0 N0 A H locs ls B Y
  have hg := wl_get (dA := dA) (ad := ad) (h := (N, T, P, V)) (i := o) Y.pop.top
  rw [toE_q (h := (N, T, P, V)) (Or.inl rfl) hT] at hg
  have hv := kk p l e s m args below meth c D dA ad ad0 N0 A H locs ls B (Y.pop.pop.push (Y.2.2.2.1.1 _ _ _ hP).1)
  have hlt : i.toNatClampNeg < n := Nat.not_le.mp fun q => hi (Or.inr q)
  have hcell := Y.1 o _ hg
  exact W.aald (v := .ref (ad a)) (ty := .array .int) B.1 B.2.1 hcell ((B.2.2.2.2.2.2.2.2.1.2 2 _ rfl).1 n (fun j => va_rf ((P o j).map ad))) rfl (fun q => by cases q) (by show ¬ (i < 0 ∨ (arrV _ _ _).slots.size ≤ _); rw [arrV_size]; exact hi) (by show (arrV _ _ _).slots[_]? = _; rw [arrV_read _ _ hlt]; show some (va_rf ((P o i.toNatClampNeg).map ad)) = _; rw [hP]; rfl) rfl rfl hd hv
theorem go_aald {M : MS} {pc cells slots : Nat} {L : List (Option Value)} {st : List Value} {N : Nat} {T : Nat → Nat × Nat} {P : Nat → Nat → Option Nat} {V : Nat → Nat → Int32} {r : Option Value} {h' : HP} {t o n a : Nat} {i : Int32} (ht : t = 3 ∨ t = 4) (hT : T o = (t, n)) (hi : vp_in i n) (hP : P o i.toNatClampNeg = some a) (hd : decode M.2.1 pc = .ok (.aaload, 1))
    (kk : Go M (pc + 1) L (.ref a :: st) (N, T, P, V) cells slots r h') : Go M pc L (.int i :: .ref o :: st) (N, T, P, V) cells slots r h' := by
  intro p l e s m args below meth c D dA ad ad0 N0 A H locs ls B Y
  have hg := wl_get (dA := dA) (ad := ad) (h := (N, T, P, V)) (i := o) Y.pop.top
  rw [toE_q (h := (N, T, P, V)) (Or.inr ht) hT] at hg
  have hv := kk p l e s m args below meth c D dA ad ad0 N0 A H locs ls B (Y.pop.pop.push (Y.2.2.2.1.1 _ _ _ hP).1)
  have hq : va_rf ((P o i.toNatClampNeg).map ad) = .ref (ad a) := by rw [hP]; rfl
  rcases ht with rfl | rfl
  · exact va_aldq B.1 B.2.1 B.2.2.2.2.2.2.2.2.1 Y.1 o 3 hg rfl hi hd (by rw [hq]; exact hv)
  · exact va_aldq B.1 B.2.1 B.2.2.2.2.2.2.2.2.1 Y.1 o 4 hg rfl hi hd (by rw [hq]; exact hv)
theorem go_iast {M : MS} {pc cells slots : Nat} {L : List (Option Value)} {st : List Value} {N : Nat} {T : Nat → Nat × Nat} {P : Nat → Nat → Option Nat} {V : Nat → Nat → Int32} {r : Option Value} {h' : HP} {o n : Nat} {i x : Int32} (hT : T o = (0, n)) (hi : vp_in i n) (hd : decode M.2.1 pc = .ok (.iastore, 1))
    (kk : Go M (pc + 1) L st (N, T, P, wr V o i.toNatClampNeg x) cells slots r h') : Go M pc L (.int x :: .int i :: .ref o :: st) (N, T, P, V) cells slots r h' := by
  intro p l e s m args below meth c D dA ad ad0 N0 A H locs ls B Y
  have ho : o < N := Y.pop.pop.top
  have hg := wl_get (dA := dA) (ad := ad) (h := (N, T, P, V)) (i := o) ho
  rw [toE_0 (h := (N, T, P, V)) hT] at hg
  refine va_iast B.1 B.2.1 B.2.2.2.2.2.2.2.2.1 Y.1 Y.2.1 Y.2.2.1 o 0 hg rfl hi hd (fun H1 locs1 q1 q2 q3 => ?_)
  rw [wl_ast hT] at q1 q2
  exact kk p l e s m args below meth c D dA ad ad0 N0 A H1 locs1 ls B (Y.pop.pop.pop.mem rfl (wfh_wr Y.2.2.2.1 ho) q1 q2 q3)
theorem go_zast {M : MS} {pc cells slots : Nat} {L : List (Option Value)} {st : List Value} {N : Nat} {T : Nat → Nat × Nat} {P : Nat → Nat → Option Nat} {V : Nat → Nat → Int32} {r : Option Value} {h' : HP} {o n : Nat} {i x : Int32} (hT : T o = (1, n)) (hi : vp_in i n) (hd : decode M.2.1 pc = .ok (.bastore, 1))
    (kk : Go M (pc + 1) L st (N, T, P, wr V o i.toNatClampNeg (vp_nar .boolean x)) cells slots r h') : Go M pc L (.int x :: .int i :: .ref o :: st) (N, T, P, V) cells slots r h' := by
  intro p l e s m args below meth c D dA ad ad0 N0 A H locs ls B Y
  have ho : o < N := Y.pop.pop.top
  have hg := wl_get (dA := dA) (ad := ad) (h := (N, T, P, V)) (i := o) ho
  rw [toE_1 (h := (N, T, P, V)) hT] at hg
  refine va_zast B.1 B.2.1 B.2.2.2.2.2.2.2.2.1 Y.1 Y.2.1 Y.2.2.1 o 1 hg rfl hi hd (fun H1 locs1 q1 q2 q3 => ?_)
  rw [wl_zst hT] at q1 q2
  exact kk p l e s m args below meth c D dA ad ad0 N0 A H1 locs1 ls B (Y.pop.pop.pop.mem rfl (wfh_wr Y.2.2.2.1 ho) q1 q2 q3)
theorem go_astq {M : MS} {pc cells slots : Nat} {L : List (Option Value)} {st : List Value} {N : Nat} {T : Nat → Nat × Nat} {P : Nat → Nat → Option Nat} {V : Nat → Nat → Int32} {r : Option Value} {h' : HP} {t o n v ci nv : Nat} {i : Int32} (ht : t = 3 ∧ ci = 0 ∨ t = 4 ∧ ci = 4) (hT : T o = (t, n)) (hTv : T v = (ci + 5, nv)) (hi : vp_in i n) (hd : decode M.2.1 pc = .ok (.aastore, 1))
    (kk : Go M (pc + 1) L st (N, T, wp P o i.toNatClampNeg (some v), V) cells slots r h') : Go M pc L (.ref v :: .int i :: .ref o :: st) (N, T, P, V) cells slots r h' := by
  intro p l e s m args below meth c D dA ad ad0 N0 A H locs ls B Y
  have ho : o < N := Y.pop.pop.top
  have hvN : v < N := Y.top
  have ht2 : t = 2 ∨ t = 3 ∨ t = 4 := by omega
  have hg := wl_get (dA := dA) (ad := ad) (h := (N, T, P, V)) (i := o) ho
  rw [toE_q (h := (N, T, P, V)) ht2 hT] at hg
  have hgv := wl_get (dA := dA) (ad := ad) (h := (N, T, P, V)) (i := v) hvN
  rw [toE_o (h := (N, T, P, V)) hTv] at hgv
  have kx : ∀ (H1 : Heap) (locs1 : List Loc), va_P D vwCl ((wl dA ad (N, T, P, V)).set o (ad o, .inl (dA t, n, .inr (.inr (.inr (.inr (va_up (fun j => (P o j).map ad) i.toNatClampNeg (some (ad v))))))))) H1 → va_D A ((wl dA ad (N, T, P, V)).set o (ad o, .inl (dA t, n, .inr (.inr (.inr (.inr (va_up (fun j => (P o j).map ad) i.toNatClampNeg (some (ad v))))))))) → va_S A s.heap H1 locs1 →
      W p l e (rmOf M) s m args below meth c H1 locs1 cells slots (MQ below (QE D dA ad0 N0 A r h') args s M.2.2.2.2.2.2.1 M.2.2.2.2.2.2.2 A) (F0 m (pc + 1) ls (st.map (vl ad))) := by
    intro H1 locs1 q1 q2 q3
    rw [wl_qst ht2 hT] at q1 q2
    exact kk p l e s m args below meth c D dA ad ad0 N0 A H1 locs1 ls B (Y.pop.pop.pop.mem rfl (wfh_wp Y.2.2.2.1 ho (fun b hb => by cases hb; exact hvN)) q1 q2 q3)
  rcases ht with ⟨rfl, rfl⟩ | ⟨rfl, rfl⟩
  · exact va_astq (r := (RX0, TX0, 12)) B.1 B.2.1 B.2.2.2.2.2.2.2.2.1 Y.1 Y.2.1 Y.2.2.1 o 3 v 0 hg rfl hgv rfl hi hd kx
  · exact va_astq (r := (RX4, TX4, 3)) B.1 B.2.1 B.2.2.2.2.2.2.2.2.1 Y.1 Y.2.1 Y.2.2.1 o 4 v 4 hg rfl hgv rfl hi hd kx
/-! returns -/
theorem go_iret {M : MS} {pc cells slots : Nat} {L : List (Option Value)} {h : HP} {x : Int32} (hr : M.2.2.2.1 = some .int ∨ M.2.2.2.1 = some .boolean ∧ (x = 0 ∨ x = 1)) (hc : cells ≤ M.2.2.2.2.2.2.1 ∧ slots ≤ M.2.2.2.2.2.2.2) (hd : decode M.2.1 pc = .ok (.ireturn, 1)) : Go M pc L [.int x] h cells slots (some (.int x)) h := by
  intro p l e s m args below meth c D dA ad ad0 N0 A H locs ls B Y
  refine W.widen hc.1 hc.2 ?_
  rcases hr with hr | ⟨hr, hx⟩
  · exact W.iret (v := x) B.1 B.2.1 (B.2.2.1.trans hr) (fun t ht hW => ⟨⟨ad, rfl, Y.2.2.2.2.2.2.2.2, Y.2.2.2.2.2.2.2.1, by rw [ht]; exact Y.1, Y.2.1, Y.2.2.2.1, fun v hv => by cases hv; trivial⟩, Y.2.2.1.F ht⟩) Y.2.2.1.2.2 hd B.2.2.2.2.2.2.1
  · exact W.zret (v := x) B.1 B.2.1 (B.2.2.1.trans hr) (by rcases hx with rfl | rfl <;> decide) (fun t ht hW => ⟨⟨ad, rfl, Y.2.2.2.2.2.2.2.2, Y.2.2.2.2.2.2.2.1, by rw [ht]; exact Y.1, Y.2.1, Y.2.2.2.1, fun v hv => by cases hv; trivial⟩, Y.2.2.1.F ht⟩) Y.2.2.1.2.2 hd B.2.2.2.2.2.2.1
theorem go_vret {M : MS} {pc cells slots : Nat} {L : List (Option Value)} {h : HP} (hr : M.2.2.2.1 = none) (hc : cells ≤ M.2.2.2.2.2.2.1 ∧ slots ≤ M.2.2.2.2.2.2.2) (hd : decode M.2.1 pc = .ok (.return_, 1)) : Go M pc L [] h cells slots none h := by
  intro p l e s m args below meth c D dA ad ad0 N0 A H locs ls B Y
  refine W.widen hc.1 hc.2 ?_
  exact W.vret B.1 B.2.1 (B.2.2.1.trans hr) (fun t ht hW => ⟨⟨ad, rfl, Y.2.2.2.2.2.2.2.2, Y.2.2.2.2.2.2.2.1, by rw [ht]; exact Y.1, Y.2.1, Y.2.2.2.1, fun v hv => by cases hv⟩, Y.2.2.1.F ht⟩) Y.2.2.1.2.2 hd B.2.2.2.2.2.2.1
theorem go_aret {M : MS} {pc cells slots : Nat} {L : List (Option Value)} {h : HP} {x : Nat} {rt : FieldType} (hr : M.2.2.2.1 = some rt) (hrt : (∃ n, rt = .object n) ∨ ∃ t, rt = .array t) (hc : cells ≤ M.2.2.2.2.2.2.1 ∧ slots ≤ M.2.2.2.2.2.2.2) (hd : decode M.2.1 pc = .ok (.areturn, 1)) : Go M pc L [.ref x] h cells slots (some (.ref x)) h := by
  intro p l e s m args below meth c D dA ad ad0 N0 A H locs ls B Y
  refine W.widen hc.1 hc.2 ?_
  exact W.aret (v := .ref (ad x)) B.1 B.2.1 (B.2.2.1.trans hr) hrt (Or.inr ⟨_, rfl⟩) (fun t ht hW => ⟨⟨ad, rfl, Y.2.2.2.2.2.2.2.2, Y.2.2.2.2.2.2.2.1, by rw [ht]; exact Y.1, Y.2.1, Y.2.2.2.1, fun v hv => by cases hv; exact Y.top⟩, Y.2.2.1.F ht⟩) Y.2.2.1.2.2 hd B.2.2.2.2.2.2.1
/-! calls -/
theorem up_ne {α : Type} {f : Nat → α} {k j : Nat} {v : α} (h : j ≠ k) : va_up f k v j = f j := by simp [va_up, h]
theorem vl_ad {ad ad' : Nat → Nat} {N : Nat} (he : ∀ i, i < N → ad' i = ad i) {v : Value} (h : wfv N v) : vl ad' v = vl ad v := by
  cases v <;> simp_all [wfv, vl]
theorem la_ad {ad ad' : Nat → Nat} {N : Nat} (he : ∀ i, i < N → ad' i = ad i) : ∀ (L : List (Option Value)) (i : Nat), (∀ (j : Nat) (w : Value), L[j]? = some (some w) → wfv N w) → la ad' i L = la ad i L
  | [], i, _ => rfl
  | none :: t, i, h => by
    rw [la, la]
    exact la_ad he t (i + 1) (fun j w hj => h (j + 1) w (by simpa using hj))
  | some v :: t, i, h => by
    rw [la, la, vl_ad he (h 0 v (by simp)), la_ad he t (i + 1) (fun j w hj => h (j + 1) w (by simpa using hj))]
theorem map_ad {ad ad' : Nat → Nat} {N : Nat} (he : ∀ i, i < N → ad' i = ad i) {st : List Value} (h : ∀ v ∈ st, wfv N v) : st.map (vl ad') = st.map (vl ad) :=
  List.map_congr_left fun v hv => vl_ad he (h v hv)
theorem wfv_le {N N' : Nat} (hN : N ≤ N') {v : Value} (h : wfv N v) : wfv N' v := by
  cases v with
  | ref a => exact Nat.lt_of_lt_of_le h hN
  | _ => exact h
theorem run_k {p : Program} {l : Launch} {e : Env} {R : Room} {s : State} {m : MethodId} {args : Array Value} {below : List Frame} {meth : Method} {c : Code} {H : Heap} {locs : List Loc} {cells slots mc ms : Nat} {Q : State → Prop} {pc : Nat} {ls : Array Slot} {stk rest : List Value}
    {D : va_G} {dA : Nat → ClassId} {ad : Nat → Nat} {N : Nat} {A A1 : Nat → Prop} {r : Option Value} {h1 : HP} {free : Addr → Prop} {a : Array Value}
    (hr : va_Run p l e R s m args below meth c H locs cells slots mc ms (F0 m pc ls stk) rest (QE D dA ad N A1 r h1 a) free) (hS : va_S A s.heap H locs) (hA : ∀ q, A1 q → A q) (hf : ∀ q, free q → A q)
    (kk : ∀ (ad' : Nat → Nat) (H1 : Heap) (locs1 : List Loc), (∀ i, i < N → ad' i = ad i) → N ≤ h1.1 → va_P D vwCl (wl dA ad' h1) H1 → va_D A (wl dA ad' h1) → wfh h1.1 h1.2.2.1 h1.2.2.2 → (∀ v, r = some v → wfv h1.1 v) → va_S A s.heap H1 locs1 →
      W p l e R s m args below meth c H1 locs1 (cells + mc) (slots + ms) Q (F0 m (pc + 3) ls ((r.map (vl ad')).toList ++ rest))) : W p l e R s m args below meth c H locs cells slots Q (F0 m pc ls stk) := by
  intro T hT X
  obtain ⟨v, st₀, t, T', L, h0, X', hL, e1, e2, ⟨⟨ad', hv, g1, g2, g3, g4, g5, g6⟩, hz, hk⟩, st⟩ := hr T hT X
  cases hv
  rw [h0] at hz hk
  obtain ⟨t2, a1, b1⟩ := kk ad' T'.heap (locs ++ L) g1 g2 (by rw [e1]; exact g3) (g4.weaken (fun _ q _ h => hA q.1 h)) g5 g6
    ⟨Nat.le_trans hS.1 (by rw [e1]; exact hz), fun q h1 h2 => by rw [e1, hk q (Nat.lt_of_lt_of_le h1 hS.1) (fun z => h2 (hA q z))]; exact hS.2.1 q h1 h2, fun q hq => by
      rcases List.mem_append.mp hq with h | h
      · exact hS.2.2 q h
      · exact hf _ (hL q h)⟩ T' rfl X'
  exact ⟨t2, st t2 a1, b1⟩
theorem wl_free {D : va_G} {dA : Nat → ClassId} {ad : Nat → Nat} {h : HP} {A : Nat → Prop} {H0 H : Heap} {locs : List Loc} (hD : va_D A (wl dA ad h)) (hS : va_S A H0 H locs) (hA : ∀ q, H0.size ≤ q → A q) : ∀ q, va_A (wl dA ad h) H.size q → A q := by
  intro q hq
  rcases hq with ⟨k, e, hk⟩ | hq
  · exact hD.2 k _ hk
  · exact hA q (Nat.le_trans hS.1 hq)
/-- a method's own facts -/
def MOK (M : MS) (n : Nat) : Prop := plainName M.1.cls = true ∧ (M.1.cls ≠ "java/lang/invoke/MethodHandle" ∧ M.1.cls ≠ "java/lang/invoke/VarHandle") ∧ (parseMethodDescriptor M.1.desc).map (fun d => d.parameters.length) = some n ∧ Cond.code M.1 M.2.1 M.2.2.1 M.2.2.2.1 ∈ gw ∧ Cond.initialized M.1.cls ∈ gw
def LK (own : String) (idx : Nat) (y : MethodName) : Prop := Cond.methodLink own idx y ∈ gw ∨ ∃ host, Cond.methodLinkNest own idx y host ∈ nw
theorem good_gw {M : MS} {n : Nat} (h : MOK M n) : GoodIn gw (.code M.1 M.2.1 M.2.2.1 M.2.2.2.1 :: gw) := by
  intro w hw
  rcases List.mem_cons.mp hw with rfl | hw
  · exact ⟨h.2.2.2.1, good_of_word (List.mem_filter.mp h.2.2.2.1).2⟩
  · exact ⟨hw, good_of_word (List.mem_filter.mp hw).2⟩
theorem Ev.of {M : MS} {n : Nat} {vs : List Value} {h : HP} {r : Option Value} {h' : HP} (hM : plainName M.1.cls = true) (hn : vs.length ≤ M.2.2.1) (hG : Go M 0 (vs.map some ++ List.replicate n none) [] h 0 0 r h') : Ev M vs h r h' := by
  intro l D dA ad sz hwf hwv
  refine Met.ofW (cc := M.2.1) (maxL := M.2.2.1) (ret := M.2.2.2.1) hM rfl ?_
  intro p e s m args below meth c s₁ B hml hv
  obtain ⟨rfl, hsz, hP, hK, hD, hN, hX⟩ := hv
  have hts : ∀ w ∈ gw, w.before (vs.map (vl ad)).toArray s = true := fun w hw => atoms_spec (ws := .code M.1 M.2.1 M.2.2.1 M.2.2.2.1 :: gw) B.pre w (List.mem_cons_of_mem _ hw)
  subst hsz
  have hcat : ∀ (us : List Value), (∀ v ∈ us, wfv h.1 v) → (lg_sl (us.map (vl ad))).length = us.length ∧ ∀ i : Nat, lv_args i (us.map (vl ad)) = la ad i (us.map some ++ List.replicate n none) := by
    intro us
    induction us with
    | nil =>
      intro _
      refine ⟨rfl, fun i => ?_⟩
      have h0 : ∀ (k i : Nat), la ad i (List.replicate k none) = [] := by
        intro k
        induction k with
        | zero => intro i; rfl
        | succ k ih => intro i; rw [List.replicate_succ, la]; exact ih (i + 1)
      simp [lv_args, h0]
    | cons u us ih =>
      intro hw
      have hc := vl_cat (ad := ad) (hw u List.mem_cons_self)
      obtain ⟨i1, i2⟩ := ih (fun v hv => hw v (List.mem_cons_of_mem _ hv))
      refine ⟨?_, fun i => ?_⟩
      · have : lg_sl ((u :: us).map (vl ad)) = [.val (vl ad u)] ++ lg_sl (us.map (vl ad)) := by simp [lg_sl, hc]
        rw [this, List.length_append, i1]
        simp
        omega
      · rw [List.map_cons, lv_args, hc, if_neg (by decide), i2]
        rfl
  obtain ⟨i1, i2⟩ := hcat vs hwv
  have hl := lv_entry (vs.map (vl ad)) (n := M.2.2.1) (by rw [i1]; exact hn)
  rw [i2 0] at hl
  rw [lg_entry_eq]
  refine hG p l e s m _ below meth c D dA ad ad h.1 (va_A (wl dA ad h) s.heap.size) s.heap [] _ ⟨B.exec, B.bytes, B.returns, hml, findClass_of_methodNamed B.named, hts, B.notSynchronized, (name_of_methodNamed B.named B.method).1, hK, hN, hX, fun q hq => Or.inr hq⟩ ⟨hP, hD.self, va_S.rf, hwf, hl, fun j w hj => ?_, fun v hv => (by cases hv), Nat.le_refl _, fun _ _ => rfl⟩
  have hm := List.mem_of_getElem? hj
  rcases List.mem_append.mp hm with hm | hm
  · obtain ⟨u, hu, e⟩ := List.mem_map.mp hm
    cases e
    exact hwv w hu
  · exact absurd (List.mem_replicate.mp hm).2 (by simp)
theorem preB_blind {D : va_G} {dA : Nat → ClassId} {ad : Nat → Nat} {h : HP} {sz : Nat} {vs : List Value} : FrameBlind (va_Pc (vs.map (vl ad)) (PreB D dA ad h sz)) := by
  intro a U g mk q
  obtain ⟨q0, q1, q2, q3, q4, q5, q6⟩ := q
  exact ⟨q0, q1, q2, va_K.moved (u := U) (U := U.calling g mk a) (Vm.Alike.refl U.vm) q3, q4, KW.same (u := U) (U := U.calling g mk a) rfl q5, XS.moved (u := U) (U := U.calling g mk a) (Vm.Alike.refl U.vm) q6⟩
theorem preB_of {M : MS} {D : va_G} {dA : Nat → ClassId} {ad ad0 : Nat → Nat} {N0 : Nat} {h : HP} {p : Program} {s : State} {m : MethodId} {args : Array Value} {meth : Method} {c : Code} {A : Nat → Prop} {H : Heap} {locs : List Loc} {ls : Array Slot} {L : List (Option Value)} {st : List Value} (B : Bd M p s m args meth c D dA A) (Y : Dy M D dA ad ad0 N0 h s A H locs ls L st) :
    ∀ U : State, U.heap = H → s.WarmedH U.vm → PreB D dA ad h H.size U := by
  intro U hU hW
  obtain ⟨hx, hb, hr, hml, hown, hts, hlk, hme, hK, hKW, hX, hA⟩ := B
  refine ⟨by rw [hU], by rw [hU]; exact Y.1, va_K.moved hW.alike hK, Y.2.1.weaken (fun _ _ _ _ => trivial), hKW.warm hW, ?_⟩
  have hX1 : XS A s H := hX.kept (fun a h1 h2 => Y.2.2.1.2.1 a h1 h2)
  rw [hU]
  exact (hX1.narrow (wl_free (D := D) Y.2.1 Y.2.2.1 hA)).moved hW.alike
theorem call_k {M M1 : MS} {pc cells slots : Nat} {L : List (Option Value)} {stk st : List Value} {h h1 : HP} {r r1 : Option Value} {h' : HP}
    (kk : Go M (pc + 3) L (r1.toList ++ st) h1 (cells + M1.2.2.2.2.2.2.1) (slots + M1.2.2.2.2.2.2.2) r h')
    (hrun : ∀ (p : Program) (l : Launch) (e : Env) (s : State) (m : MethodId) (args : Array Value) (below : List Frame) (meth : Method) (c : Code) (D : va_G) (dA : Nat → ClassId) (ad ad0 : Nat → Nat) (N0 : Nat) (A : Nat → Prop) (H : Heap) (locs : List Loc) (ls : Array Slot),
      Bd M p s m args meth c D dA A → Dy M D dA ad ad0 N0 h s A H locs ls L stk → (∀ v ∈ st, wfv h.1 v) ∧ ∃ a, va_Run p l e (rmOf M) s m args below meth c H locs cells slots M1.2.2.2.2.2.2.1 M1.2.2.2.2.2.2.2 (F0 m pc ls (stk.map (vl ad))) (st.map (vl ad)) (QE D dA ad h.1 (va_A (wl dA ad h) H.size) r1 h1 a) (va_A (wl dA ad h) H.size)) :
    Go M pc L stk h cells slots r h' := by
  intro p l e s m args below meth c D dA ad ad0 N0 A H locs ls B Y
  obtain ⟨hst, a, hr⟩ := hrun p l e s m args below meth c D dA ad ad0 N0 A H locs ls B Y
  have hA : ∀ q, s.heap.size ≤ q → A q := B.2.2.2.2.2.2.2.2.2.2.2
  have hfree := wl_free (D := D) Y.2.1 Y.2.2.1 hA
  refine run_k hr Y.2.2.1 hfree hfree (fun ad' H1 locs1 g1 g2 g3 g4 g5 g6 g7 => ?_)
  have e1 : (r1.map (vl ad')).toList ++ st.map (vl ad) = (r1.toList ++ st).map (vl ad') := by
    rw [List.map_append, map_ad g1 hst]
    cases r1 <;> rfl
  rw [e1]
  refine kk p l e s m args below meth c D dA ad' ad0 N0 A H1 locs1 ls B ⟨g3, g4, g7, g5, ?_, fun j w hj => wfv_le g2 (Y.2.2.2.2.2.1 j w hj), fun v hv => ?_, Nat.le_trans Y.2.2.2.2.2.2.2.1 g2, fun i hi => (g1 i (Nat.lt_of_lt_of_le hi Y.2.2.2.2.2.2.2.1)).trans (Y.2.2.2.2.2.2.2.2 i hi)⟩
  · rw [la_ad g1 L 0 Y.2.2.2.2.2.1]; exact Y.2.2.2.2.1
  · rcases List.mem_append.mp hv with hv | hv
    · cases r1 with
      | none => cases hv
      | some w =>
        simp at hv
        subst hv
        exact g6 _ rfl
    · exact wfv_le g2 (hst v hv)
theorem cat_sum {ad : Nat → Nat} {N : Nat} : ∀ (st : List Value), (∀ v ∈ st, wfv N v) → ((st.map (vl ad)).map fun v => v.category).sum = st.length
  | [], _ => rfl
  | v :: t, h => by
    have := cat_sum (ad := ad) t (fun w hw => h w (List.mem_cons_of_mem _ hw))
    simp only [List.map_cons, List.sum_cons, List.length_cons, vl_cat (h v List.mem_cons_self)]
    simp only [List.map_map] at this ⊢
    omega
theorem go_callV {M M1 : MS} {pc cells slots n idx ci nn o : Nat} {L : List (Option Value)} {stk st As : List Value} {N : Nat} {T : Nat → Nat × Nat} {P : Nat → Nat → Option Nat} {V : Nat → Nat → Int32} {h1 : HP} {r r1 : Option Value} {h' : HP}
    (hE : Ev M1 (.ref o :: As) (N, T, P, V) r1 h1) (hs : stk = As.reverse ++ .ref o :: st) (hM : MOK M1 n) (hi : Cond.instanceMethod M1.1 ∈ gw) (hsel : Cond.selects M1.1.cls M1.1 M1.1 ∈ gw) (hL : LK M.1.cls idx M1.1) (hn : As.length = n) (hT : T o = (ci + 5, nn)) (hci : (vwCl[ci]?).map (fun q => q.1) = some M1.1.cls) (hst : st.length ≤ 8)
    (hR : M1.2.2.2.2.1 + 1 ≤ M.2.2.2.2.1 ∧ 8 + (M1.2.2.1 + 11) + M1.2.2.2.2.2.1 ≤ M.2.2.2.2.2.1) (hf : cells + M1.2.2.2.2.2.2.1 ≤ M.2.2.2.2.2.2.1 ∧ slots + M1.2.2.2.2.2.2.2 ≤ M.2.2.2.2.2.2.2) (hd : decode M.2.1 pc = .ok (.invokevirtual idx, 3))
    (kk : Go M (pc + 3) L (r1.toList ++ st) h1 (cells + M1.2.2.2.2.2.2.1) (slots + M1.2.2.2.2.2.2.2) r h') : Go M pc L stk (N, T, P, V) cells slots r h' := by
  subst hs
  refine call_k (M1 := M1) (st := st) kk ?_
  intro p l e s m args below meth c D dA ad ad0 N0 A H locs ls B Y
  have hall := Y.2.2.2.2.2.2.1
  have hst' : ∀ v ∈ st, wfv N v := fun v hv => hall v (List.mem_append_right _ (List.mem_cons_of_mem _ hv))
  have hag : ∀ v ∈ (Value.ref o :: As), wfv N v := fun v hv => by
    rcases List.mem_cons.mp hv with rfl | hv
    · exact hall _ (List.mem_append_right _ List.mem_cons_self)
    · exact hall v (List.mem_append_left _ (List.mem_reverse.mpr hv))
  refine ⟨hst', ((Value.ref o :: As).map (vl ad)).toArray, ?_⟩
  obtain ⟨hx, hb, hr, hml, hown, hts, hlk, hme, hK, hKW, hX, hA⟩ := id B
  have hE' := hE l D dA ad H.size Y.2.2.2.1 hag
  have hG := good_gw hM
  obtain ⟨m1, m2, m3, m4, m5⟩ := hM
  have ho : o < N := hag _ List.mem_cons_self
  have hg := wl_get (dA := dA) (ad := ad) (h := (N, T, P, V)) (i := o) ho
  rw [toE_o (h := (N, T, P, V)) hT] at hg
  have hq : ∃ q : vw_C, vwCl[ci]? = some q ∧ q.1 = M1.1.cls := by
    cases hcc : vwCl[ci]? with
    | none => rw [hcc] at hci; cases hci
    | some q => rw [hcc] at hci; exact ⟨q, rfl, Option.some.inj hci⟩
  obtain ⟨q, hq1, hq2⟩ := hq
  have hrecv := va_recv hK Y.1 hq1 hg
  rw [hq2] at hrecv
  have hlen : ∀ sig, parseMethodDescriptor M1.1.desc = some sig → n = sig.parameters.length := fun sig hsig => by
    rw [hsig] at m3
    exact (Option.some.inj m3).symm
  have hws := pay_in hts hG
  have hPv : PreV s H M1.1.cls (ad o) (va_Pc ((Value.ref o :: As).map (vl ad)) (PreB D dA ad (N, T, P, V) H.size)) (As.map (vl ad)) := ⟨preB_blind, hrecv, fun U hU hW => ⟨rfl, preB_of B Y U hU hW⟩⟩
  have hstk : (F0 m pc ls ((As.reverse ++ Value.ref o :: st).map (vl ad))).stack = (As.map (vl ad)).reverse ++ .ref (ad o) :: st.map (vl ad) := by
    show (As.reverse ++ Value.ref o :: st).map (vl ad) = _
    rw [List.map_append, List.map_reverse]
    rfl
  have hroom : 2 * (F0 m pc ls ((As.reverse ++ Value.ref o :: st).map (vl ad))).monitorRoom + ((st.map (vl ad)).map fun v => v.category).sum ≤ 8 := lv_room (by rw [cat_sum st hst']; exact hst)
  rcases hL with hl | ⟨host, hl⟩
  · exact va_runV (C := M1.1.cls) (As := As.map (vl ad)) (rest := st.map (vl ad)) ⟨hx, hb, hml, hown, hts⟩ hE' ⟨⟨rfl, rfl, hR.1, hR.2, hws, List.mem_cons_self, hts _ m4, hts _ m5, m2, hlen, hts _ hl⟩, hts _ hi, hts _ hsel⟩ hPv rfl (by rw [List.length_map]; exact hn) Y.2.2.2.2.1.1 hstk hroom hd hf
  · exact va_runVN (C := M1.1.cls) (As := As.map (vl ad)) (rest := st.map (vl ad)) ⟨hx, hb, hml, hown, hts⟩ hE' ⟨⟨⟨rfl, rfl, hR.1, hR.2, hws, List.mem_cons_self⟩, hts _ m4, hts _ m5, m2, hlen, va_Nw.use rfl (hKW.1 _ hl)⟩, hts _ hi, hts _ hsel⟩ hPv rfl (by rw [List.length_map]; exact hn) Y.2.2.2.2.1.1 hstk hroom hd hf
theorem go_callS {M M1 : MS} {pc cells slots n idx : Nat} {L : List (Option Value)} {stk st As : List Value} {h h1 : HP} {r r1 : Option Value} {h' : HP}
    (hE : Ev M1 As h r1 h1) (hs : stk = As.reverse ++ st) (hM : MOK M1 n) (hi : Cond.static M1.1 ∈ gw) (hL : LK M.1.cls idx M1.1) (hn : As.length = n) (hst : st.length ≤ 8)
    (hR : M1.2.2.2.2.1 + 1 ≤ M.2.2.2.2.1 ∧ 8 + (M1.2.2.1 + 11) + M1.2.2.2.2.2.1 ≤ M.2.2.2.2.2.1) (hf : cells + M1.2.2.2.2.2.2.1 ≤ M.2.2.2.2.2.2.1 ∧ slots + M1.2.2.2.2.2.2.2 ≤ M.2.2.2.2.2.2.2) (hd : decode M.2.1 pc = .ok (.invokestatic idx, 3))
    (kk : Go M (pc + 3) L (r1.toList ++ st) h1 (cells + M1.2.2.2.2.2.2.1) (slots + M1.2.2.2.2.2.2.2) r h') : Go M pc L stk h cells slots r h' := by
  subst hs
  refine call_k (M1 := M1) (st := st) kk ?_
  intro p l e s m args below meth c D dA ad ad0 N0 A H locs ls B Y
  have hall := Y.2.2.2.2.2.2.1
  have hst' : ∀ v ∈ st, wfv h.1 v := fun v hv => hall v (List.mem_append_right _ hv)
  have hag : ∀ v ∈ As, wfv h.1 v := fun v hv => hall v (List.mem_append_left _ (List.mem_reverse.mpr hv))
  refine ⟨hst', (As.map (vl ad)).toArray, ?_⟩
  obtain ⟨hx, hb, hr, hml, hown, hts, hlk, hme, hK, hKW, hX, hA⟩ := id B
  have hE' := hE l D dA ad H.size Y.2.2.2.1 hag
  have hG := good_gw hM
  obtain ⟨m1, m2, m3, m4, m5⟩ := hM
  have hlen : ∀ sig, parseMethodDescriptor M1.1.desc = some sig → n = sig.parameters.length := fun sig hsig => by
    rw [hsig] at m3
    exact (Option.some.inj m3).symm
  have hws := pay_in hts hG
  have hPv : PreS s H (va_Pc (As.map (vl ad)) (PreB D dA ad h H.size)) (As.map (vl ad)) := ⟨preB_blind, fun U hU hW => ⟨rfl, preB_of B Y U hU hW⟩⟩
  have hstk : (F0 m pc ls ((As.reverse ++ st).map (vl ad))).stack = (As.map (vl ad)).reverse ++ st.map (vl ad) := by
    show (As.reverse ++ st).map (vl ad) = _
    rw [List.map_append, List.map_reverse]
  have hroom : 2 * (F0 m pc ls ((As.reverse ++ st).map (vl ad))).monitorRoom + ((st.map (vl ad)).map fun v => v.category).sum ≤ 8 := lv_room (by rw [cat_sum st hst']; exact hst)
  rcases hL with hl | ⟨host, hl⟩
  · exact va_runS (As := As.map (vl ad)) (rest := st.map (vl ad)) ⟨hx, hb, hml, hown, hts⟩ hE' ⟨⟨rfl, rfl, hR.1, hR.2, hws, List.mem_cons_self, hts _ m4, hts _ m5, m2, hlen, hts _ hl⟩, hts _ hi⟩ hPv rfl (by rw [List.length_map]; exact hn) Y.2.2.2.2.1.1 hstk hroom hd hf
  · exact va_runSN (As := As.map (vl ad)) (rest := st.map (vl ad)) ⟨hx, hb, hml, hown, hts⟩ hE' ⟨⟨⟨rfl, rfl, hR.1, hR.2, hws, List.mem_cons_self⟩, hts _ m4, hts _ m5, m2, hlen, va_Nw.use rfl (hKW.1 _ hl)⟩, hts _ hi, trivial⟩ hPv rfl (by rw [List.length_map]; exact hn) Y.2.2.2.2.1.1 hstk hroom hd hf
theorem go_callI {M M1 : MS} {pc cells slots n idx o : Nat} {L : List (Option Value)} {stk st As : List Value} {h h1 : HP} {r r1 : Option Value} {h' : HP}
    (hE : Ev M1 (.ref o :: As) h r1 h1) (hs : stk = As.reverse ++ .ref o :: st) (hM : MOK M1 n) (hret : M1.2.2.2.1 = none) (hnm : M1.1.name = "<init>") (hi : Cond.instanceMethod M1.1 ∈ gw) (hL : LK M.1.cls idx M1.1) (hn : As.length = n) (hst : st.length ≤ 8)
    (hR : M1.2.2.2.2.1 + 1 ≤ M.2.2.2.2.1 ∧ 8 + (M1.2.2.1 + 11) + M1.2.2.2.2.2.1 ≤ M.2.2.2.2.2.1) (hf : cells + M1.2.2.2.2.2.2.1 ≤ M.2.2.2.2.2.2.1 ∧ slots + M1.2.2.2.2.2.2.2 ≤ M.2.2.2.2.2.2.2) (hd : decode M.2.1 pc = .ok (.invokespecial idx, 3))
    (kk : Go M (pc + 3) L (r1.toList ++ st) h1 (cells + M1.2.2.2.2.2.2.1) (slots + M1.2.2.2.2.2.2.2) r h') : Go M pc L stk h cells slots r h' := by
  subst hs
  refine call_k (M1 := M1) (st := st) kk ?_
  intro p l e s m args below meth c D dA ad ad0 N0 A H locs ls B Y
  have hall := Y.2.2.2.2.2.2.1
  have hst' : ∀ v ∈ st, wfv h.1 v := fun v hv => hall v (List.mem_append_right _ (List.mem_cons_of_mem _ hv))
  have hag : ∀ v ∈ (Value.ref o :: As), wfv h.1 v := fun v hv => by
    rcases List.mem_cons.mp hv with rfl | hv
    · exact hall _ (List.mem_append_right _ List.mem_cons_self)
    · exact hall v (List.mem_append_left _ (List.mem_reverse.mpr hv))
  refine ⟨hst', ((Value.ref o :: As).map (vl ad)).toArray, ?_⟩
  obtain ⟨hx, hb, hr, hml, hown, hts, hlk, hme, hK, hKW, hX, hA⟩ := id B
  have hE' := hE l D dA ad H.size Y.2.2.2.1 hag
  have hG := good_gw hM
  obtain ⟨m1, m2, m3, m4, m5⟩ := hM
  rw [hret] at m4 hG hE'
  have hlen : ∀ sig, parseMethodDescriptor M1.1.desc = some sig → n = sig.parameters.length := fun sig hsig => by
    rw [hsig] at m3
    exact (Option.some.inj m3).symm
  have hws := pay_in hts hG
  have hPv : PreS s H (va_Pc ((Value.ref o :: As).map (vl ad)) (PreB D dA ad h H.size)) (.ref (ad o) :: As.map (vl ad)) := ⟨preB_blind, fun U hU hW => ⟨rfl, preB_of B Y U hU hW⟩⟩
  have hstk : (F0 m pc ls ((As.reverse ++ Value.ref o :: st).map (vl ad))).stack = (As.map (vl ad)).reverse ++ .ref (ad o) :: st.map (vl ad) := by
    show (As.reverse ++ Value.ref o :: st).map (vl ad) = _
    rw [List.map_append, List.map_reverse]
    rfl
  have hroom : 2 * (F0 m pc ls ((As.reverse ++ Value.ref o :: st).map (vl ad))).monitorRoom + ((st.map (vl ad)).map fun v => v.category).sum ≤ 8 := lv_room (by rw [cat_sum st hst']; exact hst)
  rcases hL with hl | ⟨host, hl⟩
  · exact va_runI (As := As.map (vl ad)) (rest := st.map (vl ad)) ⟨hx, hb, hml, hown, hts⟩ hE' ⟨⟨rfl, rfl, hR.1, hR.2, hws, List.mem_cons_self, hts _ m4, hts _ m5, m2, hlen, hts _ hl⟩, hnm, hts _ hi⟩ hPv rfl (by rw [List.length_map]; exact hn) Y.2.2.2.2.1.1 hstk hroom hd hf
  · exact va_runIN (As := As.map (vl ad)) (rest := st.map (vl ad)) ⟨hx, hb, hml, hown, hts⟩ hE' ⟨⟨⟨rfl, rfl, hR.1, hR.2, hws, List.mem_cons_self⟩, hts _ m4, hts _ m5, m2, hlen, va_Nw.use rfl (hKW.1 _ hl)⟩, hnm, hts _ hi⟩ hPv rfl (by rw [List.length_map]; exact hn) Y.2.2.2.2.1.1 hstk hroom hd hf
/-! the static array, System.arraycopy -/
theorem go_top {M : MS} {pc cells slots i idx : Nat} {q : Fin 4} {L : List (Option Value)} {st : List Value} {h : HP} {r : Option Value} {h' : HP} {x : Int32} (hd1 : decode M.2.1 pc = .ok (.getstatic idx, 3)) (hd2 : decode M.2.1 (pc + 3) = .ok (.iload_n q, 1)) (hd3 : decode M.2.1 (pc + 4) = .ok (.iaload, 1)) (hq : (q : Nat) = i) (hl : L[i]? = some (some (.int x))) (hin : vp_in x 10) (hlink : Cond.fieldLink M.1.cls idx "MailCore" "DRAFT_TOP" "[I" ∈ gw)
    (kk : Go M (pc + 5) L (.int (topf x.toNatClampNeg) :: st) h cells slots r h') : Go M pc L st h cells slots r h' := by
  intro p l e s m args below meth c D dA ad ad0 N0 A H locs ls B Y
  obtain ⟨hx, hb, hr, hml, hown, hts, hlk, hme, hK, hKW, ⟨t, hZ, hT⟩, hA⟩ := id B
  refine va_gets hx hb hZ Y.2.2.1 hown (hts _ hlink) (fun _ z => z) hd1 ?_
  refine lv_iload_n hx hb hd2 hq (la_at Y.2.2.2.2.1 hl) ?_
  exact va_ti hx hb hT Y.2.2.1 hin rfl hd3 (kk p l e s m args below meth c D dA ad ad0 N0 A H locs ls B (Y.pushI _))
def wcp (V : Nat → Nat → Int32) (a b sp dp n : Nat) : Nat → Nat → Int32 := fun i => if i = b then va_cpy (V a) (V b) sp dp n else V i
theorem toE_wcp {dA : Nat → ClassId} {ad : Nat → Nat} {N : Nat} {T : Nat → Nat × Nat} {P : Nat → Nat → Option Nat} {V : Nat → Nat → Int32} {a b sp dp n j : Nat} (h : j ≠ b) : toE dA ad (N, T, P, wcp V a b sp dp n) j = toE dA ad (N, T, P, V) j := by
  have e : wcp V a b sp dp n j = V j := by simp [wcp, h]
  simp only [toE, e]
theorem go_copy {M : MS} {pc cells slots idx a b na nb : Nat} {L : List (Option Value)} {st : List Value} {N : Nat} {T : Nat → Nat × Nat} {P : Nat → Nat → Option Nat} {V : Nat → Nat → Int32} {r : Option Value} {h' : HP} {sp dp n : Int32}
    (hw : Cond.methodLink M.1.cls idx arraycopyName ∈ gw ∧ Cond.native arraycopyName ∈ gw ∧ Cond.static arraycopyName ∈ gw ∧ Cond.initialized "java/lang/System" ∈ gw) (hTa : T a = (0, na)) (hTb : T b = (0, nb)) (h1 : ¬ sp < 0) (h2 : ¬ dp < 0) (h3 : ¬ n < 0) (h4 : sp.toNatClampNeg + n.toNatClampNeg ≤ na) (h5 : dp.toNatClampNeg + n.toNatClampNeg ≤ nb)
    (hst : st.length ≤ 8) (hR : 1 ≤ M.2.2.2.2.1 ∧ 8 + (nativeFrameWords "java/lang/System" "arraycopy" 5 + 11) ≤ M.2.2.2.2.2.1) (hd : decode M.2.1 pc = .ok (.invokestatic idx, 3))
    (kk : Go M (pc + 3) L st (N, T, P, wcp V a b sp.toNatClampNeg dp.toNatClampNeg n.toNatClampNeg) cells slots r h') : Go M pc L (.int n :: .int dp :: .ref b :: .int sp :: .ref a :: st) (N, T, P, V) cells slots r h' := by
  intro p l e s m args below meth c D dA ad ad0 N0 A H locs ls B Y
  have Y5 := Y.pop.pop.pop.pop.pop
  have hb : b < N := Y.pop.pop.top
  have ha : a < N := Y.pop.pop.pop.pop.top
  have hga := wl_get (dA := dA) (ad := ad) (h := (N, T, P, V)) (i := a) ha
  rw [toE_0 (h := (N, T, P, V)) hTa] at hga
  have hgb := wl_get (dA := dA) (ad := ad) (h := (N, T, P, V)) (i := b) hb
  rw [toE_0 (h := (N, T, P, V)) hTb] at hgb
  refine va_copyi B.1 B.2.1 (B.2.2.2.1.trans Y.2.2.2.2.1.1.symm) B.2.2.2.2.1 (B.2.2.2.2.2.1 _ hw.1) (B.2.2.2.2.2.1 _ hw.2.1) (B.2.2.2.2.2.1 _ hw.2.2.1) (B.2.2.2.2.2.1 _ hw.2.2.2) B.2.2.2.2.2.2.2.2.1 Y.1 Y.2.1 Y.2.2.1 a b 0 0 hga hgb rfl rfl rfl h1 h2 h3 h4 h5 (fun _ _ => rfl) hR.1 (by rw [cat_sum (N := N) st Y5.2.2.2.2.2.2.1]; exact Nat.le_trans (Nat.add_le_add_right hst _) hR.2) hd (fun H1 locs1 q1 q2 q3 => ?_)
  have e9 : (wl dA ad (N, T, P, V)).set b (ad b, .inl (dA 0, nb, .inl (va_cpy (V a) (V b) sp.toNatClampNeg dp.toNatClampNeg n.toNatClampNeg))) = wl dA ad (N, T, P, wcp V a b sp.toNatClampNeg dp.toNatClampNeg n.toNatClampNeg) := by
    have e2 : wcp V a b sp.toNatClampNeg dp.toNatClampNeg n.toNatClampNeg b = va_cpy (V a) (V b) sp.toNatClampNeg dp.toNatClampNeg n.toNatClampNeg := by simp [wcp]
    rw [← wl_set (h := (N, T, P, V)) (h' := (N, T, P, wcp V a b sp.toNatClampNeg dp.toNatClampNeg n.toNatClampNeg)) (i := b) rfl (fun j hj => toE_wcp hj), toE_0 (h := (N, T, P, wcp V a b sp.toNatClampNeg dp.toNatClampNeg n.toNatClampNeg)) hTb, ← e2]
  have q1' : va_P D vwCl ((wl dA ad (N, T, P, V)).set b (ad b, .inl (dA 0, nb, .inl (va_cpy (V a) (V b) sp.toNatClampNeg dp.toNatClampNeg n.toNatClampNeg)))) H1 := q1
  have q2' : va_D A ((wl dA ad (N, T, P, V)).set b (ad b, .inl (dA 0, nb, .inl (va_cpy (V a) (V b) sp.toNatClampNeg dp.toNatClampNeg n.toNatClampNeg)))) := q2
  rw [e9] at q1' q2'
  refine kk p l e s m args below meth c D dA ad ad0 N0 A H1 locs1 ls B (Y5.mem rfl ⟨Y.2.2.2.1.1, fun i hi => ?_⟩ q1' q2' q3)
  have e3 : i ≠ b := fun q => by subst q; exact absurd hi (by show ¬ N ≤ i; omega)
  show wcp V a b _ _ _ i = _
  rw [wcp, if_neg e3]
  exact Y.2.2.2.1.2 i hi
/-! making -/
theorem toE_new {dA : Nat → ClassId} {ad ad' : Nat → Nat} {N N' : Nat} {T : Nat → Nat × Nat} {P P' : Nat → Nat → Option Nat} {V : Nat → Nat → Int32} {i : Nat} (hP : P' i = P i) (hw : ∀ j a, P i j = some a → a < N) (he : ∀ i, i < N → ad' i = ad i) : toE dA ad' (N', T, P', V) i = toE dA ad (N, T, P, V) i := by
  have e : ∀ j, (P i j).map ad' = (P i j).map ad := fun j => by
    cases hj : P i j with
    | none => rfl
    | some a => simp [he a (hw j a hj)]
  simp only [toE, flds, hP, e]
theorem wl_push {dA : Nat → ClassId} {ad : Nat → Nat} {N : Nat} {T : Nat → Nat × Nat} {P : Nat → Nat → Option Nat} {V : Nat → Nat → Int32} {q : Nat} (hw : wfh N P V) : wl dA ad (N, T, P, V) ++ [(q, toE dA (va_up ad N q) (N + 1, T, P, V) N)] = wl dA (va_up ad N q) (N + 1, T, P, V) := by
  have he : ∀ i, i < N → va_up ad N q i = ad i := fun i hi => up_ne (by omega)
  unfold wl
  rw [show ((N + 1, T, P, V) : HP).1 = N + 1 from rfl, List.range_succ, List.map_append]
  congr 1
  · apply List.map_congr_left
    intro i hi
    have hi' : i < N := List.mem_range.mp hi
    rw [he i hi', toE_new (N := N) (N' := N + 1) (P := P) (P' := P) (V := V) rfl (fun j a hj => (hw.1 i j a hj).1) he]
  · simp [va_up_self]
theorem Dy.grow {M : MS} {D : va_G} {dA : Nat → ClassId} {ad ad' ad0 : Nat → Nat} {N0 N N' : Nat} {T : Nat → Nat × Nat} {P P' : Nat → Nat → Option Nat} {V : Nat → Nat → Int32} {s : State} {A : Nat → Prop} {H H1 : Heap} {locs locs1 : List Loc} {ls : Array Slot} {L : List (Option Value)} {st : List Value} (Y : Dy M D dA ad ad0 N0 (N, T, P, V) s A H locs ls L st) (hN : N < N') (he : ∀ i, i < N → ad' i = ad i) (hw : wfh N' P' V)
    (hP : va_P D vwCl (wl dA ad' (N', T, P', V)) H1) (hD : va_D A (wl dA ad' (N', T, P', V))) (hS : va_S A s.heap H1 locs1) : Dy M D dA ad' ad0 N0 (N', T, P', V) s A H1 locs1 ls L (.ref N :: st) ∧ (Value.ref (ad' N) :: st.map (vl ad)) = (Value.ref N :: st).map (vl ad') := by
  have hst := Y.2.2.2.2.2.2.1
  refine ⟨⟨hP, hD, hS, hw, ?_, fun j w hj => wfv_le (Nat.le_of_lt hN) (Y.2.2.2.2.2.1 j w hj), fun v hv => ?_, Nat.le_trans Y.2.2.2.2.2.2.2.1 (Nat.le_of_lt hN), fun i hi => (he i (Nat.lt_of_lt_of_le hi Y.2.2.2.2.2.2.2.1)).trans (Y.2.2.2.2.2.2.2.2 i hi)⟩, ?_⟩
  · rw [la_ad he L 0 Y.2.2.2.2.2.1]; exact Y.2.2.2.2.1
  · rcases List.mem_cons.mp hv with rfl | hv
    · exact hN
    · exact wfv_le (Nat.le_of_lt hN) (hst v hv)
  · rw [List.map_cons, map_ad he hst]
    rfl
theorem wfh_1 {N : Nat} {P : Nat → Nat → Option Nat} {V : Nat → Nat → Int32} (h : wfh N P V) : wfh (N + 1) P V :=
  ⟨fun i j a hj => ⟨Nat.lt_succ_of_lt (h.1 i j a hj).1, Nat.lt_succ_of_lt (h.1 i j a hj).2⟩, fun i hi => h.2 i (by omega)⟩
theorem wfh_P {N i : Nat} {P : Nat → Nat → Option Nat} {V : Nat → Nat → Int32} (h : wfh N P V) (hi : N ≤ i) (j : Nat) : P i j = none := by
  cases hj : P i j with
  | none => rfl
  | some a => exact absurd (h.1 i j a hj).2 (by omega)
theorem go_newa {M : MS} {pc cells slots n : Nat} {L : List (Option Value)} {st : List Value} {N : Nat} {T : Nat → Nat × Nat} {P : Nat → Nat → Option Nat} {V : Nat → Nat → Int32} {r : Option Value} {h' : HP} {x : Int32} (hw : Cond.arrayClass .int ∈ gw) (h0 : ¬ x < 0) (hn : x.toNatClampNeg = n) (hT : T N = (0, n)) (hb : n * 4 ≤ 536870912) (hf : cells + 1 ≤ M.2.2.2.2.2.2.1 ∧ slots + n ≤ M.2.2.2.2.2.2.2) (hd : decode M.2.1 pc = .ok (.newarray .int, 2))
    (kk : Go M (pc + 2) L (.ref N :: st) (N + 1, T, P, V) (cells + 1) (slots + n) r h') : Go M pc L (.int x :: st) (N, T, P, V) cells slots r h' := by
  intro p l e s m args below meth c D dA ad ad0 N0 A H locs ls B Y
  have hK := B.2.2.2.2.2.2.2.2.1
  have hA : ∀ q, s.heap.size ≤ q → A q := B.2.2.2.2.2.2.2.2.2.2.2
  have hV : V N = fun _ => 0 := Y.2.2.2.1.2 N (Nat.le_refl N)
  refine va_newa (atype := .int) (a0 := (n, .inl (V N))) B.1 B.2.1 (B.2.2.2.2.2.1 _ hw) rfl hK Y.1 Y.2.1 Y.2.2.1 hA (fun cA => by rw [hV]; rfl) h0 hn hb hf.1 hf.2 hd (fun q cA H1 g1 g2 g3 g4 => ?_)
  have ec : cA = dA 0 := by
    have z1 := (g1.2 5 (cA, .int) rfl).2
    have z2 := (hK.2 0 (dA 0, .int) rfl).2
    exact Option.some.inj (Eq.trans (Eq.symm z1) z2)
  subst ec
  have et : toE dA (va_up ad N q) (N + 1, T, P, V) N = .inl (dA 0, n, .inl (V N)) := toE_0 (h := (N + 1, T, P, V)) hT
  rw [← et, wl_push Y.2.2.2.1] at g2 g3
  obtain ⟨y1, y2⟩ := Y.pop.grow (Nat.lt_succ_self N) (fun i hi => up_ne (by omega)) (wfh_1 Y.2.2.2.1) g2 g3 g4
  rw [va_up_self] at y2
  rw [show (List.map (vl ad) st) = st.map (vl ad) from rfl, y2]
  exact kk p l e s m args below meth c D dA (va_up ad N q) ad0 N0 A H1 locs ls B y1
theorem go_newz {M : MS} {pc cells slots n : Nat} {L : List (Option Value)} {st : List Value} {N : Nat} {T : Nat → Nat × Nat} {P : Nat → Nat → Option Nat} {V : Nat → Nat → Int32} {r : Option Value} {h' : HP} {x : Int32} (hw : Cond.arrayClass .boolean ∈ gw) (h0 : ¬ x < 0) (hn : x.toNatClampNeg = n) (hT : T N = (1, n)) (hb : n * 1 ≤ 536870912) (hf : cells + 1 ≤ M.2.2.2.2.2.2.1 ∧ slots + n ≤ M.2.2.2.2.2.2.2) (hd : decode M.2.1 pc = .ok (.newarray .boolean, 2))
    (kk : Go M (pc + 2) L (.ref N :: st) (N + 1, T, P, V) (cells + 1) (slots + n) r h') : Go M pc L (.int x :: st) (N, T, P, V) cells slots r h' := by
  intro p l e s m args below meth c D dA ad ad0 N0 A H locs ls B Y
  have hK := B.2.2.2.2.2.2.2.2.1
  have hA : ∀ q, s.heap.size ≤ q → A q := B.2.2.2.2.2.2.2.2.2.2.2
  have hV : V N = fun _ => 0 := Y.2.2.2.1.2 N (Nat.le_refl N)
  refine va_newa (atype := .boolean) (a0 := (n, .inl (V N))) B.1 B.2.1 (B.2.2.2.2.2.1 _ hw) rfl hK Y.1 Y.2.1 Y.2.2.1 hA (fun cA => by rw [hV]; rfl) h0 hn hb hf.1 hf.2 hd (fun q cA H1 g1 g2 g3 g4 => ?_)
  have ec : cA = dA 1 := by
    have z1 := (g1.2 5 (cA, .boolean) rfl).2
    have z2 := (hK.2 1 (dA 1, .boolean) rfl).2
    exact Option.some.inj (Eq.trans (Eq.symm z1) z2)
  subst ec
  have et : toE dA (va_up ad N q) (N + 1, T, P, V) N = .inl (dA 1, n, .inl (V N)) := toE_1 (h := (N + 1, T, P, V)) hT
  rw [← et, wl_push Y.2.2.2.1] at g2 g3
  obtain ⟨y1, y2⟩ := Y.pop.grow (Nat.lt_succ_self N) (fun i hi => up_ne (by omega)) (wfh_1 Y.2.2.2.1) g2 g3 g4
  rw [va_up_self] at y2
  rw [show (List.map (vl ad) st) = st.map (vl ad) from rfl, y2]
  exact kk p l e s m args below meth c D dA (va_up ad N q) ad0 N0 A H1 locs ls B y1
theorem go_newq {M : MS} {pc cells slots n idx t : Nat} {C : String} {L : List (Option Value)} {st : List Value} {N : Nat} {T : Nat → Nat × Nat} {P : Nat → Nat → Option Nat} {V : Nat → Nat → Int32} {r : Option Value} {h' : HP} {x : Int32} (hw : Cond.classLink M.1.cls idx C ∈ gw) (ht : t = 3 ∧ C = "MailCore$Call" ∨ t = 4 ∧ C = "MailCore$Outcome") (h0 : ¬ x < 0) (hn : x.toNatClampNeg = n) (hT : T N = (t, n)) (hb : n * 4 ≤ 536870912) (hf : cells + 1 ≤ M.2.2.2.2.2.2.1 ∧ slots + n ≤ M.2.2.2.2.2.2.2) (hd : decode M.2.1 pc = .ok (.anewarray idx, 3))
    (kk : Go M (pc + 3) L (.ref N :: st) (N + 1, T, P, V) (cells + 1) (slots + n) r h') : Go M pc L (.int x :: st) (N, T, P, V) cells slots r h' := by
  intro p l e s m args below meth c D dA ad ad0 N0 A H locs ls B Y
  have hK := B.2.2.2.2.2.2.2.2.1
  have hA : ∀ q, s.heap.size ≤ q → A q := B.2.2.2.2.2.2.2.2.2.2.2
  have hao : va_AO C s := by
    have hKW := B.2.2.2.2.2.2.2.2.2.1
    rcases ht with ⟨-, rfl⟩ | ⟨-, rfl⟩
    · exact hKW.2.1
    · exact hKW.2.2.1
  refine va_newq B.1 B.2.1 B.2.2.2.2.1 (B.2.2.2.2.2.1 _ hw) hao hK Y.1 Y.2.1 Y.2.2.1 hA h0 hn hb hf.1 hf.2 hd (fun q cA H1 g1 g2 g3 g4 => ?_)
  have ec : cA = dA t := by
    obtain ⟨-, -, -, -, -, z1⟩ := (g1.2 5 (cA, .object C) rfl).2
    rcases ht with ⟨rfl, rfl⟩ | ⟨rfl, rfl⟩
    · obtain ⟨-, -, -, -, -, z2⟩ := (hK.2 3 (dA 3, .object "MailCore$Call") rfl).2
      exact Option.some.inj (Eq.trans (Eq.symm z1) z2)
    · obtain ⟨-, -, -, -, -, z2⟩ := (hK.2 4 (dA 4, .object "MailCore$Outcome") rfl).2
      exact Option.some.inj (Eq.trans (Eq.symm z1) z2)
  subst ec
  have hw0 : wfh N P V := Y.2.2.2.1
  have hPn : (fun j => (P N j).map (va_up ad N q)) = fun _ => none := by
    funext j
    rw [wfh_P hw0 (Nat.le_refl N)]
    rfl
  have et : toE dA (va_up ad N q) (N + 1, T, P, V) N = .inl (dA t, n, .inr (.inr (.inr (.inr (fun _ => none))))) := by
    rw [toE_q (h := (N + 1, T, P, V)) (by omega) hT]
    show (Sum.inl (dA t, n, Sum.inr (Sum.inr (Sum.inr (Sum.inr (fun j => (P N j).map (va_up ad N q)))))) : va_E) = _
    rw [hPn]
  rw [← et, wl_push Y.2.2.2.1] at g2 g3
  obtain ⟨y1, y2⟩ := Y.pop.grow (Nat.lt_succ_self N) (fun i hi => up_ne (by omega)) (wfh_1 Y.2.2.2.1) g2 g3 g4
  rw [va_up_self] at y2
  rw [show (List.map (vl ad) st) = st.map (vl ad) from rfl, y2]
  exact kk p l e s m args below meth c D dA (va_up ad N q) ad0 N0 A H1 locs ls B y1
/-- a class that can be made, by its number -/
def NL (own : String) (idx ci : Nat) : Prop := ∃ (C : String) (TT : u_T) (ty : Nat → FieldType) (NN : Nat), vwCl[ci]? = some (C, TT, NN) ∧ fN ci = NN ∧ (∀ w ∈ u_ws C TT NN, w ∈ gw) ∧ (∀ k, k < NN → parseFieldDescriptor (TT k).2.2.1 = some (ty k)) ∧ (∀ k, k < NN → defaultValue (ty k) = if fK ci k = 2 then .null else .int 0) ∧ Cond.classLink own idx C ∈ gw ∧ Cond.instantiable C NN ∈ gw ∧ Cond.initialized C ∈ gw
theorem go_new {M : MS} {pc cells slots idx ci n : Nat} {L : List (Option Value)} {st : List Value} {N : Nat} {T : Nat → Nat × Nat} {P : Nat → Nat → Option Nat} {V : Nat → Nat → Int32} {r : Option Value} {h' : HP} (hN : NL M.1.cls idx ci) (hT : T N = (ci + 5, n)) (hf : cells + 1 ≤ M.2.2.2.2.2.2.1 ∧ slots + fN ci ≤ M.2.2.2.2.2.2.2) (hd : decode M.2.1 pc = .ok (.new idx, 3))
    (kk : Go M (pc + 3) L (.ref N :: st) (N + 1, T, P, V) (cells + 1) (slots + fN ci) r h') : Go M pc L st (N, T, P, V) cells slots r h' := by
  intro p l e s m args below meth c D dA ad ad0 N0 A H locs ls B Y
  have hK := B.2.2.2.2.2.2.2.2.1
  have hts := B.2.2.2.2.2.1
  have hA : ∀ q, s.heap.size ≤ q → A q := B.2.2.2.2.2.2.2.2.2.2.2
  obtain ⟨C, TT, ty, NN, hc, hNN, hin, hty, hdv, w1, w2, w3⟩ := hN
  have hw0 : wfh N P V := Y.2.2.2.1
  have hV : V N = fun _ => 0 := hw0.2 N (Nat.le_refl N)
  have hfs : ∀ (q j : Nat), j < NN → defaultValue (ty j) = vp_V (flds (va_up ad N q) ci (P N) (V N)) j := by
    intro q j hj
    have := flds_get (ad := va_up ad N q) (c := ci) (p := P N) (v := V N) (k := j) (by rw [hNN]; exact hj)
    rw [vp_V, List.getD_eq_getElem?_getD, this, hdv j hj, hV, wfh_P hw0 (Nat.le_refl N)]
    split <;> rfl
  subst hNN
  have hfs0 : ∀ j, j < fN ci → defaultValue (ty j) = vp_V (flds (va_up ad N 0) ci (P N) (V N)) j := hfs 0
  refine va_new (fs := flds (va_up ad N 0) ci (P N) (V N)) B.1 B.2.1 hts hin ty hty B.2.2.2.2.1 (hts _ w1) (hts _ w2) (hts _ w3) hK Y.1 Y.2.1 Y.2.2.1 hA hc hfs0 hf.1 hf.2 hd (fun q H1 g2 g3 g4 => ?_)
  have et : toE dA (va_up ad N q) (N + 1, T, P, V) N = .inr (ci, flds (va_up ad N 0) ci (P N) (V N)) := by
    rw [toE_o (h := (N + 1, T, P, V)) hT]
    show (Sum.inr (ci, flds (va_up ad N q) ci (P N) (V N)) : va_E) = _
    have e2 : ∀ q2 : Nat, flds (va_up ad N q2) ci (P N) (V N) = (List.range (fN ci)).map (fun k => if fK ci k = 2 then Value.null else .int (V N k)) := by
      intro q2
      unfold flds
      apply List.map_congr_left
      intro k _
      rw [wfh_P hw0 (Nat.le_refl N)]
      rfl
    rw [e2, e2]
  rw [← et, wl_push Y.2.2.2.1] at g2 g3
  obtain ⟨y1, y2⟩ := Y.grow (Nat.lt_succ_self N) (fun i hi => up_ne (by omega)) (wfh_1 Y.2.2.2.1) g2 g3 g4
  rw [va_up_self] at y2
  rw [show (List.map (vl ad) st) = st.map (vl ad) from rfl, y2]
  exact kk p l e s m args below meth c D dA (va_up ad N q) ad0 N0 A H1 locs ls B y1
theorem go_objInit {M : MS} {pc cells slots idx o : Nat} {L : List (Option Value)} {st : List Value} {h : HP} {r : Option Value} {h' : HP} (hw : Cond.methodLink M.1.cls idx objectInit ∈ gw ∧ Cond.instanceMethod objectInit ∈ gw ∧ Cond.code objectInit ⟨#[0xb1]⟩ 1 none ∈ gw) (hst : st = []) (hR : 1 ≤ M.2.2.2.2.1 ∧ 12 ≤ M.2.2.2.2.2.1) (hd : decode M.2.1 pc = .ok (.invokespecial idx, 3))
    (kk : Go M (pc + 3) L st h cells slots r h') : Go M pc L (.ref o :: st) h cells slots r h' := by
  subst hst
  intro p l e s m args below meth c D dA ad ad0 N0 A H locs ls B Y
  refine W.objInit B.1 B.2.1 B.2.2.2.2.1 (B.2.2.2.2.2.1 _ hw.1) (B.2.2.2.2.2.1 _ hw.2.1) (B.2.2.2.2.2.1 _ hw.2.2) rfl (by rw [B.2.2.2.1]; exact Y.2.2.2.2.1.1) rfl hd ?_ ?_ ?_
  · exact hR.1
  · exact hR.2
  · exact kk p l e s m args below meth c D dA ad ad0 N0 A H locs ls B Y.pop
