def fN (c : Nat) : Nat := match c with
  | 0 => 12
  | 1 => 4
  | 2 => 8
  | 3 => 5
  | 4 => 3
  | 5 => 13
  | _ => 29
def fK (c k : Nat) : Nat := match c with
  | 0 => (match k with
    | 0 => 2
    | 1 => 0
    | 2 => 0
    | 3 => 0
    | 4 => 0
    | 5 => 0
    | 6 => 0
    | 7 => 0
    | 8 => 0
    | 9 => 0
    | 10 => 0
    | _ => 0)
  | 1 => (match k with
    | 0 => 2
    | 1 => 2
    | 2 => 2
    | _ => 0)
  | 2 => (match k with
    | 0 => 2
    | 1 => 2
    | 2 => 2
    | 3 => 0
    | 4 => 0
    | 5 => 0
    | 6 => 0
    | _ => 1)
  | 3 => (match k with
    | 0 => 2
    | 1 => 2
    | 2 => 2
    | 3 => 0
    | _ => 0)
  | 4 => (match k with
    | 0 => 2
    | 1 => 2
    | _ => 0)
  | 5 => (match k with
    | 0 => 2
    | 1 => 2
    | 2 => 2
    | 3 => 2
    | 4 => 2
    | 5 => 2
    | 6 => 2
    | 7 => 2
    | 8 => 2
    | 9 => 0
    | 10 => 0
    | 11 => 0
    | _ => 1)
  | _ => (match k with
    | 0 => 2
    | 1 => 2
    | 2 => 2
    | 3 => 2
    | 4 => 0
    | 5 => 2
    | 6 => 2
    | 7 => 2
    | 8 => 0
    | 9 => 0
    | 10 => 2
    | 11 => 2
    | 12 => 2
    | 13 => 0
    | 14 => 2
    | 15 => 2
    | 16 => 2
    | 17 => 2
    | 18 => 2
    | 19 => 2
    | 20 => 0
    | 21 => 0
    | 22 => 2
    | 23 => 2
    | 24 => 0
    | 25 => 2
    | 26 => 2
    | 27 => 2
    | _ => 2)
def fF (c k : Nat) : Bool := match c with
  | 0 => (match k with
    | 0 => true
    | 1 => false
    | 2 => false
    | 3 => false
    | 4 => false
    | 5 => false
    | 6 => false
    | 7 => false
    | 8 => false
    | 9 => false
    | 10 => false
    | _ => false)
  | 1 => (match k with
    | 0 => true
    | 1 => true
    | 2 => true
    | _ => false)
  | 2 => (match k with
    | 0 => true
    | 1 => true
    | 2 => true
    | 3 => true
    | 4 => false
    | 5 => false
    | 6 => false
    | _ => false)
  | 3 => (match k with
    | 0 => true
    | 1 => true
    | 2 => true
    | 3 => false
    | _ => false)
  | 4 => (match k with
    | 0 => true
    | 1 => true
    | _ => false)
  | 5 => (match k with
    | 0 => true
    | 1 => true
    | 2 => true
    | 3 => true
    | 4 => true
    | 5 => true
    | 6 => true
    | 7 => true
    | 8 => true
    | 9 => false
    | 10 => false
    | 11 => false
    | _ => false)
  | _ => (match k with
    | 0 => true
    | 1 => true
    | 2 => true
    | 3 => true
    | 4 => false
    | 5 => true
    | 6 => true
    | 7 => true
    | 8 => false
    | 9 => false
    | 10 => true
    | 11 => true
    | 12 => true
    | 13 => false
    | 14 => true
    | 15 => true
    | 16 => true
    | 17 => true
    | 18 => true
    | 19 => true
    | 20 => false
    | 21 => false
    | 22 => true
    | 23 => true
    | 24 => false
    | 25 => true
    | 26 => true
    | 27 => true
    | _ => true)
/-! THE ABSTRACT MACHINE: cells by their number in order of making; V the numbers in them, P the references, T kind and length -/
abbrev HP : Type := Nat × (Nat → Nat × Nat) × (Nat → Nat → Option Nat) × (Nat → Nat → Int32)
def vl (ad : Nat → Nat) (v : Value) : Value := match v with
  | .ref a => .ref (ad a)
  | w => w
def wfv (N : Nat) (v : Value) : Prop := match v with
  | .ref a => a < N
  | .null => True
  | .int _ => True
  | _ => False
/-- a cell's entry; kinds 0 int[], 1 boolean[], 2 int[][], 3 Call[], 4 Outcome[], 5 + c an object of class c -/
def flds (ad : Nat → Nat) (c : Nat) (p : Nat → Option Nat) (v : Nat → Int32) : List Value :=
  (List.range (fN c)).map (fun k => if fK c k = 2 then va_rf ((p k).map ad) else .int (v k))
def toE (dA : Nat → ClassId) (ad : Nat → Nat) (h : HP) (i : Nat) : va_E :=
  match (h.2.1 i).1 with
  | 0 => .inl (dA 0, (h.2.1 i).2, .inl (h.2.2.2 i))
  | 1 => .inl (dA 1, (h.2.1 i).2, .inl (h.2.2.2 i))
  | 2 => .inl (dA 2, (h.2.1 i).2, .inr (.inr (.inr (.inr (fun j => (h.2.2.1 i j).map ad)))))
  | 3 => .inl (dA 3, (h.2.1 i).2, .inr (.inr (.inr (.inr (fun j => (h.2.2.1 i j).map ad)))))
  | 4 => .inl (dA 4, (h.2.1 i).2, .inr (.inr (.inr (.inr (fun j => (h.2.2.1 i j).map ad)))))
  | c + 5 => .inr (c, flds ad c (h.2.2.1 i) (h.2.2.2 i))
def wl (dA : Nat → ClassId) (ad : Nat → Nat) (h : HP) : va_W := (List.range h.1).map (fun i => (ad i, toE dA ad h i))
def tys (dA : Nat → ClassId) : List (ClassId × FieldType) := [(dA 0, .int), (dA 1, .boolean), (dA 2, .array .int), (dA 3, .object "MailCore$Call"), (dA 4, .object "MailCore$Outcome")]
def wr (V : Nat → Nat → Int32) (c k : Nat) (x : Int32) : Nat → Nat → Int32 := fun i j => if i = c then (if j = k then x else V i j) else V i j
def wp (P : Nat → Nat → Option Nat) (c k : Nat) (x : Option Nat) : Nat → Nat → Option Nat := fun i j => if i = c then (if j = k then x else P i j) else P i j
def wfh (N : Nat) (P : Nat → Nat → Option Nat) (V : Nat → Nat → Int32) : Prop := (∀ i j a, P i j = some a → a < N ∧ i < N) ∧ (∀ i, N ≤ i → V i = fun _ => 0)
theorem wl_get {dA : Nat → ClassId} {ad : Nat → Nat} {h : HP} {i : Nat} (hi : i < h.1) : (wl dA ad h)[i]? = some (ad i, toE dA ad h i) := by
  simp [wl, hi]
theorem wl_len {dA : Nat → ClassId} {ad : Nat → Nat} {h : HP} : (wl dA ad h).length = h.1 := by simp [wl]
theorem wl_set {dA : Nat → ClassId} {ad : Nat → Nat} {h h' : HP} {i : Nat} (hN : h'.1 = h.1) (hne : ∀ j, j ≠ i → toE dA ad h' j = toE dA ad h j) : (wl dA ad h).set i (ad i, toE dA ad h' i) = wl dA ad h' := by
  apply List.ext_getElem?
  intro j
  by_cases hj : j < h.1
  · by_cases e : i = j
    · subst e
      rw [List.getElem?_set_self (by rw [wl_len]; exact hj), wl_get (by rw [hN]; exact hj)]
    · rw [List.getElem?_set_ne e, wl_get hj, wl_get (by rw [hN]; exact hj), hne j (fun q => e q.symm)]
  · rw [List.getElem?_eq_none (by rw [List.length_set, wl_len]; omega), List.getElem?_eq_none (by rw [wl_len, hN]; omega)]
theorem toE_wr {dA : Nat → ClassId} {ad : Nat → Nat} {N : Nat} {T : Nat → Nat × Nat} {P : Nat → Nat → Option Nat} {V : Nat → Nat → Int32} {i k j : Nat} {x : Int32} (h : j ≠ i) : toE dA ad (N, T, P, wr V i k x) j = toE dA ad (N, T, P, V) j := by
  have e : wr V i k x j = V j := by funext q; simp [wr, h]
  simp only [toE, e]
theorem toE_wp {dA : Nat → ClassId} {ad : Nat → Nat} {N : Nat} {T : Nat → Nat × Nat} {P : Nat → Nat → Option Nat} {V : Nat → Nat → Int32} {i k j : Nat} {x : Option Nat} (h : j ≠ i) : toE dA ad (N, T, wp P i k x, V) j = toE dA ad (N, T, P, V) j := by
  have e : wp P i k x j = P j := by funext q; simp [wp, h]
  simp only [toE, e]
theorem wr_self {V : Nat → Nat → Int32} {i k : Nat} {x : Int32} : wr V i k x i = upd (V i) k x := by
  funext j
  simp [wr, upd]
theorem toE_0 {dA : Nat → ClassId} {ad : Nat → Nat} {h : HP} {i n : Nat} (hT : h.2.1 i = (0, n)) : toE dA ad h i = .inl (dA 0, n, .inl (h.2.2.2 i)) := by
  simp only [toE, hT]
theorem toE_1 {dA : Nat → ClassId} {ad : Nat → Nat} {h : HP} {i n : Nat} (hT : h.2.1 i = (1, n)) : toE dA ad h i = .inl (dA 1, n, .inl (h.2.2.2 i)) := by
  simp only [toE, hT]
theorem toE_q {dA : Nat → ClassId} {ad : Nat → Nat} {h : HP} {i n t : Nat} (ht : t = 2 ∨ t = 3 ∨ t = 4) (hT : h.2.1 i = (t, n)) : toE dA ad h i = .inl (dA t, n, .inr (.inr (.inr (.inr (fun j => (h.2.2.1 i j).map ad))))) := by
  rcases ht with rfl | rfl | rfl <;> simp only [toE, hT]
theorem toE_o {dA : Nat → ClassId} {ad : Nat → Nat} {h : HP} {i c n : Nat} (hT : h.2.1 i = (c + 5, n)) : toE dA ad h i = .inr (c, flds ad c (h.2.2.1 i) (h.2.2.2 i)) := by
  simp only [toE, hT]
theorem flds_get {ad : Nat → Nat} {c : Nat} {p : Nat → Option Nat} {v : Nat → Int32} {k : Nat} (hk : k < fN c) : (flds ad c p v)[k]? = some (if fK c k = 2 then va_rf ((p k).map ad) else .int (v k)) := by
  simp [flds, hk]
theorem flds_len {ad : Nat → Nat} {c : Nat} {p : Nat → Option Nat} {v : Nat → Int32} : (flds ad c p v).length = fN c := by simp [flds]
theorem flds_setV {ad : Nat → Nat} {c : Nat} {p : Nat → Option Nat} {v : Nat → Int32} {k : Nat} {x : Int32} (hr : fK c k ≠ 2) : (flds ad c p v).set k (.int x) = flds ad c p (upd v k x) := by
  apply List.ext_getElem?
  intro j
  by_cases hj : j < fN c
  · by_cases e : k = j
    · subst e
      rw [List.getElem?_set_self (by rw [flds_len]; exact hj), flds_get hj, if_neg hr]
      simp [upd]
    · rw [List.getElem?_set_ne e, flds_get hj, flds_get hj]
      have e' : ¬ j = k := fun q => e q.symm
      simp [upd, e']
  · rw [List.getElem?_eq_none (by rw [List.length_set, flds_len]; omega), List.getElem?_eq_none (by rw [flds_len]; omega)]
theorem flds_setP {ad : Nat → Nat} {c : Nat} {p : Nat → Option Nat} {v : Nat → Int32} {k : Nat} {x : Option Nat} (hr : fK c k = 2) : (flds ad c p v).set k (va_rf (x.map ad)) = flds ad c (fun j => if j = k then x else p j) v := by
  apply List.ext_getElem?
  intro j
  by_cases hj : j < fN c
  · by_cases e : k = j
    · subst e
      rw [List.getElem?_set_self (by rw [flds_len]; exact hj), flds_get hj, if_pos hr]
      simp
    · rw [List.getElem?_set_ne e, flds_get hj, flds_get hj]
      have e' : ¬ j = k := fun q => e q.symm
      simp [e']
  · rw [List.getElem?_eq_none (by rw [List.length_set, flds_len]; omega), List.getElem?_eq_none (by rw [flds_len]; omega)]
/-! locals -/
def la (ad : Nat → Nat) : Nat → List (Option Value) → List (Nat × Value)
  | _, [] => []
  | i, none :: t => la ad (i + 1) t
  | i, some v :: t => (i, vl ad v) :: la ad (i + 1) t
theorem la_mem {ad : Nat → Nat} {q : Nat × Value} : ∀ (L : List (Option Value)) (i : Nat), q ∈ la ad i L ↔ ∃ (j : Nat) (v : Value), L[j]? = some (some v) ∧ q = (i + j, vl ad v)
  | [], i => by simp [la]
  | none :: t, i => by
    rw [la, la_mem t (i + 1)]
    constructor
    · rintro ⟨j, v, h1, h2⟩
      exact ⟨j + 1, v, by simpa using h1, by rw [h2]; congr 1; omega⟩
    · rintro ⟨j, v, h1, h2⟩
      cases j with
      | zero => simp at h1
      | succ j => exact ⟨j, v, by simpa using h1, by rw [h2]; congr 1; omega⟩
  | some w :: t, i => by
    rw [la, List.mem_cons, la_mem t (i + 1)]
    constructor
    · rintro (h | ⟨j, v, h1, h2⟩)
      · exact ⟨0, w, by simp, h⟩
      · exact ⟨j + 1, v, by simpa using h1, by rw [h2]; congr 1; omega⟩
    · rintro ⟨j, v, h1, h2⟩
      cases j with
      | zero =>
        left
        simp at h1
        rw [h2, h1]
        rfl
      | succ j => exact Or.inr ⟨j, v, by simpa using h1, by rw [h2]; congr 1; omega⟩
theorem la_at {ad : Nat → Nat} {ls : Array Slot} {nL : Nat} {L : List (Option Value)} (h : lv_has ls nL (la ad 0 L)) {i : Nat} {v : Value} (hi : L[i]? = some (some v)) : ls[i]? = some (.val (vl ad v)) :=
  h.2.2 (i, vl ad v) ((la_mem L 0).mpr ⟨i, v, hi, by simp⟩)
theorem vl_cat {ad : Nat → Nat} {N : Nat} {v : Value} (h : wfv N v) : (vl ad v).category = 1 := by
  cases v <;> simp_all [wfv, vl, Value.category]
theorem la_store {ad : Nat → Nat} {N : Nat} {ls : Array Slot} {nL i : Nat} {L : List (Option Value)} {v : Value} (hw : ∀ (j : Nat) (w : Value), L[j]? = some (some w) → wfv N w)
    (h : lv_has ls nL ((i, vl ad v) :: (la ad 0 L).filter (fun q => !(q.1 == i) && !(q.1 + 1 == i && q.2.category == 2)))) : lv_has ls nL (la ad 0 (L.set i (some v))) := by
  refine ⟨h.1, h.2.1, fun q hq => h.2.2 q ?_⟩
  obtain ⟨j, w, h1, h2⟩ := (la_mem _ 0).mp hq
  rw [Nat.zero_add] at h2
  by_cases e : i = j
  · subst e
    by_cases hl : i < L.length
    · rw [List.getElem?_set_self hl] at h1
      cases h1
      rw [h2]
      exact List.mem_cons_self
    · rw [List.getElem?_eq_none (by rw [List.length_set]; omega)] at h1
      cases h1
  · rw [List.getElem?_set_ne e] at h1
    refine List.mem_cons_of_mem _ (List.mem_filter.mpr ⟨(la_mem _ 0).mpr ⟨j, w, h1, by rw [h2, Nat.zero_add]⟩, ?_⟩)
    have hc := vl_cat (ad := ad) (hw j w h1)
    have e' : ¬ j = i := fun q => e q.symm
    simp [h2, e', hc]
def lle (L' L : List (Option Value)) : Prop := ∀ (j : Nat) (v : Value), L'[j]? = some (some v) → L[j]? = some (some v)
theorem lle_0 {L : List (Option Value)} : lle [] L := fun j v h => by simp at h
theorem lle_n {L' L : List (Option Value)} {o : Option Value} (h : lle L' L) : lle (none :: L') (o :: L) := fun j v q => by
  cases j with
  | zero => simp at q
  | succ j => simpa using h j v (by simpa using q)
theorem lle_s {L' L : List (Option Value)} {o : Value} (h : lle L' L) : lle (some o :: L') (some o :: L) := fun j v q => by
  cases j with
  | zero => simpa using q
  | succ j => simpa using h j v (by simpa using q)
theorem la_le {ad : Nat → Nat} {ls : Array Slot} {nL : Nat} {L L' : List (Option Value)} (h : lv_has ls nL (la ad 0 L)) (hl : lle L' L) : lv_has ls nL (la ad 0 L') := by
  refine ⟨h.1, h.2.1, fun q hq => h.2.2 q ?_⟩
  obtain ⟨j, w, h1, h2⟩ := (la_mem _ 0).mp hq
  exact (la_mem _ 0).mpr ⟨j, w, hl j w h1, h2⟩
/-! words -/
def gw : List Cond := lw_tbl.filter goodWord
def isNest (w : Cond) : Bool := match w with
  | .methodLinkNest .. => true
  | .fieldLinkNest .. => true
  | _ => false
def nw : List Cond := lw_tbl.filter isNest
theorem gw_of {w : Cond} (h : w ∈ lw_tbl) (hg : goodWord w = true) : w ∈ gw := List.mem_filter.mpr ⟨h, hg⟩
theorem nw_of {w : Cond} (h : w ∈ lw_tbl) (hg : isNest w = true) : w ∈ nw := List.mem_filter.mpr ⟨h, hg⟩
def KW (U : State) : Prop := (∀ w ∈ nw, va_Nw w U) ∧ va_AO "MailCore$Call" U ∧ va_AO "MailCore$Outcome" U ∧ va_AOA .int U
theorem va_AOA.moved {u U : State} (hvm : u.vm.Alike U.vm) (h : va_AOA .int u) : va_AOA .int U := by
  have h1 := Cond.arrayOver_setVmC (args := #[]) hvm (.array .int)
  exact h1.trans h
theorem KW.warm {s U : State} (hW : s.WarmedH U.vm) (h : KW s) : KW U := by
  refine ⟨fun w hw => ?_, h.2.1.moved hW.alike, h.2.2.1.moved hW.alike, h.2.2.2.moved hW.alike⟩
  have h1 := h.1 w hw
  have h2 := (List.mem_filter.mp hw).2
  cases w with
  | methodLinkNest => exact va_Nw.warmM hW h1
  | fieldLinkNest => exact va_Nw.warmF hW h1
  | _ => cases h2
theorem KW.same {u U : State} (hvm : u.vm = U.vm) (h : KW u) : KW U := by
  have ha : u.vm.Alike U.vm := by rw [hvm]; exact Vm.Alike.refl _
  refine ⟨fun w hw => ?_, h.2.1.moved ha, h.2.2.1.moved ha, h.2.2.2.moved ha⟩
  have h1 := h.1 w hw
  have h2 := (List.mem_filter.mp hw).2
  cases w with
  | methodLinkNest => exact va_Nw.same rfl hvm h1
  | fieldLinkNest => exact va_Nw.same rfl hvm h1
  | _ => cases h2
/-! the static array -/
def topf (j : Nat) : Int32 := match j with
  | 0 => 99
  | 1 => 0
  | 2 => 9
  | 3 => 99
  | 4 => 999
  | 5 => 1000
  | 6 => 1000
  | 7 => 9999
  | 8 => 9999
  | _ => 15
def XS (A : Nat → Prop) (U : State) (H : Heap) : Prop := ∃ t : Nat, va_Z "MailCore" "DRAFT_TOP" "[I" (.ref t) A U H ∧ va_T .int t 10 (fun j => .int (topf j)) A U H
theorem XS.kept {A : Nat → Prop} {U : State} {H H1 : Heap} (h : XS A U H) (hq : ∀ a : Nat, a < H.size → ¬ A a → H1[a]? = H[a]?) : XS A U H1 := by
  obtain ⟨t, h1, h2⟩ := h
  exact ⟨t, h1.kept hq, h2.kept hq⟩
theorem XS.narrow {A B : Nat → Prop} {U : State} {H : Heap} (h : XS A U H) (hAB : ∀ q, B q → A q) : XS B U H := by
  obtain ⟨t, h1, h2⟩ := h
  exact ⟨t, h1.narrow hAB, h2.narrow hAB⟩
theorem XS.moved {A : Nat → Prop} {u U : State} {H : Heap} (hvm : u.vm.Alike U.vm) (h : XS A u H) : XS A U H := by
  obtain ⟨t, h1, h2⟩ := h
  exact ⟨t, h1.moved hvm, h2.moved hvm⟩
/-! the judgement -/
abbrev MS : Type := MethodName × ByteArray × Nat × Option FieldType × Nat × Nat × Nat × Nat
def rmOf (M : MS) : Room := { frames := M.2.2.2.2.1, cells := M.2.2.2.2.2.2.1, slots := M.2.2.2.2.2.2.2, locals := M.2.2.2.2.2.1 }
def Bd (M : MS) (p : Program) (s : State) (m : MethodId) (args : Array Value) (meth : Method) (c : Code) (D : va_G) (dA : Nat → ClassId) (A : Nat → Prop) : Prop :=
  p.tables.exec = Jvm.exec ∧ c.code = M.2.1 ∧ meth.sig.returnType = M.2.2.2.1 ∧ c.maxLocals = M.2.2.1 ∧ s.vm.findClass M.1.cls = some m.cls ∧ (∀ w ∈ gw, w.before args s = true) ∧ meth.locks = false ∧ meth.name = M.1.name ∧ va_K D vwCl (tys dA) s ∧ KW s ∧ XS A s s.heap ∧ (∀ q, s.heap.size ≤ q → A q)
def Dy (M : MS) (D : va_G) (dA : Nat → ClassId) (ad ad0 : Nat → Nat) (N0 : Nat) (h : HP) (s : State) (A : Nat → Prop) (H : Heap) (locs : List Loc) (ls : Array Slot) (L : List (Option Value)) (st : List Value) : Prop :=
  va_P D vwCl (wl dA ad h) H ∧ va_D A (wl dA ad h) ∧ va_S A s.heap H locs ∧ wfh h.1 h.2.2.1 h.2.2.2 ∧ lv_has ls M.2.2.1 (la ad 0 L) ∧ (∀ (j : Nat) (w : Value), L[j]? = some (some w) → wfv h.1 w) ∧ (∀ v ∈ st, wfv h.1 v) ∧ N0 ≤ h.1 ∧ (∀ i, i < N0 → ad i = ad0 i)
def QE (D : va_G) (dA : Nat → ClassId) (ad0 : Nat → Nat) (N0 : Nat) (A : Nat → Prop) (r : Option Value) (h' : HP) : Array Value → State → Outcome → State → Prop := fun _ st oc t =>
  (∃ ad' : Nat → Nat, oc = .returned (r.map (vl ad')) ∧ (∀ i, i < N0 → ad' i = ad0 i) ∧ N0 ≤ h'.1 ∧ va_P D vwCl (wl dA ad' h') t.heap ∧ va_D A (wl dA ad' h') ∧ wfh h'.1 h'.2.2.1 h'.2.2.2 ∧ (∀ v, r = some v → wfv h'.1 v)) ∧ va_F A st t
def Go (M : MS) (pc : Nat) (L : List (Option Value)) (st : List Value) (h : HP) (cells slots : Nat) (r : Option Value) (h' : HP) : Prop :=
  ∀ (p : Program) (l : Launch) (e : Env) (s : State) (m : MethodId) (args : Array Value) (below : List Frame) (meth : Method) (c : Code) (D : va_G) (dA : Nat → ClassId) (ad ad0 : Nat → Nat) (N0 : Nat) (A : Nat → Prop) (H : Heap) (locs : List Loc) (ls : Array Slot),
    Bd M p s m args meth c D dA A → Dy M D dA ad ad0 N0 h s A H locs ls L st →
    W p l e (rmOf M) s m args below meth c H locs cells slots (MQ below (QE D dA ad0 N0 A r h') args s M.2.2.2.2.2.2.1 M.2.2.2.2.2.2.2 A) (F0 m pc ls (st.map (vl ad)))
def PreB (D : va_G) (dA : Nat → ClassId) (ad : Nat → Nat) (h : HP) (sz : Nat) (U : State) : Prop :=
  U.heap.size = sz ∧ va_P D vwCl (wl dA ad h) U.heap ∧ va_K D vwCl (tys dA) U ∧ va_D (fun _ => True) (wl dA ad h) ∧ KW U ∧ XS (va_A (wl dA ad h) sz) U U.heap
def Ev (M : MS) (vs : List Value) (h : HP) (r : Option Value) (h' : HP) : Prop :=
  ∀ (l : Launch) (D : va_G) (dA : Nat → ClassId) (ad : Nat → Nat) (sz : Nat), wfh h.1 h.2.2.1 h.2.2.2 → (∀ v ∈ vs, wfv h.1 v) →
    Met l M.1 (.code M.1 M.2.1 M.2.2.1 M.2.2.2.1 :: gw) (rmOf M) (va_Pc (vs.map (vl ad)) (PreB D dA ad h sz)) (QE D dA ad h.1 (va_A (wl dA ad h) sz) r h') M.2.2.2.2.2.2.1 M.2.2.2.2.2.2.2 (va_A (wl dA ad h) sz)
