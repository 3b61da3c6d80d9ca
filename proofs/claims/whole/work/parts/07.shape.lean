/-! the two worlds: their cells by number -/
abbrev Mm : Type := Nat → Nat → Int32
def TC (i : Nat) : Nat × Nat :=
  if i < 4 then (if i = 0 then (10, 13) else if i = 1 then (0, 10) else if i = 2 then (3, 12) else (4, 12))
  else if i < 76 then (if (i - 4) % 24 = 0 then (7, 8) else if (i - 4) % 24 = 1 then (2, 10) else if (i - 4) % 24 = 12 then (2, 10) else (0, 50))
  else if i < 89 then (if i = 76 then (8, 5) else if i = 77 then (2, 4) else if i < 82 then (0, 60) else if i = 82 then (0, 3) else if i = 83 then (0, 50) else if i = 84 then (6, 4) else if i < 88 then (0, 20) else (0, 50))
  else (if (i - 89) % 9 = 0 then (5, 12) else if (i - 89) % 9 = 1 then (0, 10) else if (i - 89) % 9 = 2 then (9, 3) else if (i - 89) % 9 = 3 then (2, 4) else if (i - 89) % 9 = 8 then (0, 4) else (0, 50))
def PC (i j : Nat) : Option Nat :=
  if i < 4 then (if i = 0 then (if j = 0 then some 1 else if j = 1 then some 2 else if j = 2 then some 3 else if j = 3 then some 4 else if j = 4 then some 28 else if j = 5 then some 52 else if j = 6 then some 76 else if j = 7 then some 84 else if j = 8 then some 88 else none)
    else if i = 1 then none else if i = 2 then (if j < 12 then some (89 + 9 * j) else none) else (if j < 12 then some (91 + 9 * j) else none))
  else if i < 76 then (if (i - 4) % 24 = 0 then (if j = 0 then some (i + 1) else if j = 1 then some (i + 12) else if j = 2 then some (i + 23) else none) else if (i - 4) % 24 = 1 ∨ (i - 4) % 24 = 12 then (if j < 10 then some (i + 1 + j) else none) else none)
  else if i < 89 then (if i = 76 then (if j = 0 then some 77 else if j = 1 then some 82 else if j = 2 then some 83 else none) else if i = 77 then (if j < 4 then some (78 + j) else none) else if i = 84 then (if j = 0 then some 85 else if j = 1 then some 86 else if j = 2 then some 87 else none) else none)
  else if i < 197 then (if (i - 89) % 9 = 0 then (if j = 0 then some (i + 1) else none) else if (i - 89) % 9 = 2 then (if j = 0 then some (i + 1) else if j = 1 then some (i + 6) else none) else if (i - 89) % 9 = 3 then (if j < 4 then some (i + 1 + j) else none) else none)
  else none
def TM (i : Nat) : Nat × Nat :=
  if i < 8 then (if i = 0 then (11, 29) else if i < 4 then (0, 586) else if i = 4 then (0, 10) else if i = 5 then (0, 12) else if i = 6 then (0, 60) else (0, 120))
  else if i < 16 then (if i = 8 then (0, 12) else if i = 9 then (0, 48) else if i = 10 then (0, 2400) else if i < 15 then (0, 60) else (0, 3))
  else (if i < 18 then (0, 50) else if i = 18 then (0, 244) else if i < 22 then (0, 20) else (1, 20))
def PM (i j : Nat) : Option Nat :=
  if i = 0 then (if j < 4 then some (j + 1) else if j < 8 then (if j = 4 then none else some j) else if j < 13 then (if j < 10 then none else some (j - 2)) else if j < 20 then (if j = 13 then none else some (j - 3)) else if j = 22 then some 17 else if j = 23 then some 18 else if j < 24 then none else if j = 24 then none else if j < 29 then some (j - 6) else none) else none
abbrev hC (V : Mm) : HP := (197, TC, PC, V)
abbrev hM (V : Mm) : HP := (23, TM, PM, V)
def isK (o : Nat) : Prop := o = 4 ∨ o = 28 ∨ o = 52
def isCall (o : Nat) : Prop := ∃ k, k < 12 ∧ o = 89 + 9 * k
def isOut (o : Nat) : Prop := ∃ k, k < 12 ∧ o = 91 + 9 * k
def isW (o : Nat) : Prop := o = 1 ∨ o = 2 ∨ o = 3
theorem K_T {o : Nat} (h : isK o) : TC o = (2 + 5, 8) := by rcases h with rfl | rfl | rfl <;> rfl
theorem K_0 {o : Nat} (h : isK o) : PC o 0 = some (o + 1) := by rcases h with rfl | rfl | rfl <;> rfl
theorem K_1 {o : Nat} (h : isK o) : PC o 1 = some (o + 12) := by rcases h with rfl | rfl | rfl <;> rfl
theorem K_2 {o : Nat} (h : isK o) : PC o 2 = some (o + 23) := by rcases h with rfl | rfl | rfl <;> rfl
theorem K_T0 {o : Nat} (h : isK o) : TC (o + 1) = (2, 10) := by rcases h with rfl | rfl | rfl <;> rfl
theorem K_T1 {o : Nat} (h : isK o) : TC (o + 12) = (2, 10) := by rcases h with rfl | rfl | rfl <;> rfl
theorem K_T2 {o : Nat} (h : isK o) : TC (o + 23) = (0, 50) := by rcases h with rfl | rfl | rfl <;> rfl
theorem K_r0 {o : Nat} (h : isK o) {j : Nat} (hj : j < 10) : PC (o + 1) j = some (o + 2 + j) := by
  have H : ∀ o', o' = 4 ∨ o' = 28 ∨ o' = 52 → ∀ j, j < 10 → PC (o' + 1) j = some (o' + 2 + j) := by
    intro o' h'; rcases h' with rfl | rfl | rfl <;> decide
  exact H o h j hj
theorem K_r1 {o : Nat} (h : isK o) {j : Nat} (hj : j < 10) : PC (o + 12) j = some (o + 13 + j) := by
  have H : ∀ o', o' = 4 ∨ o' = 28 ∨ o' = 52 → ∀ j, j < 10 → PC (o' + 12) j = some (o' + 13 + j) := by
    intro o' h'; rcases h' with rfl | rfl | rfl <;> decide
  exact H o h j hj
theorem K_Tr0 {o : Nat} (h : isK o) {j : Nat} (hj : j < 10) : TC (o + 2 + j) = (0, 50) := by
  have H : ∀ o', o' = 4 ∨ o' = 28 ∨ o' = 52 → ∀ j, j < 10 → TC (o' + 2 + j) = (0, 50) := by
    intro o' h'; rcases h' with rfl | rfl | rfl <;> decide
  exact H o h j hj
theorem K_Tr1 {o : Nat} (h : isK o) {j : Nat} (hj : j < 10) : TC (o + 13 + j) = (0, 50) := by
  have H : ∀ o', o' = 4 ∨ o' = 28 ∨ o' = 52 → ∀ j, j < 10 → TC (o' + 13 + j) = (0, 50) := by
    intro o' h'; rcases h' with rfl | rfl | rfl <;> decide
  exact H o h j hj
theorem isK_4 : isK 4 := Or.inl rfl
theorem isK_28 : isK 28 := Or.inr (Or.inl rfl)
theorem isK_52 : isK 52 := Or.inr (Or.inr rfl)
theorem isW_1 : isW 1 := Or.inl rfl
theorem isW_2 : isW 2 := Or.inr (Or.inl rfl)
theorem isW_3 : isW 3 := Or.inr (Or.inr rfl)
theorem W_T {o : Nat} (h : isW o) : TM o = (0, 586) := by rcases h with rfl | rfl | rfl <;> rfl
theorem isCall_of {j : Nat} (hj : j < 12) : isCall (89 + 9 * j) := ⟨j, hj, rfl⟩
theorem isOut_of {j : Nat} (hj : j < 12) : isOut (91 + 9 * j) := ⟨j, hj, rfl⟩
theorem C_P {j : Nat} (hj : j < 12) : PC 2 j = some (89 + 9 * j) := by
  have H : ∀ j, j < 12 → PC 2 j = some (89 + 9 * j) := by decide
  exact H j hj
theorem O_P {j : Nat} (hj : j < 12) : PC 3 j = some (91 + 9 * j) := by
  have H : ∀ j, j < 12 → PC 3 j = some (91 + 9 * j) := by decide
  exact H j hj
theorem C_T {o : Nat} (h : isCall o) : TC o = (0 + 5, 12) := by
  obtain ⟨k, hk, rfl⟩ := h
  have H : ∀ k, k < 12 → TC (89 + 9 * k) = (0 + 5, 12) := by decide
  exact H k hk
theorem C_0 {o : Nat} (h : isCall o) : PC o 0 = some (o + 1) := by
  obtain ⟨k, hk, rfl⟩ := h
  have H : ∀ k, k < 12 → PC (89 + 9 * k) 0 = some (89 + 9 * k + 1) := by decide
  exact H k hk
theorem C_T0 {o : Nat} (h : isCall o) : TC (o + 1) = (0, 10) := by
  obtain ⟨k, hk, rfl⟩ := h
  have H : ∀ k, k < 12 → TC (89 + 9 * k + 1) = (0, 10) := by decide
  exact H k hk
theorem O_T {o : Nat} (h : isOut o) : TC o = (4 + 5, 3) := by
  obtain ⟨k, hk, rfl⟩ := h
  have H : ∀ k, k < 12 → TC (91 + 9 * k) = (4 + 5, 3) := by decide
  exact H k hk
theorem O_0 {o : Nat} (h : isOut o) : PC o 0 = some (o + 1) := by
  obtain ⟨k, hk, rfl⟩ := h
  have H : ∀ k, k < 12 → PC (91 + 9 * k) 0 = some (91 + 9 * k + 1) := by decide
  exact H k hk
theorem O_1 {o : Nat} (h : isOut o) : PC o 1 = some (o + 6) := by
  obtain ⟨k, hk, rfl⟩ := h
  have H : ∀ k, k < 12 → PC (91 + 9 * k) 1 = some (91 + 9 * k + 6) := by decide
  exact H k hk
theorem O_T0 {o : Nat} (h : isOut o) : TC (o + 1) = (2, 4) := by
  obtain ⟨k, hk, rfl⟩ := h
  have H : ∀ k, k < 12 → TC (91 + 9 * k + 1) = (2, 4) := by decide
  exact H k hk
theorem O_T1 {o : Nat} (h : isOut o) : TC (o + 6) = (0, 4) := by
  obtain ⟨k, hk, rfl⟩ := h
  have H : ∀ k, k < 12 → TC (91 + 9 * k + 6) = (0, 4) := by decide
  exact H k hk
theorem O_r {o : Nat} (h : isOut o) {j : Nat} (hj : j < 4) : PC (o + 1) j = some (o + 2 + j) := by
  obtain ⟨k, hk, rfl⟩ := h
  have H : ∀ k, k < 12 → ∀ j, j < 4 → PC (91 + 9 * k + 1) j = some (91 + 9 * k + 2 + j) := by decide
  exact H k hk j hj
theorem O_Tr {o : Nat} (h : isOut o) {j : Nat} (hj : j < 4) : TC (o + 2 + j) = (0, 50) := by
  obtain ⟨k, hk, rfl⟩ := h
  have H : ∀ k, k < 12 → ∀ j, j < 4 → TC (91 + 9 * k + 2 + j) = (0, 50) := by decide
  exact H k hk j hj
theorem G_r {j : Nat} (hj : j < 4) : PC 77 j = some (78 + j) := by
  have H : ∀ j, j < 4 → PC 77 j = some (78 + j) := by decide
  exact H j hj
theorem G_Tr {j : Nat} (hj : j < 4) : TC (78 + j) = (0, 60) := by
  have H : ∀ j, j < 4 → TC (78 + j) = (0, 60) := by decide
  exact H j hj
/-! out of an extracted function's answer -/
theorem ifp {c : Prop} {_i : Decidable c} {α : Type} {a b r : α} (h : (if c then a else b) = r) (hc : c) : a = r := by rw [if_pos hc] at h; exact h
theorem ifn {c : Prop} {_i : Decidable c} {α : Type} {a b r : α} (h : (if c then a else b) = r) (hc : ¬ c) : b = r := by rw [if_neg hc] at h; exact h
theorem ok_not {c : Prop} {_i : Decidable c} {α : Type} {b : Option α} {r : α} (h : (if c then none else b) = some r) : ¬ c ∧ b = some r := by
  by_cases hc : c
  · rw [if_pos hc] at h; cases h
  · rw [if_neg hc] at h; exact ⟨hc, h⟩
theorem ok_if {c : Prop} {_i : Decidable c} {α : Type} {b : Option α} {r : α} (h : (if c then b else none) = some r) : c ∧ b = some r := by
  by_cases hc : c
  · rw [if_pos hc] at h; exact ⟨hc, h⟩
  · rw [if_neg hc] at h; cases h
theorem ok_bind {α β : Type} {o : Option α} {f : α → Option β} {r : β} (h : o.bind f = some r) : ∃ v, o = some v ∧ f v = some r := by
  cases o with
  | none => cases h
  | some v => exact ⟨v, rfl, h⟩
theorem vlt {i : Int32} {n : Nat} (h : ¬ (i < 0 ∨ n ≤ i.toNatClampNeg)) : i.toNatClampNeg < n := Nat.not_le.mp fun q => h (Or.inr q)
theorem vin {i : Int32} {n : Nat} (h : ¬ (i < 0 ∨ n ≤ i.toNatClampNeg)) : vp_in i n := h
theorem nti {x k : Int32} {K : Int} (h : ¬ x = k) (hk : k.toInt = K) : x.toInt ≠ K := fun q => h (Int32.toInt_inj.mp (q.trans hk.symm))
def fu : Nat := 3000
theorem go_cV {M M1 : MS} {pc n idx ci nn o : Nat} {L : List (Option Value)} {stk st st2 As : List Value} {N : Nat} {T : Nat → Nat × Nat} {P : Nat → Nat → Option Nat} {V : Nat → Nat → Int32} {h1 : HP} {r r1 : Option Value} {h' : HP}
    (hE : Ev M1 (.ref o :: As) (N, T, P, V) r1 h1) (hs : stk = As.reverse ++ .ref o :: st) (hM : MOK M1 n) (hi : Cond.instanceMethod M1.1 ∈ gw) (hsel : Cond.selects M1.1.cls M1.1 M1.1 ∈ gw) (hL : LK M.1.cls idx M1.1) (hn : As.length = n) (hT : T o = (ci + 5, nn)) (hci : (vwCl[ci]?).map (fun q => q.1) = some M1.1.cls) (hst : st.length ≤ 8)
    (hR : M1.2.2.2.2.1 + 1 ≤ M.2.2.2.2.1 ∧ 8 + (M1.2.2.1 + 11) + M1.2.2.2.2.2.1 ≤ M.2.2.2.2.2.1) (h0 : M1.2.2.2.2.2.2.1 = 0 ∧ M1.2.2.2.2.2.2.2 = 0) (hd : decode M.2.1 pc = .ok (.invokevirtual idx, 3)) (h2 : r1.toList ++ st = st2)
    (kk : Go M (pc + 3) L st2 h1 0 0 r h') : Go M pc L stk (N, T, P, V) 0 0 r h' := by
  subst h2
  refine go_callV hE hs hM hi hsel hL hn hT hci hst hR ⟨by rw [h0.1]; exact Nat.zero_le _, by rw [h0.2]; exact Nat.zero_le _⟩ hd ?_
  rw [h0.1, h0.2]
  exact kk
theorem go_cS {M M1 : MS} {pc n idx : Nat} {L : List (Option Value)} {stk st st2 As : List Value} {h h1 : HP} {r r1 : Option Value} {h' : HP}
    (hE : Ev M1 As h r1 h1) (hs : stk = As.reverse ++ st) (hM : MOK M1 n) (hi : Cond.static M1.1 ∈ gw) (hL : LK M.1.cls idx M1.1) (hn : As.length = n) (hst : st.length ≤ 8)
    (hR : M1.2.2.2.2.1 + 1 ≤ M.2.2.2.2.1 ∧ 8 + (M1.2.2.1 + 11) + M1.2.2.2.2.2.1 ≤ M.2.2.2.2.2.1) (h0 : M1.2.2.2.2.2.2.1 = 0 ∧ M1.2.2.2.2.2.2.2 = 0) (hd : decode M.2.1 pc = .ok (.invokestatic idx, 3)) (h2 : r1.toList ++ st = st2)
    (kk : Go M (pc + 3) L st2 h1 0 0 r h') : Go M pc L stk h 0 0 r h' := by
  subst h2
  refine go_callS hE hs hM hi hL hn hst hR ⟨by rw [h0.1]; exact Nat.zero_le _, by rw [h0.2]; exact Nat.zero_le _⟩ hd ?_
  rw [h0.1, h0.2]
  exact kk
theorem go_gI {M : MS} {pc cells slots : Nat} {L : List (Option Value)} {st : List Value} {N : Nat} {T : Nat → Nat × Nat} {P : Nat → Nat → Option Nat} {V : Nat → Nat → Int32} {r : Option Value} {h' : HP} {o ci k idx n : Nat} {v : Int32} (hF : FL M.1.cls idx ci k) (hk : fK ci k ≠ 2) (hT : T o = (ci + 5, n)) (hd : decode M.2.1 pc = .ok (.getfield idx, 3)) (hv : V o k = v)
    (kk : Go M (pc + 3) L (.int v :: st) (N, T, P, V) cells slots r h') : Go M pc L (.ref o :: st) (N, T, P, V) cells slots r h' := by
  subst hv
  exact go_getI hF hk hT hd kk
theorem go_ia {M : MS} {pc cells slots : Nat} {L : List (Option Value)} {st : List Value} {N : Nat} {T : Nat → Nat × Nat} {P : Nat → Nat → Option Nat} {V : Nat → Nat → Int32} {r : Option Value} {h' : HP} {o n : Nat} {i v : Int32} (hT : T o = (0, n)) (hi : vp_in i n) (hd : decode M.2.1 pc = .ok (.iaload, 1)) (hv : V o i.toNatClampNeg = v)
    (kk : Go M (pc + 1) L (.int v :: st) (N, T, P, V) cells slots r h') : Go M pc L (.int i :: .ref o :: st) (N, T, P, V) cells slots r h' := by
  subst hv
  exact go_iald hT hi hd kk
theorem go_za {M : MS} {pc cells slots : Nat} {L : List (Option Value)} {st : List Value} {N : Nat} {T : Nat → Nat × Nat} {P : Nat → Nat → Option Nat} {V : Nat → Nat → Int32} {r : Option Value} {h' : HP} {o n : Nat} {i v : Int32} (hT : T o = (1, n)) (hi : vp_in i n) (hd : decode M.2.1 pc = .ok (.baload, 1)) (hv : V o i.toNatClampNeg = v)
    (kk : Go M (pc + 1) L (.int v :: st) (N, T, P, V) cells slots r h') : Go M pc L (.int i :: .ref o :: st) (N, T, P, V) cells slots r h' := by
  subst hv
  exact go_zald hT hi hd kk
