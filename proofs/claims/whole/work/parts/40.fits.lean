
/-! which mails fit a filter -/
theorem narB (b : Bool) : vp_nar .boolean (b2i (b = true)) = b2i (b = true) := by
  cases b <;> rfl
def fone (w K A B : Nat → Int32) (m x i : Nat) : Bool :=
  if K i = 0 then (!decide (A i < 0) && (bitsOf w m).testBit (A i).toNatClampNeg)
  else if K i = 1 then !decide (A i ≤ w (80 + 10 * m + 6))
  else if K i = 2 then !decide (w (80 + 10 * m + 6) < A i)
  else if K i = 3 then !decide (A i ≤ w (80 + 10 * m + 5))
  else if K i = 4 then !decide (w (80 + 10 * m + 5) < A i)
  else if K i = 5 then (w (80 + 10 * m + 7)).toNatClampNeg.testBit (A i).toNatClampNeg
  else if K i = 6 then decide (w (80 + 10 * m + 1) = A i)
  else if K i = 7 then decide (w (80 + 10 * m + 8) = A i)
  else if K i = 8 then (x.testBit (A i).toNatClampNeg && x.testBit (B i).toNatClampNeg)
  else if K i = 9 then (x.testBit (A i).toNatClampNeg || x.testBit (B i).toNatClampNeg)
  else !x.testBit (A i).toNatClampNeg
def fbits (w K A B : Nat → Int32) (m : Nat) : Nat → Nat
  | 0 => 0
  | i + 1 => fbits w K A B m i + (if fone w K A B m (fbits w K A B m i) i then 2 ^ i else 0)
theorem fbits_lt {w K A B : Nat → Int32} {m : Nat} : ∀ i, fbits w K A B m i < 2 ^ i := by
  intro i
  induction i with
  | zero => unfold fbits; omega
  | succ i ih =>
    unfold fbits
    have : 2 ^ (i + 1) = 2 * 2 ^ i := by rw [Nat.pow_succ]; omega
    split <;> omega
theorem or_pow {x i : Nat} (h : x < 2 ^ i) : x ||| 2 ^ i = x + 2 ^ i := by
  rw [Nat.or_comm, Nat.add_comm]
  have := Nat.two_pow_add_eq_or_of_lt h 1
  rw [Nat.mul_one] at this
  exact this.symm
theorem fb_lo {w K A B : Nat → Int32} {m i j : Nat} (h : j < i) : (fbits w K A B m (i + 1)).testBit j = (fbits w K A B m i).testBit j := by
  show (fbits w K A B m i + (if fone w K A B m (fbits w K A B m i) i then 2 ^ i else 0)).testBit j = _
  split
  · rw [← or_pow (fbits_lt i), Nat.testBit_or, Nat.testBit_two_pow]
    have : ¬ i = j := by omega
    simp [this]
  · rw [Nat.add_zero]
theorem fb_at {w K A B : Nat → Int32} {m i : Nat} : (fbits w K A B m (i + 1)).testBit i = fone w K A B m (fbits w K A B m i) i := by
  show (fbits w K A B m i + (if fone w K A B m (fbits w K A B m i) i then 2 ^ i else 0)).testBit i = _
  have hz : (fbits w K A B m i).testBit i = false := Nat.testBit_lt_two_pow (fbits_lt i)
  split
  · rename_i h
    rw [← or_pow (fbits_lt i), Nat.testBit_or, Nat.testBit_two_pow, hz, h]
    simp
  · rename_i h
    rw [Nat.add_zero, hz]
    simp at h
    exact h.symm
theorem hasBit_n {x j : Nat} {V : Mm} (hx : x < 2147483648) (hj : j < 20) : eX5_hasBit (nI x) (nI j) V = some (b2i (x.testBit j = true)) := by
  unfold eX5_hasBit
  rw [bit_dn hx hj]
  cases x.testBit j <;> rfl
theorem b2b (b : Bool) : (b2i (b = true) = 0 ∨ b2i (b = true) = 1) = True := b2i_01
theorem sel {p : Prop} [Decidable p] : (if p then some (0 : Int32) else some 1) = some (b2i ((!decide p) = true)) := by
  by_cases h : p <;> simp [h, b2i]
theorem sel2 {p : Prop} [Decidable p] : (if p then some (1 : Int32) else some 0) = some (b2i ((decide p) = true)) := by
  by_cases h : p <;> simp [h, b2i]
theorem fone_c0 {Vc Vm : Mm} {nb nm nt n m i x : Nat} (hW : WRel Vc (Vm 1) nb nm nt) (hF : WF (Vm 1) nb nm nt) (hn : n ≤ 20) (hi : i < n) (f1 : Vc 85 i = Vm 19 i) (f2 : Vc 86 i = Vm 20 i) (f3 : Vc 87 i = Vm 21 i) (ek : Vm 19 i = nI 0) (g1 : 8 ≤ 0 → ∃ a, a < i ∧ Vm 20 i = nI a) (g2 : (0 = 8 ∨ 0 = 9) → ∃ b, b < i ∧ Vm 21 i = nI b) (g3 : 0 = 5 → ∃ a, a < 4 ∧ Vm 20 i = nI a) (hm : m < nm) (hx : x < 2 ^ i) :
    eX5_passesOne (nI m) (nI i) (nI x) Vc = some (b2i (fone (Vm 1) (Vm 19) (Vm 20) (Vm 21) m x i = true)) := by
  have h50 := (WRel_WN hW).m50
  have hx2 : x < 2 ^ 20 := Nat.lt_of_lt_of_le hx (Nat.pow_le_pow_right (by omega) (by omega))
  have c0 : Vc 30 m = Vm 1 (80 + 10 * m + 1) := mailCol hW hm (c := 0) (by omega)
  have c4 : Vc 34 m = Vm 1 (80 + 10 * m + 5) := mailCol hW hm (c := 4) (by omega)
  have c5 : Vc 35 m = Vm 1 (80 + 10 * m + 6) := mailCol hW hm (c := 5) (by omega)
  have c6 : Vc 36 m = Vm 1 (80 + 10 * m + 7) := mailCol hW hm (c := 6) (by omega)
  have c7 : Vc 37 m = Vm 1 (80 + 10 * m + 8) := mailCol hW hm (c := 7) (by omega)
  have v0 : eX2_value 28 (nI m) 0 Vc = some (Vc 30 m) := value_0 (by omega)
  have v4 : eX2_value 28 (nI m) 4 Vc = some (Vc 34 m) := value_4 (by omega)
  have v5 : eX2_value 28 (nI m) 5 Vc = some (Vc 35 m) := value_5 (by omega)
  have v6 : eX2_value 28 (nI m) 6 Vc = some (Vc 36 m) := value_6 (by omega)
  have v7 : eX2_value 28 (nI m) 7 Vc = some (Vc 37 m) := value_7 (by omega)
  have ci : (nI i).toNatClampNeg = i := n_cl (by omega)
  have hb : (nI i < 0 ∨ 20 ≤ i) = False := eq_false (by rw [q0d (by omega)]; omega)
  unfold eX5_passesOne fone
  simp only [hb, ci, f1, f2, f3, ek, show (nI 0 = (0 : Int32)) = True from eq_true (by decide), if_true, if_false]
  rcases n_cases (Vm 20 i) with hy | ⟨j, hj, ej⟩
  · have : eX5_isIn (nI m) (Vm 20 i) Vc = some 0 := by
      unfold eX5_isIn eX5_bitOf
      rw [value_8 (by omega), if_pos hy, Option.bind_some, Option.bind_some, if_pos (by simp)]
    rw [this]
    simp [hy, b2i]
  · rw [ej, isIn_n hW hF hm hj]
    have hn2 : ¬ (nI j < 0) := by rw [q0d hj]; omega
    simp only [Option.bind_some, b2b, if_true, n_cl hj, hn2, decide_false, Bool.not_false, Bool.true_and]
theorem fone_c1 {Vc Vm : Mm} {nb nm nt n m i x : Nat} (hW : WRel Vc (Vm 1) nb nm nt) (hF : WF (Vm 1) nb nm nt) (hn : n ≤ 20) (hi : i < n) (f1 : Vc 85 i = Vm 19 i) (f2 : Vc 86 i = Vm 20 i) (f3 : Vc 87 i = Vm 21 i) (ek : Vm 19 i = nI 1) (g1 : 8 ≤ 1 → ∃ a, a < i ∧ Vm 20 i = nI a) (g2 : (1 = 8 ∨ 1 = 9) → ∃ b, b < i ∧ Vm 21 i = nI b) (g3 : 1 = 5 → ∃ a, a < 4 ∧ Vm 20 i = nI a) (hm : m < nm) (hx : x < 2 ^ i) :
    eX5_passesOne (nI m) (nI i) (nI x) Vc = some (b2i (fone (Vm 1) (Vm 19) (Vm 20) (Vm 21) m x i = true)) := by
  have h50 := (WRel_WN hW).m50
  have hx2 : x < 2 ^ 20 := Nat.lt_of_lt_of_le hx (Nat.pow_le_pow_right (by omega) (by omega))
  have c0 : Vc 30 m = Vm 1 (80 + 10 * m + 1) := mailCol hW hm (c := 0) (by omega)
  have c4 : Vc 34 m = Vm 1 (80 + 10 * m + 5) := mailCol hW hm (c := 4) (by omega)
  have c5 : Vc 35 m = Vm 1 (80 + 10 * m + 6) := mailCol hW hm (c := 5) (by omega)
  have c6 : Vc 36 m = Vm 1 (80 + 10 * m + 7) := mailCol hW hm (c := 6) (by omega)
  have c7 : Vc 37 m = Vm 1 (80 + 10 * m + 8) := mailCol hW hm (c := 7) (by omega)
  have v0 : eX2_value 28 (nI m) 0 Vc = some (Vc 30 m) := value_0 (by omega)
  have v4 : eX2_value 28 (nI m) 4 Vc = some (Vc 34 m) := value_4 (by omega)
  have v5 : eX2_value 28 (nI m) 5 Vc = some (Vc 35 m) := value_5 (by omega)
  have v6 : eX2_value 28 (nI m) 6 Vc = some (Vc 36 m) := value_6 (by omega)
  have v7 : eX2_value 28 (nI m) 7 Vc = some (Vc 37 m) := value_7 (by omega)
  have ci : (nI i).toNatClampNeg = i := n_cl (by omega)
  have hb : (nI i < 0 ∨ 20 ≤ i) = False := eq_false (by rw [q0d (by omega)]; omega)
  unfold eX5_passesOne fone
  simp only [hb, ci, f1, f2, f3, ek, show (nI 1 = (0 : Int32)) = False from eq_false (by decide), show (nI 1 = (1 : Int32)) = True from eq_true (by decide), if_true, if_false]
  simp only [v5, c5, Option.bind_some, sel]
theorem fone_c2 {Vc Vm : Mm} {nb nm nt n m i x : Nat} (hW : WRel Vc (Vm 1) nb nm nt) (hF : WF (Vm 1) nb nm nt) (hn : n ≤ 20) (hi : i < n) (f1 : Vc 85 i = Vm 19 i) (f2 : Vc 86 i = Vm 20 i) (f3 : Vc 87 i = Vm 21 i) (ek : Vm 19 i = nI 2) (g1 : 8 ≤ 2 → ∃ a, a < i ∧ Vm 20 i = nI a) (g2 : (2 = 8 ∨ 2 = 9) → ∃ b, b < i ∧ Vm 21 i = nI b) (g3 : 2 = 5 → ∃ a, a < 4 ∧ Vm 20 i = nI a) (hm : m < nm) (hx : x < 2 ^ i) :
    eX5_passesOne (nI m) (nI i) (nI x) Vc = some (b2i (fone (Vm 1) (Vm 19) (Vm 20) (Vm 21) m x i = true)) := by
  have h50 := (WRel_WN hW).m50
  have hx2 : x < 2 ^ 20 := Nat.lt_of_lt_of_le hx (Nat.pow_le_pow_right (by omega) (by omega))
  have c0 : Vc 30 m = Vm 1 (80 + 10 * m + 1) := mailCol hW hm (c := 0) (by omega)
  have c4 : Vc 34 m = Vm 1 (80 + 10 * m + 5) := mailCol hW hm (c := 4) (by omega)
  have c5 : Vc 35 m = Vm 1 (80 + 10 * m + 6) := mailCol hW hm (c := 5) (by omega)
  have c6 : Vc 36 m = Vm 1 (80 + 10 * m + 7) := mailCol hW hm (c := 6) (by omega)
  have c7 : Vc 37 m = Vm 1 (80 + 10 * m + 8) := mailCol hW hm (c := 7) (by omega)
  have v0 : eX2_value 28 (nI m) 0 Vc = some (Vc 30 m) := value_0 (by omega)
  have v4 : eX2_value 28 (nI m) 4 Vc = some (Vc 34 m) := value_4 (by omega)
  have v5 : eX2_value 28 (nI m) 5 Vc = some (Vc 35 m) := value_5 (by omega)
  have v6 : eX2_value 28 (nI m) 6 Vc = some (Vc 36 m) := value_6 (by omega)
  have v7 : eX2_value 28 (nI m) 7 Vc = some (Vc 37 m) := value_7 (by omega)
  have ci : (nI i).toNatClampNeg = i := n_cl (by omega)
  have hb : (nI i < 0 ∨ 20 ≤ i) = False := eq_false (by rw [q0d (by omega)]; omega)
  unfold eX5_passesOne fone
  simp only [hb, ci, f1, f2, f3, ek, show (nI 2 = (0 : Int32)) = False from eq_false (by decide), show (nI 2 = (1 : Int32)) = False from eq_false (by decide), show (nI 2 = (2 : Int32)) = True from eq_true (by decide), if_true, if_false]
  simp only [v5, c5, Option.bind_some, sel]
theorem fone_c3 {Vc Vm : Mm} {nb nm nt n m i x : Nat} (hW : WRel Vc (Vm 1) nb nm nt) (hF : WF (Vm 1) nb nm nt) (hn : n ≤ 20) (hi : i < n) (f1 : Vc 85 i = Vm 19 i) (f2 : Vc 86 i = Vm 20 i) (f3 : Vc 87 i = Vm 21 i) (ek : Vm 19 i = nI 3) (g1 : 8 ≤ 3 → ∃ a, a < i ∧ Vm 20 i = nI a) (g2 : (3 = 8 ∨ 3 = 9) → ∃ b, b < i ∧ Vm 21 i = nI b) (g3 : 3 = 5 → ∃ a, a < 4 ∧ Vm 20 i = nI a) (hm : m < nm) (hx : x < 2 ^ i) :
    eX5_passesOne (nI m) (nI i) (nI x) Vc = some (b2i (fone (Vm 1) (Vm 19) (Vm 20) (Vm 21) m x i = true)) := by
  have h50 := (WRel_WN hW).m50
  have hx2 : x < 2 ^ 20 := Nat.lt_of_lt_of_le hx (Nat.pow_le_pow_right (by omega) (by omega))
  have c0 : Vc 30 m = Vm 1 (80 + 10 * m + 1) := mailCol hW hm (c := 0) (by omega)
  have c4 : Vc 34 m = Vm 1 (80 + 10 * m + 5) := mailCol hW hm (c := 4) (by omega)
  have c5 : Vc 35 m = Vm 1 (80 + 10 * m + 6) := mailCol hW hm (c := 5) (by omega)
  have c6 : Vc 36 m = Vm 1 (80 + 10 * m + 7) := mailCol hW hm (c := 6) (by omega)
  have c7 : Vc 37 m = Vm 1 (80 + 10 * m + 8) := mailCol hW hm (c := 7) (by omega)
  have v0 : eX2_value 28 (nI m) 0 Vc = some (Vc 30 m) := value_0 (by omega)
  have v4 : eX2_value 28 (nI m) 4 Vc = some (Vc 34 m) := value_4 (by omega)
  have v5 : eX2_value 28 (nI m) 5 Vc = some (Vc 35 m) := value_5 (by omega)
  have v6 : eX2_value 28 (nI m) 6 Vc = some (Vc 36 m) := value_6 (by omega)
  have v7 : eX2_value 28 (nI m) 7 Vc = some (Vc 37 m) := value_7 (by omega)
  have ci : (nI i).toNatClampNeg = i := n_cl (by omega)
  have hb : (nI i < 0 ∨ 20 ≤ i) = False := eq_false (by rw [q0d (by omega)]; omega)
  unfold eX5_passesOne fone
  simp only [hb, ci, f1, f2, f3, ek, show (nI 3 = (0 : Int32)) = False from eq_false (by decide), show (nI 3 = (1 : Int32)) = False from eq_false (by decide), show (nI 3 = (2 : Int32)) = False from eq_false (by decide), show (nI 3 = (3 : Int32)) = True from eq_true (by decide), if_true, if_false]
  simp only [v4, c4, Option.bind_some, sel]
theorem fone_c4 {Vc Vm : Mm} {nb nm nt n m i x : Nat} (hW : WRel Vc (Vm 1) nb nm nt) (hF : WF (Vm 1) nb nm nt) (hn : n ≤ 20) (hi : i < n) (f1 : Vc 85 i = Vm 19 i) (f2 : Vc 86 i = Vm 20 i) (f3 : Vc 87 i = Vm 21 i) (ek : Vm 19 i = nI 4) (g1 : 8 ≤ 4 → ∃ a, a < i ∧ Vm 20 i = nI a) (g2 : (4 = 8 ∨ 4 = 9) → ∃ b, b < i ∧ Vm 21 i = nI b) (g3 : 4 = 5 → ∃ a, a < 4 ∧ Vm 20 i = nI a) (hm : m < nm) (hx : x < 2 ^ i) :
    eX5_passesOne (nI m) (nI i) (nI x) Vc = some (b2i (fone (Vm 1) (Vm 19) (Vm 20) (Vm 21) m x i = true)) := by
  have h50 := (WRel_WN hW).m50
  have hx2 : x < 2 ^ 20 := Nat.lt_of_lt_of_le hx (Nat.pow_le_pow_right (by omega) (by omega))
  have c0 : Vc 30 m = Vm 1 (80 + 10 * m + 1) := mailCol hW hm (c := 0) (by omega)
  have c4 : Vc 34 m = Vm 1 (80 + 10 * m + 5) := mailCol hW hm (c := 4) (by omega)
  have c5 : Vc 35 m = Vm 1 (80 + 10 * m + 6) := mailCol hW hm (c := 5) (by omega)
  have c6 : Vc 36 m = Vm 1 (80 + 10 * m + 7) := mailCol hW hm (c := 6) (by omega)
  have c7 : Vc 37 m = Vm 1 (80 + 10 * m + 8) := mailCol hW hm (c := 7) (by omega)
  have v0 : eX2_value 28 (nI m) 0 Vc = some (Vc 30 m) := value_0 (by omega)
  have v4 : eX2_value 28 (nI m) 4 Vc = some (Vc 34 m) := value_4 (by omega)
  have v5 : eX2_value 28 (nI m) 5 Vc = some (Vc 35 m) := value_5 (by omega)
  have v6 : eX2_value 28 (nI m) 6 Vc = some (Vc 36 m) := value_6 (by omega)
  have v7 : eX2_value 28 (nI m) 7 Vc = some (Vc 37 m) := value_7 (by omega)
  have ci : (nI i).toNatClampNeg = i := n_cl (by omega)
  have hb : (nI i < 0 ∨ 20 ≤ i) = False := eq_false (by rw [q0d (by omega)]; omega)
  unfold eX5_passesOne fone
  simp only [hb, ci, f1, f2, f3, ek, show (nI 4 = (0 : Int32)) = False from eq_false (by decide), show (nI 4 = (1 : Int32)) = False from eq_false (by decide), show (nI 4 = (2 : Int32)) = False from eq_false (by decide), show (nI 4 = (3 : Int32)) = False from eq_false (by decide), show (nI 4 = (4 : Int32)) = True from eq_true (by decide), if_true, if_false]
  simp only [v4, c4, Option.bind_some, sel]
theorem fone_c5 {Vc Vm : Mm} {nb nm nt n m i x : Nat} (hW : WRel Vc (Vm 1) nb nm nt) (hF : WF (Vm 1) nb nm nt) (hn : n ≤ 20) (hi : i < n) (f1 : Vc 85 i = Vm 19 i) (f2 : Vc 86 i = Vm 20 i) (f3 : Vc 87 i = Vm 21 i) (ek : Vm 19 i = nI 5) (g1 : 8 ≤ 5 → ∃ a, a < i ∧ Vm 20 i = nI a) (g2 : (5 = 8 ∨ 5 = 9) → ∃ b, b < i ∧ Vm 21 i = nI b) (g3 : 5 = 5 → ∃ a, a < 4 ∧ Vm 20 i = nI a) (hm : m < nm) (hx : x < 2 ^ i) :
    eX5_passesOne (nI m) (nI i) (nI x) Vc = some (b2i (fone (Vm 1) (Vm 19) (Vm 20) (Vm 21) m x i = true)) := by
  have h50 := (WRel_WN hW).m50
  have hx2 : x < 2 ^ 20 := Nat.lt_of_lt_of_le hx (Nat.pow_le_pow_right (by omega) (by omega))
  have c0 : Vc 30 m = Vm 1 (80 + 10 * m + 1) := mailCol hW hm (c := 0) (by omega)
  have c4 : Vc 34 m = Vm 1 (80 + 10 * m + 5) := mailCol hW hm (c := 4) (by omega)
  have c5 : Vc 35 m = Vm 1 (80 + 10 * m + 6) := mailCol hW hm (c := 5) (by omega)
  have c6 : Vc 36 m = Vm 1 (80 + 10 * m + 7) := mailCol hW hm (c := 6) (by omega)
  have c7 : Vc 37 m = Vm 1 (80 + 10 * m + 8) := mailCol hW hm (c := 7) (by omega)
  have v0 : eX2_value 28 (nI m) 0 Vc = some (Vc 30 m) := value_0 (by omega)
  have v4 : eX2_value 28 (nI m) 4 Vc = some (Vc 34 m) := value_4 (by omega)
  have v5 : eX2_value 28 (nI m) 5 Vc = some (Vc 35 m) := value_5 (by omega)
  have v6 : eX2_value 28 (nI m) 6 Vc = some (Vc 36 m) := value_6 (by omega)
  have v7 : eX2_value 28 (nI m) 7 Vc = some (Vc 37 m) := value_7 (by omega)
  have ci : (nI i).toNatClampNeg = i := n_cl (by omega)
  have hb : (nI i < 0 ∨ 20 ≤ i) = False := eq_false (by rw [q0d (by omega)]; omega)
  unfold eX5_passesOne fone
  simp only [hb, ci, f1, f2, f3, ek, show (nI 5 = (0 : Int32)) = False from eq_false (by decide), show (nI 5 = (1 : Int32)) = False from eq_false (by decide), show (nI 5 = (2 : Int32)) = False from eq_false (by decide), show (nI 5 = (3 : Int32)) = False from eq_false (by decide), show (nI 5 = (4 : Int32)) = False from eq_false (by decide), show (nI 5 = (5 : Int32)) = True from eq_true (by decide), if_true, if_false]
  obtain ⟨a, ha, ea⟩ := g3 rfl
  obtain ⟨y, hy, ey⟩ := (hF.2.2.2.2.2.1 m hm).2.2.2.1
  rw [v6, c6, ea, ey, Option.bind_some, hasBit_n (by omega) (by omega)]
  simp only [Option.bind_some, b2b, if_true, n_cl (show a < 2147483648 by omega), n_cl (show y < 2147483648 by omega)]
theorem fone_c6 {Vc Vm : Mm} {nb nm nt n m i x : Nat} (hW : WRel Vc (Vm 1) nb nm nt) (hF : WF (Vm 1) nb nm nt) (hn : n ≤ 20) (hi : i < n) (f1 : Vc 85 i = Vm 19 i) (f2 : Vc 86 i = Vm 20 i) (f3 : Vc 87 i = Vm 21 i) (ek : Vm 19 i = nI 6) (g1 : 8 ≤ 6 → ∃ a, a < i ∧ Vm 20 i = nI a) (g2 : (6 = 8 ∨ 6 = 9) → ∃ b, b < i ∧ Vm 21 i = nI b) (g3 : 6 = 5 → ∃ a, a < 4 ∧ Vm 20 i = nI a) (hm : m < nm) (hx : x < 2 ^ i) :
    eX5_passesOne (nI m) (nI i) (nI x) Vc = some (b2i (fone (Vm 1) (Vm 19) (Vm 20) (Vm 21) m x i = true)) := by
  have h50 := (WRel_WN hW).m50
  have hx2 : x < 2 ^ 20 := Nat.lt_of_lt_of_le hx (Nat.pow_le_pow_right (by omega) (by omega))
  have c0 : Vc 30 m = Vm 1 (80 + 10 * m + 1) := mailCol hW hm (c := 0) (by omega)
  have c4 : Vc 34 m = Vm 1 (80 + 10 * m + 5) := mailCol hW hm (c := 4) (by omega)
  have c5 : Vc 35 m = Vm 1 (80 + 10 * m + 6) := mailCol hW hm (c := 5) (by omega)
  have c6 : Vc 36 m = Vm 1 (80 + 10 * m + 7) := mailCol hW hm (c := 6) (by omega)
  have c7 : Vc 37 m = Vm 1 (80 + 10 * m + 8) := mailCol hW hm (c := 7) (by omega)
  have v0 : eX2_value 28 (nI m) 0 Vc = some (Vc 30 m) := value_0 (by omega)
  have v4 : eX2_value 28 (nI m) 4 Vc = some (Vc 34 m) := value_4 (by omega)
  have v5 : eX2_value 28 (nI m) 5 Vc = some (Vc 35 m) := value_5 (by omega)
  have v6 : eX2_value 28 (nI m) 6 Vc = some (Vc 36 m) := value_6 (by omega)
  have v7 : eX2_value 28 (nI m) 7 Vc = some (Vc 37 m) := value_7 (by omega)
  have ci : (nI i).toNatClampNeg = i := n_cl (by omega)
  have hb : (nI i < 0 ∨ 20 ≤ i) = False := eq_false (by rw [q0d (by omega)]; omega)
  unfold eX5_passesOne fone
  simp only [hb, ci, f1, f2, f3, ek, show (nI 6 = (0 : Int32)) = False from eq_false (by decide), show (nI 6 = (1 : Int32)) = False from eq_false (by decide), show (nI 6 = (2 : Int32)) = False from eq_false (by decide), show (nI 6 = (3 : Int32)) = False from eq_false (by decide), show (nI 6 = (4 : Int32)) = False from eq_false (by decide), show (nI 6 = (5 : Int32)) = False from eq_false (by decide), show (nI 6 = (6 : Int32)) = True from eq_true (by decide), if_true, if_false]
  simp only [v0, c0, Option.bind_some, sel2]
theorem fone_c7 {Vc Vm : Mm} {nb nm nt n m i x : Nat} (hW : WRel Vc (Vm 1) nb nm nt) (hF : WF (Vm 1) nb nm nt) (hn : n ≤ 20) (hi : i < n) (f1 : Vc 85 i = Vm 19 i) (f2 : Vc 86 i = Vm 20 i) (f3 : Vc 87 i = Vm 21 i) (ek : Vm 19 i = nI 7) (g1 : 8 ≤ 7 → ∃ a, a < i ∧ Vm 20 i = nI a) (g2 : (7 = 8 ∨ 7 = 9) → ∃ b, b < i ∧ Vm 21 i = nI b) (g3 : 7 = 5 → ∃ a, a < 4 ∧ Vm 20 i = nI a) (hm : m < nm) (hx : x < 2 ^ i) :
    eX5_passesOne (nI m) (nI i) (nI x) Vc = some (b2i (fone (Vm 1) (Vm 19) (Vm 20) (Vm 21) m x i = true)) := by
  have h50 := (WRel_WN hW).m50
  have hx2 : x < 2 ^ 20 := Nat.lt_of_lt_of_le hx (Nat.pow_le_pow_right (by omega) (by omega))
  have c0 : Vc 30 m = Vm 1 (80 + 10 * m + 1) := mailCol hW hm (c := 0) (by omega)
  have c4 : Vc 34 m = Vm 1 (80 + 10 * m + 5) := mailCol hW hm (c := 4) (by omega)
  have c5 : Vc 35 m = Vm 1 (80 + 10 * m + 6) := mailCol hW hm (c := 5) (by omega)
  have c6 : Vc 36 m = Vm 1 (80 + 10 * m + 7) := mailCol hW hm (c := 6) (by omega)
  have c7 : Vc 37 m = Vm 1 (80 + 10 * m + 8) := mailCol hW hm (c := 7) (by omega)
  have v0 : eX2_value 28 (nI m) 0 Vc = some (Vc 30 m) := value_0 (by omega)
  have v4 : eX2_value 28 (nI m) 4 Vc = some (Vc 34 m) := value_4 (by omega)
  have v5 : eX2_value 28 (nI m) 5 Vc = some (Vc 35 m) := value_5 (by omega)
  have v6 : eX2_value 28 (nI m) 6 Vc = some (Vc 36 m) := value_6 (by omega)
  have v7 : eX2_value 28 (nI m) 7 Vc = some (Vc 37 m) := value_7 (by omega)
  have ci : (nI i).toNatClampNeg = i := n_cl (by omega)
  have hb : (nI i < 0 ∨ 20 ≤ i) = False := eq_false (by rw [q0d (by omega)]; omega)
  unfold eX5_passesOne fone
  simp only [hb, ci, f1, f2, f3, ek, show (nI 7 = (0 : Int32)) = False from eq_false (by decide), show (nI 7 = (1 : Int32)) = False from eq_false (by decide), show (nI 7 = (2 : Int32)) = False from eq_false (by decide), show (nI 7 = (3 : Int32)) = False from eq_false (by decide), show (nI 7 = (4 : Int32)) = False from eq_false (by decide), show (nI 7 = (5 : Int32)) = False from eq_false (by decide), show (nI 7 = (6 : Int32)) = False from eq_false (by decide), show (nI 7 = (7 : Int32)) = True from eq_true (by decide), if_true, if_false]
  simp only [v7, c7, Option.bind_some, sel2]
theorem fone_c8 {Vc Vm : Mm} {nb nm nt n m i x : Nat} (hW : WRel Vc (Vm 1) nb nm nt) (hF : WF (Vm 1) nb nm nt) (hn : n ≤ 20) (hi : i < n) (f1 : Vc 85 i = Vm 19 i) (f2 : Vc 86 i = Vm 20 i) (f3 : Vc 87 i = Vm 21 i) (ek : Vm 19 i = nI 8) (g1 : 8 ≤ 8 → ∃ a, a < i ∧ Vm 20 i = nI a) (g2 : (8 = 8 ∨ 8 = 9) → ∃ b, b < i ∧ Vm 21 i = nI b) (g3 : 8 = 5 → ∃ a, a < 4 ∧ Vm 20 i = nI a) (hm : m < nm) (hx : x < 2 ^ i) :
    eX5_passesOne (nI m) (nI i) (nI x) Vc = some (b2i (fone (Vm 1) (Vm 19) (Vm 20) (Vm 21) m x i = true)) := by
  have h50 := (WRel_WN hW).m50
  have hx2 : x < 2 ^ 20 := Nat.lt_of_lt_of_le hx (Nat.pow_le_pow_right (by omega) (by omega))
  have c0 : Vc 30 m = Vm 1 (80 + 10 * m + 1) := mailCol hW hm (c := 0) (by omega)
  have c4 : Vc 34 m = Vm 1 (80 + 10 * m + 5) := mailCol hW hm (c := 4) (by omega)
  have c5 : Vc 35 m = Vm 1 (80 + 10 * m + 6) := mailCol hW hm (c := 5) (by omega)
  have c6 : Vc 36 m = Vm 1 (80 + 10 * m + 7) := mailCol hW hm (c := 6) (by omega)
  have c7 : Vc 37 m = Vm 1 (80 + 10 * m + 8) := mailCol hW hm (c := 7) (by omega)
  have v0 : eX2_value 28 (nI m) 0 Vc = some (Vc 30 m) := value_0 (by omega)
  have v4 : eX2_value 28 (nI m) 4 Vc = some (Vc 34 m) := value_4 (by omega)
  have v5 : eX2_value 28 (nI m) 5 Vc = some (Vc 35 m) := value_5 (by omega)
  have v6 : eX2_value 28 (nI m) 6 Vc = some (Vc 36 m) := value_6 (by omega)
  have v7 : eX2_value 28 (nI m) 7 Vc = some (Vc 37 m) := value_7 (by omega)
  have ci : (nI i).toNatClampNeg = i := n_cl (by omega)
  have hb : (nI i < 0 ∨ 20 ≤ i) = False := eq_false (by rw [q0d (by omega)]; omega)
  unfold eX5_passesOne fone
  simp only [hb, ci, f1, f2, f3, ek, show (nI 8 = (0 : Int32)) = False from eq_false (by decide), show (nI 8 = (1 : Int32)) = False from eq_false (by decide), show (nI 8 = (2 : Int32)) = False from eq_false (by decide), show (nI 8 = (3 : Int32)) = False from eq_false (by decide), show (nI 8 = (4 : Int32)) = False from eq_false (by decide), show (nI 8 = (5 : Int32)) = False from eq_false (by decide), show (nI 8 = (6 : Int32)) = False from eq_false (by decide), show (nI 8 = (7 : Int32)) = False from eq_false (by decide), show (nI 8 = (8 : Int32)) = True from eq_true (by decide), if_true, if_false]
  obtain ⟨a, ha, ea⟩ := g1 (by omega)
  obtain ⟨b, hb, eb⟩ := g2 (by omega)
  rw [ea, eb, hasBit_n (by omega) (by omega), hasBit_n (by omega) (by omega)]
  simp only [Option.bind_some, n_cl (show a < 2147483648 by omega), n_cl (show b < 2147483648 by omega)]
  cases x.testBit a <;> cases x.testBit b <;> rfl
theorem fone_c9 {Vc Vm : Mm} {nb nm nt n m i x : Nat} (hW : WRel Vc (Vm 1) nb nm nt) (hF : WF (Vm 1) nb nm nt) (hn : n ≤ 20) (hi : i < n) (f1 : Vc 85 i = Vm 19 i) (f2 : Vc 86 i = Vm 20 i) (f3 : Vc 87 i = Vm 21 i) (ek : Vm 19 i = nI 9) (g1 : 8 ≤ 9 → ∃ a, a < i ∧ Vm 20 i = nI a) (g2 : (9 = 8 ∨ 9 = 9) → ∃ b, b < i ∧ Vm 21 i = nI b) (g3 : 9 = 5 → ∃ a, a < 4 ∧ Vm 20 i = nI a) (hm : m < nm) (hx : x < 2 ^ i) :
    eX5_passesOne (nI m) (nI i) (nI x) Vc = some (b2i (fone (Vm 1) (Vm 19) (Vm 20) (Vm 21) m x i = true)) := by
  have h50 := (WRel_WN hW).m50
  have hx2 : x < 2 ^ 20 := Nat.lt_of_lt_of_le hx (Nat.pow_le_pow_right (by omega) (by omega))
  have c0 : Vc 30 m = Vm 1 (80 + 10 * m + 1) := mailCol hW hm (c := 0) (by omega)
  have c4 : Vc 34 m = Vm 1 (80 + 10 * m + 5) := mailCol hW hm (c := 4) (by omega)
  have c5 : Vc 35 m = Vm 1 (80 + 10 * m + 6) := mailCol hW hm (c := 5) (by omega)
  have c6 : Vc 36 m = Vm 1 (80 + 10 * m + 7) := mailCol hW hm (c := 6) (by omega)
  have c7 : Vc 37 m = Vm 1 (80 + 10 * m + 8) := mailCol hW hm (c := 7) (by omega)
  have v0 : eX2_value 28 (nI m) 0 Vc = some (Vc 30 m) := value_0 (by omega)
  have v4 : eX2_value 28 (nI m) 4 Vc = some (Vc 34 m) := value_4 (by omega)
  have v5 : eX2_value 28 (nI m) 5 Vc = some (Vc 35 m) := value_5 (by omega)
  have v6 : eX2_value 28 (nI m) 6 Vc = some (Vc 36 m) := value_6 (by omega)
  have v7 : eX2_value 28 (nI m) 7 Vc = some (Vc 37 m) := value_7 (by omega)
  have ci : (nI i).toNatClampNeg = i := n_cl (by omega)
  have hb : (nI i < 0 ∨ 20 ≤ i) = False := eq_false (by rw [q0d (by omega)]; omega)
  unfold eX5_passesOne fone
  simp only [hb, ci, f1, f2, f3, ek, show (nI 9 = (0 : Int32)) = False from eq_false (by decide), show (nI 9 = (1 : Int32)) = False from eq_false (by decide), show (nI 9 = (2 : Int32)) = False from eq_false (by decide), show (nI 9 = (3 : Int32)) = False from eq_false (by decide), show (nI 9 = (4 : Int32)) = False from eq_false (by decide), show (nI 9 = (5 : Int32)) = False from eq_false (by decide), show (nI 9 = (6 : Int32)) = False from eq_false (by decide), show (nI 9 = (7 : Int32)) = False from eq_false (by decide), show (nI 9 = (8 : Int32)) = False from eq_false (by decide), show (nI 9 = (9 : Int32)) = True from eq_true (by decide), if_true, if_false]
  obtain ⟨a, ha, ea⟩ := g1 (by omega)
  obtain ⟨b, hb, eb⟩ := g2 (by omega)
  rw [ea, eb, hasBit_n (by omega) (by omega), hasBit_n (by omega) (by omega)]
  simp only [Option.bind_some, n_cl (show a < 2147483648 by omega), n_cl (show b < 2147483648 by omega)]
  cases x.testBit a <;> cases x.testBit b <;> rfl
theorem fone_c10 {Vc Vm : Mm} {nb nm nt n m i x : Nat} (hW : WRel Vc (Vm 1) nb nm nt) (hF : WF (Vm 1) nb nm nt) (hn : n ≤ 20) (hi : i < n) (f1 : Vc 85 i = Vm 19 i) (f2 : Vc 86 i = Vm 20 i) (f3 : Vc 87 i = Vm 21 i) (ek : Vm 19 i = nI 10) (g1 : 8 ≤ 10 → ∃ a, a < i ∧ Vm 20 i = nI a) (g2 : (10 = 8 ∨ 10 = 9) → ∃ b, b < i ∧ Vm 21 i = nI b) (g3 : 10 = 5 → ∃ a, a < 4 ∧ Vm 20 i = nI a) (hm : m < nm) (hx : x < 2 ^ i) :
    eX5_passesOne (nI m) (nI i) (nI x) Vc = some (b2i (fone (Vm 1) (Vm 19) (Vm 20) (Vm 21) m x i = true)) := by
  have h50 := (WRel_WN hW).m50
  have hx2 : x < 2 ^ 20 := Nat.lt_of_lt_of_le hx (Nat.pow_le_pow_right (by omega) (by omega))
  have c0 : Vc 30 m = Vm 1 (80 + 10 * m + 1) := mailCol hW hm (c := 0) (by omega)
  have c4 : Vc 34 m = Vm 1 (80 + 10 * m + 5) := mailCol hW hm (c := 4) (by omega)
  have c5 : Vc 35 m = Vm 1 (80 + 10 * m + 6) := mailCol hW hm (c := 5) (by omega)
  have c6 : Vc 36 m = Vm 1 (80 + 10 * m + 7) := mailCol hW hm (c := 6) (by omega)
  have c7 : Vc 37 m = Vm 1 (80 + 10 * m + 8) := mailCol hW hm (c := 7) (by omega)
  have v0 : eX2_value 28 (nI m) 0 Vc = some (Vc 30 m) := value_0 (by omega)
  have v4 : eX2_value 28 (nI m) 4 Vc = some (Vc 34 m) := value_4 (by omega)
  have v5 : eX2_value 28 (nI m) 5 Vc = some (Vc 35 m) := value_5 (by omega)
  have v6 : eX2_value 28 (nI m) 6 Vc = some (Vc 36 m) := value_6 (by omega)
  have v7 : eX2_value 28 (nI m) 7 Vc = some (Vc 37 m) := value_7 (by omega)
  have ci : (nI i).toNatClampNeg = i := n_cl (by omega)
  have hb : (nI i < 0 ∨ 20 ≤ i) = False := eq_false (by rw [q0d (by omega)]; omega)
  unfold eX5_passesOne fone
  simp only [hb, ci, f1, f2, f3, ek, show (nI 10 = (0 : Int32)) = False from eq_false (by decide), show (nI 10 = (1 : Int32)) = False from eq_false (by decide), show (nI 10 = (2 : Int32)) = False from eq_false (by decide), show (nI 10 = (3 : Int32)) = False from eq_false (by decide), show (nI 10 = (4 : Int32)) = False from eq_false (by decide), show (nI 10 = (5 : Int32)) = False from eq_false (by decide), show (nI 10 = (6 : Int32)) = False from eq_false (by decide), show (nI 10 = (7 : Int32)) = False from eq_false (by decide), show (nI 10 = (8 : Int32)) = False from eq_false (by decide), show (nI 10 = (9 : Int32)) = False from eq_false (by decide), if_true, if_false]
  obtain ⟨a, ha, ea⟩ := g1 (by omega)
  rw [ea, hasBit_n (by omega) (by omega)]
  simp only [Option.bind_some, n_cl (show a < 2147483648 by omega)]
  cases x.testBit a <;> rfl
/-- the class's one filter -/
theorem fone_c {Vc Vm : Mm} {nb nm nt n m i x : Nat} (hW : WRel Vc (Vm 1) nb nm nt) (hF : WF (Vm 1) nb nm nt) (hn : n ≤ 20) (hi : i < n) (hf : filRel Vc Vm i) (hm : m < nm) (hx : x < 2 ^ i) :
    eX5_passesOne (nI m) (nI i) (nI x) Vc = some (b2i (fone (Vm 1) (Vm 19) (Vm 20) (Vm 21) m x i = true)) := by
  obtain ⟨f1, f2, f3, kd, hk, ek, g1, g2, g3⟩ := hf
  have hk11 : kd = 0 ∨ kd = 1 ∨ kd = 2 ∨ kd = 3 ∨ kd = 4 ∨ kd = 5 ∨ kd = 6 ∨ kd = 7 ∨ kd = 8 ∨ kd = 9 ∨ kd = 10 := by omega
  rcases hk11 with rfl | rfl | rfl | rfl | rfl | rfl | rfl | rfl | rfl | rfl | rfl
  · exact fone_c0 hW hF hn hi f1 f2 f3 ek g1 g2 g3 hm hx
  · exact fone_c1 hW hF hn hi f1 f2 f3 ek g1 g2 g3 hm hx
  · exact fone_c2 hW hF hn hi f1 f2 f3 ek g1 g2 g3 hm hx
  · exact fone_c3 hW hF hn hi f1 f2 f3 ek g1 g2 g3 hm hx
  · exact fone_c4 hW hF hn hi f1 f2 f3 ek g1 g2 g3 hm hx
  · exact fone_c5 hW hF hn hi f1 f2 f3 ek g1 g2 g3 hm hx
  · exact fone_c6 hW hF hn hi f1 f2 f3 ek g1 g2 g3 hm hx
  · exact fone_c7 hW hF hn hi f1 f2 f3 ek g1 g2 g3 hm hx
  · exact fone_c8 hW hF hn hi f1 f2 f3 ek g1 g2 g3 hm hx
  · exact fone_c9 hW hF hn hi f1 f2 f3 ek g1 g2 g3 hm hx
  · exact fone_c10 hW hF hn hi f1 f2 f3 ek g1 g2 g3 hm hx
theorem fone_m0 {Vm : Mm} {nb nm nt n m i x : Nat} (hw : WN (Vm 1) nb nm nt) (hF : WF (Vm 1) nb nm nt) (hn : n ≤ 20) (hi : i < n) (ek : Vm 19 i = nI 0) (g1 : 8 ≤ 0 → ∃ a, a < i ∧ Vm 20 i = nI a) (g2 : (0 = 8 ∨ 0 = 9) → ∃ b, b < i ∧ Vm 21 i = nI b) (g3 : 0 = 5 → ∃ a, a < 4 ∧ Vm 20 i = nI a) (hm : m < nm) (h1 : Vm 1 (80 + 10 * m) = 1) (hb : ∀ j, j < i → Vm 22 j = b2i (x.testBit j = true)) :
    eX6_isOneFit (nI m) (nI i) Vm = some (b2i (fone (Vm 1) (Vm 19) (Vm 20) (Vm 21) m x i = true)) := by
  have h50 := hw.m50
  have v0 : eX6_mailPart 1 (nI m) 1 Vm = some (Vm 1 (80 + 10 * m + 1)) := mailPart_n (c := 1) (by omega) (by omega)
  have v4 : eX6_mailPart 1 (nI m) 5 Vm = some (Vm 1 (80 + 10 * m + 5)) := mailPart_n (c := 5) (by omega) (by omega)
  have v5 : eX6_mailPart 1 (nI m) 6 Vm = some (Vm 1 (80 + 10 * m + 6)) := mailPart_n (c := 6) (by omega) (by omega)
  have v6 : eX6_mailPart 1 (nI m) 7 Vm = some (Vm 1 (80 + 10 * m + 7)) := mailPart_n (c := 7) (by omega) (by omega)
  have v7 : eX6_mailPart 1 (nI m) 8 Vm = some (Vm 1 (80 + 10 * m + 8)) := mailPart_n (c := 8) (by omega) (by omega)
  have v8 : eX6_mailPart 1 (nI m) 9 Vm = some (Vm 1 (80 + 10 * m + 9)) := mailPart_n (c := 9) (by omega) (by omega)
  have ci : (nI i).toNatClampNeg = i := n_cl (by omega)
  have hbi : (nI i < 0 ∨ 20 ≤ i) = False := eq_false (by rw [q0d (by omega)]; omega)
  unfold eX6_isOneFit fone
  simp only [hbi, ci, ek, show (nI 0 = (0 : Int32)) = True from eq_true (by decide), if_true, if_false]
  rcases n_cases (Vm 20 i) with hy | ⟨j, hj, ej⟩
  · rw [mBox_neg hy]
    simp [hy, b2i]
  · obtain ⟨x20, ex⟩ := WF_bits hF hm
    have hn2 : ¬ (nI j < 0) := by rw [q0d hj]; omega
    rw [ej, mBox_n hw hj]
    by_cases ht : j < nb ∧ Vm 1 (4 * j) = 1
    · have h20 := hw.b20
      rw [v8, ex]
      have hd := bit_dn (x := bitsOf (Vm 1) m) (j := j) (by omega) (by omega)
      simp only [b2i_T ht, hd, Option.bind_some, I10, if_false, n_cl hj, hn2, decide_false, Bool.not_false, Bool.true_and]
      cases (bitsOf (Vm 1) m).testBit j <;> rfl
    · have hz : (bitsOf (Vm 1) m).testBit j = false := by
        cases hz : (bitsOf (Vm 1) m).testBit j
        · rfl
        · exact absurd (((hF.2.2.2.2.2.2 m hm h1).2 _ ex x20) j hz) ht
      simp only [b2i_F ht, Option.bind_some, I00, if_true, n_cl hj, hn2, decide_false, Bool.not_false, Bool.true_and, hz]
      rfl
theorem fone_m1 {Vm : Mm} {nb nm nt n m i x : Nat} (hw : WN (Vm 1) nb nm nt) (hF : WF (Vm 1) nb nm nt) (hn : n ≤ 20) (hi : i < n) (ek : Vm 19 i = nI 1) (g1 : 8 ≤ 1 → ∃ a, a < i ∧ Vm 20 i = nI a) (g2 : (1 = 8 ∨ 1 = 9) → ∃ b, b < i ∧ Vm 21 i = nI b) (g3 : 1 = 5 → ∃ a, a < 4 ∧ Vm 20 i = nI a) (hm : m < nm) (h1 : Vm 1 (80 + 10 * m) = 1) (hb : ∀ j, j < i → Vm 22 j = b2i (x.testBit j = true)) :
    eX6_isOneFit (nI m) (nI i) Vm = some (b2i (fone (Vm 1) (Vm 19) (Vm 20) (Vm 21) m x i = true)) := by
  have h50 := hw.m50
  have v0 : eX6_mailPart 1 (nI m) 1 Vm = some (Vm 1 (80 + 10 * m + 1)) := mailPart_n (c := 1) (by omega) (by omega)
  have v4 : eX6_mailPart 1 (nI m) 5 Vm = some (Vm 1 (80 + 10 * m + 5)) := mailPart_n (c := 5) (by omega) (by omega)
  have v5 : eX6_mailPart 1 (nI m) 6 Vm = some (Vm 1 (80 + 10 * m + 6)) := mailPart_n (c := 6) (by omega) (by omega)
  have v6 : eX6_mailPart 1 (nI m) 7 Vm = some (Vm 1 (80 + 10 * m + 7)) := mailPart_n (c := 7) (by omega) (by omega)
  have v7 : eX6_mailPart 1 (nI m) 8 Vm = some (Vm 1 (80 + 10 * m + 8)) := mailPart_n (c := 8) (by omega) (by omega)
  have v8 : eX6_mailPart 1 (nI m) 9 Vm = some (Vm 1 (80 + 10 * m + 9)) := mailPart_n (c := 9) (by omega) (by omega)
  have ci : (nI i).toNatClampNeg = i := n_cl (by omega)
  have hbi : (nI i < 0 ∨ 20 ≤ i) = False := eq_false (by rw [q0d (by omega)]; omega)
  unfold eX6_isOneFit fone
  simp only [hbi, ci, ek, show (nI 1 = (0 : Int32)) = False from eq_false (by decide), show (nI 1 = (1 : Int32)) = True from eq_true (by decide), if_true, if_false]
  simp only [v5, Option.bind_some, sel]
theorem fone_m2 {Vm : Mm} {nb nm nt n m i x : Nat} (hw : WN (Vm 1) nb nm nt) (hF : WF (Vm 1) nb nm nt) (hn : n ≤ 20) (hi : i < n) (ek : Vm 19 i = nI 2) (g1 : 8 ≤ 2 → ∃ a, a < i ∧ Vm 20 i = nI a) (g2 : (2 = 8 ∨ 2 = 9) → ∃ b, b < i ∧ Vm 21 i = nI b) (g3 : 2 = 5 → ∃ a, a < 4 ∧ Vm 20 i = nI a) (hm : m < nm) (h1 : Vm 1 (80 + 10 * m) = 1) (hb : ∀ j, j < i → Vm 22 j = b2i (x.testBit j = true)) :
    eX6_isOneFit (nI m) (nI i) Vm = some (b2i (fone (Vm 1) (Vm 19) (Vm 20) (Vm 21) m x i = true)) := by
  have h50 := hw.m50
  have v0 : eX6_mailPart 1 (nI m) 1 Vm = some (Vm 1 (80 + 10 * m + 1)) := mailPart_n (c := 1) (by omega) (by omega)
  have v4 : eX6_mailPart 1 (nI m) 5 Vm = some (Vm 1 (80 + 10 * m + 5)) := mailPart_n (c := 5) (by omega) (by omega)
  have v5 : eX6_mailPart 1 (nI m) 6 Vm = some (Vm 1 (80 + 10 * m + 6)) := mailPart_n (c := 6) (by omega) (by omega)
  have v6 : eX6_mailPart 1 (nI m) 7 Vm = some (Vm 1 (80 + 10 * m + 7)) := mailPart_n (c := 7) (by omega) (by omega)
  have v7 : eX6_mailPart 1 (nI m) 8 Vm = some (Vm 1 (80 + 10 * m + 8)) := mailPart_n (c := 8) (by omega) (by omega)
  have v8 : eX6_mailPart 1 (nI m) 9 Vm = some (Vm 1 (80 + 10 * m + 9)) := mailPart_n (c := 9) (by omega) (by omega)
  have ci : (nI i).toNatClampNeg = i := n_cl (by omega)
  have hbi : (nI i < 0 ∨ 20 ≤ i) = False := eq_false (by rw [q0d (by omega)]; omega)
  unfold eX6_isOneFit fone
  simp only [hbi, ci, ek, show (nI 2 = (0 : Int32)) = False from eq_false (by decide), show (nI 2 = (1 : Int32)) = False from eq_false (by decide), show (nI 2 = (2 : Int32)) = True from eq_true (by decide), if_true, if_false]
  simp only [v5, Option.bind_some, sel]
theorem fone_m3 {Vm : Mm} {nb nm nt n m i x : Nat} (hw : WN (Vm 1) nb nm nt) (hF : WF (Vm 1) nb nm nt) (hn : n ≤ 20) (hi : i < n) (ek : Vm 19 i = nI 3) (g1 : 8 ≤ 3 → ∃ a, a < i ∧ Vm 20 i = nI a) (g2 : (3 = 8 ∨ 3 = 9) → ∃ b, b < i ∧ Vm 21 i = nI b) (g3 : 3 = 5 → ∃ a, a < 4 ∧ Vm 20 i = nI a) (hm : m < nm) (h1 : Vm 1 (80 + 10 * m) = 1) (hb : ∀ j, j < i → Vm 22 j = b2i (x.testBit j = true)) :
    eX6_isOneFit (nI m) (nI i) Vm = some (b2i (fone (Vm 1) (Vm 19) (Vm 20) (Vm 21) m x i = true)) := by
  have h50 := hw.m50
  have v0 : eX6_mailPart 1 (nI m) 1 Vm = some (Vm 1 (80 + 10 * m + 1)) := mailPart_n (c := 1) (by omega) (by omega)
  have v4 : eX6_mailPart 1 (nI m) 5 Vm = some (Vm 1 (80 + 10 * m + 5)) := mailPart_n (c := 5) (by omega) (by omega)
  have v5 : eX6_mailPart 1 (nI m) 6 Vm = some (Vm 1 (80 + 10 * m + 6)) := mailPart_n (c := 6) (by omega) (by omega)
  have v6 : eX6_mailPart 1 (nI m) 7 Vm = some (Vm 1 (80 + 10 * m + 7)) := mailPart_n (c := 7) (by omega) (by omega)
  have v7 : eX6_mailPart 1 (nI m) 8 Vm = some (Vm 1 (80 + 10 * m + 8)) := mailPart_n (c := 8) (by omega) (by omega)
  have v8 : eX6_mailPart 1 (nI m) 9 Vm = some (Vm 1 (80 + 10 * m + 9)) := mailPart_n (c := 9) (by omega) (by omega)
  have ci : (nI i).toNatClampNeg = i := n_cl (by omega)
  have hbi : (nI i < 0 ∨ 20 ≤ i) = False := eq_false (by rw [q0d (by omega)]; omega)
  unfold eX6_isOneFit fone
  simp only [hbi, ci, ek, show (nI 3 = (0 : Int32)) = False from eq_false (by decide), show (nI 3 = (1 : Int32)) = False from eq_false (by decide), show (nI 3 = (2 : Int32)) = False from eq_false (by decide), show (nI 3 = (3 : Int32)) = True from eq_true (by decide), if_true, if_false]
  simp only [v4, Option.bind_some, sel]
theorem fone_m4 {Vm : Mm} {nb nm nt n m i x : Nat} (hw : WN (Vm 1) nb nm nt) (hF : WF (Vm 1) nb nm nt) (hn : n ≤ 20) (hi : i < n) (ek : Vm 19 i = nI 4) (g1 : 8 ≤ 4 → ∃ a, a < i ∧ Vm 20 i = nI a) (g2 : (4 = 8 ∨ 4 = 9) → ∃ b, b < i ∧ Vm 21 i = nI b) (g3 : 4 = 5 → ∃ a, a < 4 ∧ Vm 20 i = nI a) (hm : m < nm) (h1 : Vm 1 (80 + 10 * m) = 1) (hb : ∀ j, j < i → Vm 22 j = b2i (x.testBit j = true)) :
    eX6_isOneFit (nI m) (nI i) Vm = some (b2i (fone (Vm 1) (Vm 19) (Vm 20) (Vm 21) m x i = true)) := by
  have h50 := hw.m50
  have v0 : eX6_mailPart 1 (nI m) 1 Vm = some (Vm 1 (80 + 10 * m + 1)) := mailPart_n (c := 1) (by omega) (by omega)
  have v4 : eX6_mailPart 1 (nI m) 5 Vm = some (Vm 1 (80 + 10 * m + 5)) := mailPart_n (c := 5) (by omega) (by omega)
  have v5 : eX6_mailPart 1 (nI m) 6 Vm = some (Vm 1 (80 + 10 * m + 6)) := mailPart_n (c := 6) (by omega) (by omega)
  have v6 : eX6_mailPart 1 (nI m) 7 Vm = some (Vm 1 (80 + 10 * m + 7)) := mailPart_n (c := 7) (by omega) (by omega)
  have v7 : eX6_mailPart 1 (nI m) 8 Vm = some (Vm 1 (80 + 10 * m + 8)) := mailPart_n (c := 8) (by omega) (by omega)
  have v8 : eX6_mailPart 1 (nI m) 9 Vm = some (Vm 1 (80 + 10 * m + 9)) := mailPart_n (c := 9) (by omega) (by omega)
  have ci : (nI i).toNatClampNeg = i := n_cl (by omega)
  have hbi : (nI i < 0 ∨ 20 ≤ i) = False := eq_false (by rw [q0d (by omega)]; omega)
  unfold eX6_isOneFit fone
  simp only [hbi, ci, ek, show (nI 4 = (0 : Int32)) = False from eq_false (by decide), show (nI 4 = (1 : Int32)) = False from eq_false (by decide), show (nI 4 = (2 : Int32)) = False from eq_false (by decide), show (nI 4 = (3 : Int32)) = False from eq_false (by decide), show (nI 4 = (4 : Int32)) = True from eq_true (by decide), if_true, if_false]
  simp only [v4, Option.bind_some, sel]
theorem fone_m5 {Vm : Mm} {nb nm nt n m i x : Nat} (hw : WN (Vm 1) nb nm nt) (hF : WF (Vm 1) nb nm nt) (hn : n ≤ 20) (hi : i < n) (ek : Vm 19 i = nI 5) (g1 : 8 ≤ 5 → ∃ a, a < i ∧ Vm 20 i = nI a) (g2 : (5 = 8 ∨ 5 = 9) → ∃ b, b < i ∧ Vm 21 i = nI b) (g3 : 5 = 5 → ∃ a, a < 4 ∧ Vm 20 i = nI a) (hm : m < nm) (h1 : Vm 1 (80 + 10 * m) = 1) (hb : ∀ j, j < i → Vm 22 j = b2i (x.testBit j = true)) :
    eX6_isOneFit (nI m) (nI i) Vm = some (b2i (fone (Vm 1) (Vm 19) (Vm 20) (Vm 21) m x i = true)) := by
  have h50 := hw.m50
  have v0 : eX6_mailPart 1 (nI m) 1 Vm = some (Vm 1 (80 + 10 * m + 1)) := mailPart_n (c := 1) (by omega) (by omega)
  have v4 : eX6_mailPart 1 (nI m) 5 Vm = some (Vm 1 (80 + 10 * m + 5)) := mailPart_n (c := 5) (by omega) (by omega)
  have v5 : eX6_mailPart 1 (nI m) 6 Vm = some (Vm 1 (80 + 10 * m + 6)) := mailPart_n (c := 6) (by omega) (by omega)
  have v6 : eX6_mailPart 1 (nI m) 7 Vm = some (Vm 1 (80 + 10 * m + 7)) := mailPart_n (c := 7) (by omega) (by omega)
  have v7 : eX6_mailPart 1 (nI m) 8 Vm = some (Vm 1 (80 + 10 * m + 8)) := mailPart_n (c := 8) (by omega) (by omega)
  have v8 : eX6_mailPart 1 (nI m) 9 Vm = some (Vm 1 (80 + 10 * m + 9)) := mailPart_n (c := 9) (by omega) (by omega)
  have ci : (nI i).toNatClampNeg = i := n_cl (by omega)
  have hbi : (nI i < 0 ∨ 20 ≤ i) = False := eq_false (by rw [q0d (by omega)]; omega)
  unfold eX6_isOneFit fone
  simp only [hbi, ci, ek, show (nI 5 = (0 : Int32)) = False from eq_false (by decide), show (nI 5 = (1 : Int32)) = False from eq_false (by decide), show (nI 5 = (2 : Int32)) = False from eq_false (by decide), show (nI 5 = (3 : Int32)) = False from eq_false (by decide), show (nI 5 = (4 : Int32)) = False from eq_false (by decide), show (nI 5 = (5 : Int32)) = True from eq_true (by decide), if_true, if_false]
  obtain ⟨a, ha, ea⟩ := g3 rfl
  obtain ⟨y, hy, ey⟩ := (hF.2.2.2.2.2.1 m hm).2.2.2.1
  rw [v6, ea, ey, Option.bind_some, bit_dn (by omega) (by omega)]
  simp only [n_cl (show a < 2147483648 by omega), n_cl (show y < 2147483648 by omega)]
  cases y.testBit a <;> rfl
theorem fone_m6 {Vm : Mm} {nb nm nt n m i x : Nat} (hw : WN (Vm 1) nb nm nt) (hF : WF (Vm 1) nb nm nt) (hn : n ≤ 20) (hi : i < n) (ek : Vm 19 i = nI 6) (g1 : 8 ≤ 6 → ∃ a, a < i ∧ Vm 20 i = nI a) (g2 : (6 = 8 ∨ 6 = 9) → ∃ b, b < i ∧ Vm 21 i = nI b) (g3 : 6 = 5 → ∃ a, a < 4 ∧ Vm 20 i = nI a) (hm : m < nm) (h1 : Vm 1 (80 + 10 * m) = 1) (hb : ∀ j, j < i → Vm 22 j = b2i (x.testBit j = true)) :
    eX6_isOneFit (nI m) (nI i) Vm = some (b2i (fone (Vm 1) (Vm 19) (Vm 20) (Vm 21) m x i = true)) := by
  have h50 := hw.m50
  have v0 : eX6_mailPart 1 (nI m) 1 Vm = some (Vm 1 (80 + 10 * m + 1)) := mailPart_n (c := 1) (by omega) (by omega)
  have v4 : eX6_mailPart 1 (nI m) 5 Vm = some (Vm 1 (80 + 10 * m + 5)) := mailPart_n (c := 5) (by omega) (by omega)
  have v5 : eX6_mailPart 1 (nI m) 6 Vm = some (Vm 1 (80 + 10 * m + 6)) := mailPart_n (c := 6) (by omega) (by omega)
  have v6 : eX6_mailPart 1 (nI m) 7 Vm = some (Vm 1 (80 + 10 * m + 7)) := mailPart_n (c := 7) (by omega) (by omega)
  have v7 : eX6_mailPart 1 (nI m) 8 Vm = some (Vm 1 (80 + 10 * m + 8)) := mailPart_n (c := 8) (by omega) (by omega)
  have v8 : eX6_mailPart 1 (nI m) 9 Vm = some (Vm 1 (80 + 10 * m + 9)) := mailPart_n (c := 9) (by omega) (by omega)
  have ci : (nI i).toNatClampNeg = i := n_cl (by omega)
  have hbi : (nI i < 0 ∨ 20 ≤ i) = False := eq_false (by rw [q0d (by omega)]; omega)
  unfold eX6_isOneFit fone
  simp only [hbi, ci, ek, show (nI 6 = (0 : Int32)) = False from eq_false (by decide), show (nI 6 = (1 : Int32)) = False from eq_false (by decide), show (nI 6 = (2 : Int32)) = False from eq_false (by decide), show (nI 6 = (3 : Int32)) = False from eq_false (by decide), show (nI 6 = (4 : Int32)) = False from eq_false (by decide), show (nI 6 = (5 : Int32)) = False from eq_false (by decide), show (nI 6 = (6 : Int32)) = True from eq_true (by decide), if_true, if_false]
  simp only [v0, Option.bind_some, sel2]
theorem fone_m7 {Vm : Mm} {nb nm nt n m i x : Nat} (hw : WN (Vm 1) nb nm nt) (hF : WF (Vm 1) nb nm nt) (hn : n ≤ 20) (hi : i < n) (ek : Vm 19 i = nI 7) (g1 : 8 ≤ 7 → ∃ a, a < i ∧ Vm 20 i = nI a) (g2 : (7 = 8 ∨ 7 = 9) → ∃ b, b < i ∧ Vm 21 i = nI b) (g3 : 7 = 5 → ∃ a, a < 4 ∧ Vm 20 i = nI a) (hm : m < nm) (h1 : Vm 1 (80 + 10 * m) = 1) (hb : ∀ j, j < i → Vm 22 j = b2i (x.testBit j = true)) :
    eX6_isOneFit (nI m) (nI i) Vm = some (b2i (fone (Vm 1) (Vm 19) (Vm 20) (Vm 21) m x i = true)) := by
  have h50 := hw.m50
  have v0 : eX6_mailPart 1 (nI m) 1 Vm = some (Vm 1 (80 + 10 * m + 1)) := mailPart_n (c := 1) (by omega) (by omega)
  have v4 : eX6_mailPart 1 (nI m) 5 Vm = some (Vm 1 (80 + 10 * m + 5)) := mailPart_n (c := 5) (by omega) (by omega)
  have v5 : eX6_mailPart 1 (nI m) 6 Vm = some (Vm 1 (80 + 10 * m + 6)) := mailPart_n (c := 6) (by omega) (by omega)
  have v6 : eX6_mailPart 1 (nI m) 7 Vm = some (Vm 1 (80 + 10 * m + 7)) := mailPart_n (c := 7) (by omega) (by omega)
  have v7 : eX6_mailPart 1 (nI m) 8 Vm = some (Vm 1 (80 + 10 * m + 8)) := mailPart_n (c := 8) (by omega) (by omega)
  have v8 : eX6_mailPart 1 (nI m) 9 Vm = some (Vm 1 (80 + 10 * m + 9)) := mailPart_n (c := 9) (by omega) (by omega)
  have ci : (nI i).toNatClampNeg = i := n_cl (by omega)
  have hbi : (nI i < 0 ∨ 20 ≤ i) = False := eq_false (by rw [q0d (by omega)]; omega)
  unfold eX6_isOneFit fone
  simp only [hbi, ci, ek, show (nI 7 = (0 : Int32)) = False from eq_false (by decide), show (nI 7 = (1 : Int32)) = False from eq_false (by decide), show (nI 7 = (2 : Int32)) = False from eq_false (by decide), show (nI 7 = (3 : Int32)) = False from eq_false (by decide), show (nI 7 = (4 : Int32)) = False from eq_false (by decide), show (nI 7 = (5 : Int32)) = False from eq_false (by decide), show (nI 7 = (6 : Int32)) = False from eq_false (by decide), show (nI 7 = (7 : Int32)) = True from eq_true (by decide), if_true, if_false]
  simp only [v7, Option.bind_some, sel2]
theorem fone_m8 {Vm : Mm} {nb nm nt n m i x : Nat} (hw : WN (Vm 1) nb nm nt) (hF : WF (Vm 1) nb nm nt) (hn : n ≤ 20) (hi : i < n) (ek : Vm 19 i = nI 8) (g1 : 8 ≤ 8 → ∃ a, a < i ∧ Vm 20 i = nI a) (g2 : (8 = 8 ∨ 8 = 9) → ∃ b, b < i ∧ Vm 21 i = nI b) (g3 : 8 = 5 → ∃ a, a < 4 ∧ Vm 20 i = nI a) (hm : m < nm) (h1 : Vm 1 (80 + 10 * m) = 1) (hb : ∀ j, j < i → Vm 22 j = b2i (x.testBit j = true)) :
    eX6_isOneFit (nI m) (nI i) Vm = some (b2i (fone (Vm 1) (Vm 19) (Vm 20) (Vm 21) m x i = true)) := by
  have h50 := hw.m50
  have v0 : eX6_mailPart 1 (nI m) 1 Vm = some (Vm 1 (80 + 10 * m + 1)) := mailPart_n (c := 1) (by omega) (by omega)
  have v4 : eX6_mailPart 1 (nI m) 5 Vm = some (Vm 1 (80 + 10 * m + 5)) := mailPart_n (c := 5) (by omega) (by omega)
  have v5 : eX6_mailPart 1 (nI m) 6 Vm = some (Vm 1 (80 + 10 * m + 6)) := mailPart_n (c := 6) (by omega) (by omega)
  have v6 : eX6_mailPart 1 (nI m) 7 Vm = some (Vm 1 (80 + 10 * m + 7)) := mailPart_n (c := 7) (by omega) (by omega)
  have v7 : eX6_mailPart 1 (nI m) 8 Vm = some (Vm 1 (80 + 10 * m + 8)) := mailPart_n (c := 8) (by omega) (by omega)
  have v8 : eX6_mailPart 1 (nI m) 9 Vm = some (Vm 1 (80 + 10 * m + 9)) := mailPart_n (c := 9) (by omega) (by omega)
  have ci : (nI i).toNatClampNeg = i := n_cl (by omega)
  have hbi : (nI i < 0 ∨ 20 ≤ i) = False := eq_false (by rw [q0d (by omega)]; omega)
  unfold eX6_isOneFit fone
  simp only [hbi, ci, ek, show (nI 8 = (0 : Int32)) = False from eq_false (by decide), show (nI 8 = (1 : Int32)) = False from eq_false (by decide), show (nI 8 = (2 : Int32)) = False from eq_false (by decide), show (nI 8 = (3 : Int32)) = False from eq_false (by decide), show (nI 8 = (4 : Int32)) = False from eq_false (by decide), show (nI 8 = (5 : Int32)) = False from eq_false (by decide), show (nI 8 = (6 : Int32)) = False from eq_false (by decide), show (nI 8 = (7 : Int32)) = False from eq_false (by decide), show (nI 8 = (8 : Int32)) = True from eq_true (by decide), if_true, if_false]
  obtain ⟨a, ha, ea⟩ := g1 (by omega)
  obtain ⟨b, hb2, eb⟩ := g2 (by omega)
  have ca : (nI a).toNatClampNeg = a := n_cl (by omega)
  have cb : (nI b).toNatClampNeg = b := n_cl (by omega)
  have ba : (nI a < 0 ∨ 20 ≤ a) = False := eq_false (by rw [q0d (by omega)]; omega)
  have bb : (nI b < 0 ∨ 20 ≤ b) = False := eq_false (by rw [q0d (by omega)]; omega)
  simp only [ea, eb, ba, bb, ca, cb, if_false, hb a ha, hb b hb2]
  cases x.testBit a <;> cases x.testBit b <;> rfl
theorem fone_m9 {Vm : Mm} {nb nm nt n m i x : Nat} (hw : WN (Vm 1) nb nm nt) (hF : WF (Vm 1) nb nm nt) (hn : n ≤ 20) (hi : i < n) (ek : Vm 19 i = nI 9) (g1 : 8 ≤ 9 → ∃ a, a < i ∧ Vm 20 i = nI a) (g2 : (9 = 8 ∨ 9 = 9) → ∃ b, b < i ∧ Vm 21 i = nI b) (g3 : 9 = 5 → ∃ a, a < 4 ∧ Vm 20 i = nI a) (hm : m < nm) (h1 : Vm 1 (80 + 10 * m) = 1) (hb : ∀ j, j < i → Vm 22 j = b2i (x.testBit j = true)) :
    eX6_isOneFit (nI m) (nI i) Vm = some (b2i (fone (Vm 1) (Vm 19) (Vm 20) (Vm 21) m x i = true)) := by
  have h50 := hw.m50
  have v0 : eX6_mailPart 1 (nI m) 1 Vm = some (Vm 1 (80 + 10 * m + 1)) := mailPart_n (c := 1) (by omega) (by omega)
  have v4 : eX6_mailPart 1 (nI m) 5 Vm = some (Vm 1 (80 + 10 * m + 5)) := mailPart_n (c := 5) (by omega) (by omega)
  have v5 : eX6_mailPart 1 (nI m) 6 Vm = some (Vm 1 (80 + 10 * m + 6)) := mailPart_n (c := 6) (by omega) (by omega)
  have v6 : eX6_mailPart 1 (nI m) 7 Vm = some (Vm 1 (80 + 10 * m + 7)) := mailPart_n (c := 7) (by omega) (by omega)
  have v7 : eX6_mailPart 1 (nI m) 8 Vm = some (Vm 1 (80 + 10 * m + 8)) := mailPart_n (c := 8) (by omega) (by omega)
  have v8 : eX6_mailPart 1 (nI m) 9 Vm = some (Vm 1 (80 + 10 * m + 9)) := mailPart_n (c := 9) (by omega) (by omega)
  have ci : (nI i).toNatClampNeg = i := n_cl (by omega)
  have hbi : (nI i < 0 ∨ 20 ≤ i) = False := eq_false (by rw [q0d (by omega)]; omega)
  unfold eX6_isOneFit fone
  simp only [hbi, ci, ek, show (nI 9 = (0 : Int32)) = False from eq_false (by decide), show (nI 9 = (1 : Int32)) = False from eq_false (by decide), show (nI 9 = (2 : Int32)) = False from eq_false (by decide), show (nI 9 = (3 : Int32)) = False from eq_false (by decide), show (nI 9 = (4 : Int32)) = False from eq_false (by decide), show (nI 9 = (5 : Int32)) = False from eq_false (by decide), show (nI 9 = (6 : Int32)) = False from eq_false (by decide), show (nI 9 = (7 : Int32)) = False from eq_false (by decide), show (nI 9 = (8 : Int32)) = False from eq_false (by decide), show (nI 9 = (9 : Int32)) = True from eq_true (by decide), if_true, if_false]
  obtain ⟨a, ha, ea⟩ := g1 (by omega)
  obtain ⟨b, hb2, eb⟩ := g2 (by omega)
  have ca : (nI a).toNatClampNeg = a := n_cl (by omega)
  have cb : (nI b).toNatClampNeg = b := n_cl (by omega)
  have ba : (nI a < 0 ∨ 20 ≤ a) = False := eq_false (by rw [q0d (by omega)]; omega)
  have bb : (nI b < 0 ∨ 20 ≤ b) = False := eq_false (by rw [q0d (by omega)]; omega)
  simp only [ea, eb, ba, bb, ca, cb, if_false, hb a ha, hb b hb2]
  cases x.testBit a <;> cases x.testBit b <;> rfl
theorem fone_m10 {Vm : Mm} {nb nm nt n m i x : Nat} (hw : WN (Vm 1) nb nm nt) (hF : WF (Vm 1) nb nm nt) (hn : n ≤ 20) (hi : i < n) (ek : Vm 19 i = nI 10) (g1 : 8 ≤ 10 → ∃ a, a < i ∧ Vm 20 i = nI a) (g2 : (10 = 8 ∨ 10 = 9) → ∃ b, b < i ∧ Vm 21 i = nI b) (g3 : 10 = 5 → ∃ a, a < 4 ∧ Vm 20 i = nI a) (hm : m < nm) (h1 : Vm 1 (80 + 10 * m) = 1) (hb : ∀ j, j < i → Vm 22 j = b2i (x.testBit j = true)) :
    eX6_isOneFit (nI m) (nI i) Vm = some (b2i (fone (Vm 1) (Vm 19) (Vm 20) (Vm 21) m x i = true)) := by
  have h50 := hw.m50
  have v0 : eX6_mailPart 1 (nI m) 1 Vm = some (Vm 1 (80 + 10 * m + 1)) := mailPart_n (c := 1) (by omega) (by omega)
  have v4 : eX6_mailPart 1 (nI m) 5 Vm = some (Vm 1 (80 + 10 * m + 5)) := mailPart_n (c := 5) (by omega) (by omega)
  have v5 : eX6_mailPart 1 (nI m) 6 Vm = some (Vm 1 (80 + 10 * m + 6)) := mailPart_n (c := 6) (by omega) (by omega)
  have v6 : eX6_mailPart 1 (nI m) 7 Vm = some (Vm 1 (80 + 10 * m + 7)) := mailPart_n (c := 7) (by omega) (by omega)
  have v7 : eX6_mailPart 1 (nI m) 8 Vm = some (Vm 1 (80 + 10 * m + 8)) := mailPart_n (c := 8) (by omega) (by omega)
  have v8 : eX6_mailPart 1 (nI m) 9 Vm = some (Vm 1 (80 + 10 * m + 9)) := mailPart_n (c := 9) (by omega) (by omega)
  have ci : (nI i).toNatClampNeg = i := n_cl (by omega)
  have hbi : (nI i < 0 ∨ 20 ≤ i) = False := eq_false (by rw [q0d (by omega)]; omega)
  unfold eX6_isOneFit fone
  simp only [hbi, ci, ek, show (nI 10 = (0 : Int32)) = False from eq_false (by decide), show (nI 10 = (1 : Int32)) = False from eq_false (by decide), show (nI 10 = (2 : Int32)) = False from eq_false (by decide), show (nI 10 = (3 : Int32)) = False from eq_false (by decide), show (nI 10 = (4 : Int32)) = False from eq_false (by decide), show (nI 10 = (5 : Int32)) = False from eq_false (by decide), show (nI 10 = (6 : Int32)) = False from eq_false (by decide), show (nI 10 = (7 : Int32)) = False from eq_false (by decide), show (nI 10 = (8 : Int32)) = False from eq_false (by decide), show (nI 10 = (9 : Int32)) = False from eq_false (by decide), if_true, if_false]
  obtain ⟨a, ha, ea⟩ := g1 (by omega)
  have ca : (nI a).toNatClampNeg = a := n_cl (by omega)
  have ba : (nI a < 0 ∨ 20 ≤ a) = False := eq_false (by rw [q0d (by omega)]; omega)
  simp only [ea, ba, ca, if_false, hb a ha]
  cases x.testBit a <;> rfl
/-- the model's one filter -/
theorem fone_m {Vc Vm : Mm} {nb nm nt n m i x : Nat} (hw : WN (Vm 1) nb nm nt) (hF : WF (Vm 1) nb nm nt) (hn : n ≤ 20) (hi : i < n) (hf : filRel Vc Vm i) (hm : m < nm) (h1 : Vm 1 (80 + 10 * m) = 1) (hb : ∀ j, j < i → Vm 22 j = b2i (x.testBit j = true)) :
    eX6_isOneFit (nI m) (nI i) Vm = some (b2i (fone (Vm 1) (Vm 19) (Vm 20) (Vm 21) m x i = true)) := by
  obtain ⟨f1, f2, f3, kd, hk, ek, g1, g2, g3⟩ := hf
  have hk11 : kd = 0 ∨ kd = 1 ∨ kd = 2 ∨ kd = 3 ∨ kd = 4 ∨ kd = 5 ∨ kd = 6 ∨ kd = 7 ∨ kd = 8 ∨ kd = 9 ∨ kd = 10 := by omega
  rcases hk11 with rfl | rfl | rfl | rfl | rfl | rfl | rfl | rfl | rfl | rfl | rfl
  · exact fone_m0 hw hF hn hi ek g1 g2 g3 hm h1 hb
  · exact fone_m1 hw hF hn hi ek g1 g2 g3 hm h1 hb
  · exact fone_m2 hw hF hn hi ek g1 g2 g3 hm h1 hb
  · exact fone_m3 hw hF hn hi ek g1 g2 g3 hm h1 hb
  · exact fone_m4 hw hF hn hi ek g1 g2 g3 hm h1 hb
  · exact fone_m5 hw hF hn hi ek g1 g2 g3 hm h1 hb
  · exact fone_m6 hw hF hn hi ek g1 g2 g3 hm h1 hb
  · exact fone_m7 hw hF hn hi ek g1 g2 g3 hm h1 hb
  · exact fone_m8 hw hF hn hi ek g1 g2 g3 hm h1 hb
  · exact fone_m9 hw hF hn hi ek g1 g2 g3 hm h1 hb
  · exact fone_m10 hw hF hn hi ek g1 g2 g3 hm h1 hb
theorem or_nI {x i : Nat} (hi : i < 20) : nI x ||| (1 : Int32) <<< (nI i &&& 31) = nI (x ||| 2 ^ i) := by
  rw [n_shl20 hi]
  apply Int32.toBitVec_inj.mp
  show BitVec.ofNat 32 x ||| BitVec.ofNat 32 (2 ^ i) = BitVec.ofNat 32 (x ||| 2 ^ i)
  exact (BitVec.ofNat_or).symm
theorem passes_b {Vc Vm : Mm} {nb nm nt n m q : Nat} (hW : WRel Vc (Vm 1) nb nm nt) (hF : WF (Vm 1) nb nm nt) (hn : n ≤ 20) (hc : Vc 84 3 = nI n) (hf : ∀ i, i < n → filRel Vc Vm i) (hm : m < nm) (hq : q < n) :
    ∀ d f i, i + d = q + 1 → d < f → eX5_passes_b5 f (nI m) (nI q) (nI (fbits (Vm 1) (Vm 19) (Vm 20) (Vm 21) m i)) (nI i) Vc = some (b2i ((fbits (Vm 1) (Vm 19) (Vm 20) (Vm 21) m (q + 1)).testBit q = true)) := by
  intro d
  induction d with
  | zero =>
    intro f i hi hf2
    obtain ⟨f, rfl⟩ : ∃ f', f = f' + 1 := ⟨f - 1, by omega⟩
    have : i = q + 1 := by omega
    subst this
    have hlt : fbits (Vm 1) (Vm 19) (Vm 20) (Vm 21) m (q + 1) < 2 ^ 20 := Nat.lt_of_lt_of_le (fbits_lt _) (Nat.pow_le_pow_right (by omega) (by omega))
    rw [eX5_passes_b5]
    simp (disch := omega) only [q0a, q0b, q0c, q0d, q0e, q0f, p0_l, p0_r, p0_s, q1a, q1b, q1c, q1d, q1e, q1f, p1_l, p1_r, p1_s, q2a, q2b, q2c, q2d, q2e, q2f, p2_l, p2_r, p2_s, q3a, q3b, q3c, q3d, q3e, q3f, p3_l, p3_r, p3_s, q4a, q4b, q4c, q4d, q4e, q4f, p4_l, p4_r, p4_s, p4_m, q5a, q5b, q5c, q5d, q5e, q5f, p5_l, p5_r, p5_s, p5_m, q6a, q6b, q6c, q6d, q6e, q6f, p6_l, p6_r, p6_s, q7a, q7b, q7c, q7d, q7e, q7f, p7_l, p7_r, p7_s, q8a, q8b, q8c, q8d, q8e, q8f, p8_l, p8_r, p8_s, q9a, q9b, q9c, q9d, q9e, q9f, p9_l, p9_r, p9_s, q10a, q10b, q10c, q10d, q10e, q10f, p10_l, p10_r, p10_s, p10_m, q11a, q11b, q11c, q11d, q11e, q11f, p11_l, p11_r, p11_s, q12a, q12b, q12c, q12d, q12e, q12f, p12_l, p12_r, p12_s, q15a, q15b, q15c, q15d, q15e, q15f, p15_l, p15_r, p15_s, q19a, q19b, q19c, q19d, q19e, q19f, p19_l, p19_r, p19_s, q20a, q20b, q20c, q20d, q20e, q20f, p20_l, p20_r, p20_s, q31a, q31b, q31c, q31d, q31e, q31f, p31_l, p31_r, p31_s, q40a, q40b, q40c, q40d, q40e, q40f, p40_l, p40_r, p40_s, q48a, q48b, q48c, q48d, q48e, q48f, p48_l, p48_r, p48_s, q50a, q50b, q50c, q50d, q50e, q50f, p50_l, p50_r, p50_s, p50_m, q52a, q52b, q52c, q52d, q52e, q52f, p52_l, p52_r, p52_s, q60a, q60b, q60c, q60d, q60e, q60f, p60_l, p60_r, p60_s, q63a, q63b, q63c, q63d, q63e, q63f, p63_l, p63_r, p63_s, q80a, q80b, q80c, q80d, q80e, q80f, p80_l, p80_r, p80_s, q99a, q99b, q99c, q99d, q99e, q99f, p99_l, p99_r, p99_s, q100a, q100b, q100c, q100d, q100e, q100f, p100_l, p100_r, p100_s, q120a, q120b, q120c, q120d, q120e, q120f, p120_l, p120_r, p120_s, q240a, q240b, q240c, q240d, q240e, q240f, p240_l, p240_r, p240_s, q243a, q243b, q243c, q243d, q243e, q243f, p243_l, p243_r, p243_s, q244a, q244b, q244c, q244d, q244e, q244f, p244_l, p244_r, p244_s, q580a, q580b, q580c, q580d, q580e, q580f, p580_l, p580_r, p580_s, q581a, q581b, q581c, q581d, q581e, q581f, p581_l, p581_r, p581_s, q582a, q582b, q582c, q582d, q582e, q582f, p582_l, p582_r, p582_s, q583a, q583b, q583c, q583d, q583e, q583f, p583_l, p583_r, p583_s, q584a, q584b, q584c, q584d, q584e, q584f, p584_l, p584_r, p584_s, q585a, q585b, q585c, q585d, q585e, q585f, p585_l, p585_r, p585_s, q586a, q586b, q586c, q586d, q586e, q586f, p586_l, p586_r, p586_s, q999a, q999b, q999c, q999d, q999e, q999f, p999_l, p999_r, p999_s, q1000a, q1000b, q1000c, q1000d, q1000e, q1000f, p1000_l, p1000_r, p1000_s, q2400a, q2400b, q2400c, q2400d, q2400e, q2400f, p2400_l, p2400_r, p2400_s, q9999a, q9999b, q9999c, q9999d, q9999e, q9999f, p9999_l, p9999_r, p9999_s, I00, I01, I10, I11, n_le, n_lt, n_eq, n_cl, n_add, n_ne9, n_ne1, if_true, if_false, Option.bind_some, if_pos, if_neg, hasBit_n, b2b]
  | succ d ih =>
    intro f i hi hf2
    obtain ⟨f, rfl⟩ : ∃ f', f = f' + 1 := ⟨f - 1, by omega⟩
    have e1 := ih f (i + 1) (by omega) (by omega)
    have e2 := fone_c hW hF hn (show i < n by omega) (hf i (by omega)) hm (fbits_lt (w := Vm 1) (K := Vm 19) (A := Vm 20) (B := Vm 21) (m := m) i)
    rw [eX5_passes_b5, hc]
    simp (disch := omega) only [q0a, q0b, q0c, q0d, q0e, q0f, p0_l, p0_r, p0_s, q1a, q1b, q1c, q1d, q1e, q1f, p1_l, p1_r, p1_s, q2a, q2b, q2c, q2d, q2e, q2f, p2_l, p2_r, p2_s, q3a, q3b, q3c, q3d, q3e, q3f, p3_l, p3_r, p3_s, q4a, q4b, q4c, q4d, q4e, q4f, p4_l, p4_r, p4_s, p4_m, q5a, q5b, q5c, q5d, q5e, q5f, p5_l, p5_r, p5_s, p5_m, q6a, q6b, q6c, q6d, q6e, q6f, p6_l, p6_r, p6_s, q7a, q7b, q7c, q7d, q7e, q7f, p7_l, p7_r, p7_s, q8a, q8b, q8c, q8d, q8e, q8f, p8_l, p8_r, p8_s, q9a, q9b, q9c, q9d, q9e, q9f, p9_l, p9_r, p9_s, q10a, q10b, q10c, q10d, q10e, q10f, p10_l, p10_r, p10_s, p10_m, q11a, q11b, q11c, q11d, q11e, q11f, p11_l, p11_r, p11_s, q12a, q12b, q12c, q12d, q12e, q12f, p12_l, p12_r, p12_s, q15a, q15b, q15c, q15d, q15e, q15f, p15_l, p15_r, p15_s, q19a, q19b, q19c, q19d, q19e, q19f, p19_l, p19_r, p19_s, q20a, q20b, q20c, q20d, q20e, q20f, p20_l, p20_r, p20_s, q31a, q31b, q31c, q31d, q31e, q31f, p31_l, p31_r, p31_s, q40a, q40b, q40c, q40d, q40e, q40f, p40_l, p40_r, p40_s, q48a, q48b, q48c, q48d, q48e, q48f, p48_l, p48_r, p48_s, q50a, q50b, q50c, q50d, q50e, q50f, p50_l, p50_r, p50_s, p50_m, q52a, q52b, q52c, q52d, q52e, q52f, p52_l, p52_r, p52_s, q60a, q60b, q60c, q60d, q60e, q60f, p60_l, p60_r, p60_s, q63a, q63b, q63c, q63d, q63e, q63f, p63_l, p63_r, p63_s, q80a, q80b, q80c, q80d, q80e, q80f, p80_l, p80_r, p80_s, q99a, q99b, q99c, q99d, q99e, q99f, p99_l, p99_r, p99_s, q100a, q100b, q100c, q100d, q100e, q100f, p100_l, p100_r, p100_s, q120a, q120b, q120c, q120d, q120e, q120f, p120_l, p120_r, p120_s, q240a, q240b, q240c, q240d, q240e, q240f, p240_l, p240_r, p240_s, q243a, q243b, q243c, q243d, q243e, q243f, p243_l, p243_r, p243_s, q244a, q244b, q244c, q244d, q244e, q244f, p244_l, p244_r, p244_s, q580a, q580b, q580c, q580d, q580e, q580f, p580_l, p580_r, p580_s, q581a, q581b, q581c, q581d, q581e, q581f, p581_l, p581_r, p581_s, q582a, q582b, q582c, q582d, q582e, q582f, p582_l, p582_r, p582_s, q583a, q583b, q583c, q583d, q583e, q583f, p583_l, p583_r, p583_s, q584a, q584b, q584c, q584d, q584e, q584f, p584_l, p584_r, p584_s, q585a, q585b, q585c, q585d, q585e, q585f, p585_l, p585_r, p585_s, q586a, q586b, q586c, q586d, q586e, q586f, p586_l, p586_r, p586_s, q999a, q999b, q999c, q999d, q999e, q999f, p999_l, p999_r, p999_s, q1000a, q1000b, q1000c, q1000d, q1000e, q1000f, p1000_l, p1000_r, p1000_s, q2400a, q2400b, q2400c, q2400d, q2400e, q2400f, p2400_l, p2400_r, p2400_s, q9999a, q9999b, q9999c, q9999d, q9999e, q9999f, p9999_l, p9999_r, p9999_s, I00, I01, I10, I11, n_le, n_lt, n_eq, n_cl, n_add, n_ne9, n_ne1, if_true, if_false, Option.bind_some, if_pos, if_neg, e2, or_nI, or_pow (fbits_lt i)]
    cases hv : fone (Vm 1) (Vm 19) (Vm 20) (Vm 21) m (fbits (Vm 1) (Vm 19) (Vm 20) (Vm 21) m i) i
    · have : fbits (Vm 1) (Vm 19) (Vm 20) (Vm 21) m (i + 1) = fbits (Vm 1) (Vm 19) (Vm 20) (Vm 21) m i := by
        show fbits _ _ _ _ m i + (if _ then 2 ^ i else 0) = _
        rw [hv]; rfl
      rw [this] at e1
      rw [if_pos (show b2i (false = true) = 0 from rfl)]
      exact e1
    · have : fbits (Vm 1) (Vm 19) (Vm 20) (Vm 21) m (i + 1) = fbits (Vm 1) (Vm 19) (Vm 20) (Vm 21) m i + 2 ^ i := by
        show fbits _ _ _ _ m i + (if _ then 2 ^ i else 0) = _
        rw [hv]; rfl
      rw [this] at e1
      rw [if_neg (show ¬ b2i (true = true) = 0 by decide)]
      exact e1
theorem passes_n {Vc Vm : Mm} {nb nm nt n m q : Nat} (hW : WRel Vc (Vm 1) nb nm nt) (hF : WF (Vm 1) nb nm nt) (hn : n ≤ 20) (hc : Vc 84 3 = nI n) (hf : ∀ i, i < n → filRel Vc Vm i) (hm : m < nm) (hq : q < n) : eX5_passes (nI m) (nI q) Vc = some (b2i ((fbits (Vm 1) (Vm 19) (Vm 20) (Vm 21) m (q + 1)).testBit q = true)) :=
  passes_b hW hF hn hc hf hm hq (q + 1) fu 0 (by omega) (by unfold fu; omega)
theorem isFit_b {Vc : Mm} {nb nm nt n m q : Nat} (hn : n ≤ 20) (hq : q < n) :
    ∀ d f i (Vm : Mm), WN (Vm 1) nb nm nt → WF (Vm 1) nb nm nt → (∀ i, i < n → filRel Vc Vm i) → m < nm → Vm 1 (80 + 10 * m) = 1 → i + d = q + 1 → d < f → (∀ j, j < i → Vm 22 j = b2i ((fbits (Vm 1) (Vm 19) (Vm 20) (Vm 21) m i).testBit j = true)) →
    ∃ Vm2 : Mm, eX6_isFit_b2 f (nI m) (nI q) (nI i) Vm = some (b2i ((fbits (Vm 1) (Vm 19) (Vm 20) (Vm 21) m (q + 1)).testBit q = true), Vm2) ∧ ∀ c, c ≠ 22 → Vm2 c = Vm c := by
  intro d
  induction d with
  | zero =>
    intro f i Vm hw hF hf hm h1 hi hf2 hb
    obtain ⟨f, rfl⟩ : ∃ f', f = f' + 1 := ⟨f - 1, by omega⟩
    have : i = q + 1 := by omega
    subst this
    refine ⟨Vm, ?_, fun c _ => rfl⟩
    rw [eX6_isFit_b2]
    simp (disch := omega) only [q0a, q0b, q0c, q0d, q0e, q0f, p0_l, p0_r, p0_s, q1a, q1b, q1c, q1d, q1e, q1f, p1_l, p1_r, p1_s, q2a, q2b, q2c, q2d, q2e, q2f, p2_l, p2_r, p2_s, q3a, q3b, q3c, q3d, q3e, q3f, p3_l, p3_r, p3_s, q4a, q4b, q4c, q4d, q4e, q4f, p4_l, p4_r, p4_s, p4_m, q5a, q5b, q5c, q5d, q5e, q5f, p5_l, p5_r, p5_s, p5_m, q6a, q6b, q6c, q6d, q6e, q6f, p6_l, p6_r, p6_s, q7a, q7b, q7c, q7d, q7e, q7f, p7_l, p7_r, p7_s, q8a, q8b, q8c, q8d, q8e, q8f, p8_l, p8_r, p8_s, q9a, q9b, q9c, q9d, q9e, q9f, p9_l, p9_r, p9_s, q10a, q10b, q10c, q10d, q10e, q10f, p10_l, p10_r, p10_s, p10_m, q11a, q11b, q11c, q11d, q11e, q11f, p11_l, p11_r, p11_s, q12a, q12b, q12c, q12d, q12e, q12f, p12_l, p12_r, p12_s, q15a, q15b, q15c, q15d, q15e, q15f, p15_l, p15_r, p15_s, q19a, q19b, q19c, q19d, q19e, q19f, p19_l, p19_r, p19_s, q20a, q20b, q20c, q20d, q20e, q20f, p20_l, p20_r, p20_s, q31a, q31b, q31c, q31d, q31e, q31f, p31_l, p31_r, p31_s, q40a, q40b, q40c, q40d, q40e, q40f, p40_l, p40_r, p40_s, q48a, q48b, q48c, q48d, q48e, q48f, p48_l, p48_r, p48_s, q50a, q50b, q50c, q50d, q50e, q50f, p50_l, p50_r, p50_s, p50_m, q52a, q52b, q52c, q52d, q52e, q52f, p52_l, p52_r, p52_s, q60a, q60b, q60c, q60d, q60e, q60f, p60_l, p60_r, p60_s, q63a, q63b, q63c, q63d, q63e, q63f, p63_l, p63_r, p63_s, q80a, q80b, q80c, q80d, q80e, q80f, p80_l, p80_r, p80_s, q99a, q99b, q99c, q99d, q99e, q99f, p99_l, p99_r, p99_s, q100a, q100b, q100c, q100d, q100e, q100f, p100_l, p100_r, p100_s, q120a, q120b, q120c, q120d, q120e, q120f, p120_l, p120_r, p120_s, q240a, q240b, q240c, q240d, q240e, q240f, p240_l, p240_r, p240_s, q243a, q243b, q243c, q243d, q243e, q243f, p243_l, p243_r, p243_s, q244a, q244b, q244c, q244d, q244e, q244f, p244_l, p244_r, p244_s, q580a, q580b, q580c, q580d, q580e, q580f, p580_l, p580_r, p580_s, q581a, q581b, q581c, q581d, q581e, q581f, p581_l, p581_r, p581_s, q582a, q582b, q582c, q582d, q582e, q582f, p582_l, p582_r, p582_s, q583a, q583b, q583c, q583d, q583e, q583f, p583_l, p583_r, p583_s, q584a, q584b, q584c, q584d, q584e, q584f, p584_l, p584_r, p584_s, q585a, q585b, q585c, q585d, q585e, q585f, p585_l, p585_r, p585_s, q586a, q586b, q586c, q586d, q586e, q586f, p586_l, p586_r, p586_s, q999a, q999b, q999c, q999d, q999e, q999f, p999_l, p999_r, p999_s, q1000a, q1000b, q1000c, q1000d, q1000e, q1000f, p1000_l, p1000_r, p1000_s, q2400a, q2400b, q2400c, q2400d, q2400e, q2400f, p2400_l, p2400_r, p2400_s, q9999a, q9999b, q9999c, q9999d, q9999e, q9999f, p9999_l, p9999_r, p9999_s, I00, I01, I10, I11, n_le, n_lt, n_eq, n_cl, n_add, n_ne9, n_ne1, if_true, if_false, Option.bind_some, if_pos, if_neg, hb q (by omega), b2b]
  | succ d ih =>
    intro f i Vm hw hF hf hm h1 hi hf2 hb
    obtain ⟨f, rfl⟩ : ∃ f', f = f' + 1 := ⟨f - 1, by omega⟩
    have e2 := fone_m hw hF hn (show i < n by omega) (hf i (by omega)) hm h1 hb
    rw [eX6_isFit_b2]
    simp (disch := omega) only [q0a, q0b, q0c, q0d, q0e, q0f, p0_l, p0_r, p0_s, q1a, q1b, q1c, q1d, q1e, q1f, p1_l, p1_r, p1_s, q2a, q2b, q2c, q2d, q2e, q2f, p2_l, p2_r, p2_s, q3a, q3b, q3c, q3d, q3e, q3f, p3_l, p3_r, p3_s, q4a, q4b, q4c, q4d, q4e, q4f, p4_l, p4_r, p4_s, p4_m, q5a, q5b, q5c, q5d, q5e, q5f, p5_l, p5_r, p5_s, p5_m, q6a, q6b, q6c, q6d, q6e, q6f, p6_l, p6_r, p6_s, q7a, q7b, q7c, q7d, q7e, q7f, p7_l, p7_r, p7_s, q8a, q8b, q8c, q8d, q8e, q8f, p8_l, p8_r, p8_s, q9a, q9b, q9c, q9d, q9e, q9f, p9_l, p9_r, p9_s, q10a, q10b, q10c, q10d, q10e, q10f, p10_l, p10_r, p10_s, p10_m, q11a, q11b, q11c, q11d, q11e, q11f, p11_l, p11_r, p11_s, q12a, q12b, q12c, q12d, q12e, q12f, p12_l, p12_r, p12_s, q15a, q15b, q15c, q15d, q15e, q15f, p15_l, p15_r, p15_s, q19a, q19b, q19c, q19d, q19e, q19f, p19_l, p19_r, p19_s, q20a, q20b, q20c, q20d, q20e, q20f, p20_l, p20_r, p20_s, q31a, q31b, q31c, q31d, q31e, q31f, p31_l, p31_r, p31_s, q40a, q40b, q40c, q40d, q40e, q40f, p40_l, p40_r, p40_s, q48a, q48b, q48c, q48d, q48e, q48f, p48_l, p48_r, p48_s, q50a, q50b, q50c, q50d, q50e, q50f, p50_l, p50_r, p50_s, p50_m, q52a, q52b, q52c, q52d, q52e, q52f, p52_l, p52_r, p52_s, q60a, q60b, q60c, q60d, q60e, q60f, p60_l, p60_r, p60_s, q63a, q63b, q63c, q63d, q63e, q63f, p63_l, p63_r, p63_s, q80a, q80b, q80c, q80d, q80e, q80f, p80_l, p80_r, p80_s, q99a, q99b, q99c, q99d, q99e, q99f, p99_l, p99_r, p99_s, q100a, q100b, q100c, q100d, q100e, q100f, p100_l, p100_r, p100_s, q120a, q120b, q120c, q120d, q120e, q120f, p120_l, p120_r, p120_s, q240a, q240b, q240c, q240d, q240e, q240f, p240_l, p240_r, p240_s, q243a, q243b, q243c, q243d, q243e, q243f, p243_l, p243_r, p243_s, q244a, q244b, q244c, q244d, q244e, q244f, p244_l, p244_r, p244_s, q580a, q580b, q580c, q580d, q580e, q580f, p580_l, p580_r, p580_s, q581a, q581b, q581c, q581d, q581e, q581f, p581_l, p581_r, p581_s, q582a, q582b, q582c, q582d, q582e, q582f, p582_l, p582_r, p582_s, q583a, q583b, q583c, q583d, q583e, q583f, p583_l, p583_r, p583_s, q584a, q584b, q584c, q584d, q584e, q584f, p584_l, p584_r, p584_s, q585a, q585b, q585c, q585d, q585e, q585f, p585_l, p585_r, p585_s, q586a, q586b, q586c, q586d, q586e, q586f, p586_l, p586_r, p586_s, q999a, q999b, q999c, q999d, q999e, q999f, p999_l, p999_r, p999_s, q1000a, q1000b, q1000c, q1000d, q1000e, q1000f, p1000_l, p1000_r, p1000_s, q2400a, q2400b, q2400c, q2400d, q2400e, q2400f, p2400_l, p2400_r, p2400_s, q9999a, q9999b, q9999c, q9999d, q9999e, q9999f, p9999_l, p9999_r, p9999_s, I00, I01, I10, I11, n_le, n_lt, n_eq, n_cl, n_add, n_ne9, n_ne1, if_true, if_false, Option.bind_some, if_pos, if_neg, e2, narB]
    have w1 : (wr Vm 22 i (b2i (fone (Vm 1) (Vm 19) (Vm 20) (Vm 21) m (fbits (Vm 1) (Vm 19) (Vm 20) (Vm 21) m i) i = true))) 1 = Vm 1 := wr_ne (by omega)
    have w19 : (wr Vm 22 i (b2i (fone (Vm 1) (Vm 19) (Vm 20) (Vm 21) m (fbits (Vm 1) (Vm 19) (Vm 20) (Vm 21) m i) i = true))) 19 = Vm 19 := wr_ne (by omega)
    have w20 : (wr Vm 22 i (b2i (fone (Vm 1) (Vm 19) (Vm 20) (Vm 21) m (fbits (Vm 1) (Vm 19) (Vm 20) (Vm 21) m i) i = true))) 20 = Vm 20 := wr_ne (by omega)
    have w21 : (wr Vm 22 i (b2i (fone (Vm 1) (Vm 19) (Vm 20) (Vm 21) m (fbits (Vm 1) (Vm 19) (Vm 20) (Vm 21) m i) i = true))) 21 = Vm 21 := wr_ne (by omega)
    obtain ⟨Vm2, e3, e4⟩ := ih f (i + 1) (wr Vm 22 i (b2i (fone (Vm 1) (Vm 19) (Vm 20) (Vm 21) m (fbits (Vm 1) (Vm 19) (Vm 20) (Vm 21) m i) i = true)))
      (by rw [w1]; exact hw) (by rw [w1]; exact hF) (fun i2 hi2 => by have := hf i2 hi2; unfold filRel at this ⊢; rw [w19, w20, w21]; exact this) hm (by rw [w1]; exact h1) (by omega) (by omega)
      (fun j hj => by
        rw [w1, w19, w20, w21]
        by_cases hji : j = i
        · subst hji
          rw [wr_at, fb_at]
        · rw [wr_in hji, fb_lo (by omega)]
          exact hb j (by omega))
    rw [w1, w19, w20, w21] at e3
    exact ⟨Vm2, e3, fun c hc => (e4 c hc).trans (wr_ne hc)⟩
theorem isFit_n {Vc Vm : Mm} {nb nm nt n m q : Nat} (hw : WN (Vm 1) nb nm nt) (hF : WF (Vm 1) nb nm nt) (hn : n ≤ 20) (hf : ∀ i, i < n → filRel Vc Vm i) (hm : m < nm) (h1 : Vm 1 (80 + 10 * m) = 1) (hq : q < n) :
    ∃ Vm2 : Mm, eX6_isFit (nI m) (nI q) Vm = some (b2i ((fbits (Vm 1) (Vm 19) (Vm 20) (Vm 21) m (q + 1)).testBit q = true), Vm2) ∧ ∀ c, c ≠ 22 → Vm2 c = Vm c :=
  isFit_b hn hq (q + 1) fu 0 Vm hw hF hf hm h1 (by omega) (by unfold fu; omega) (fun j hj => absurd hj (by omega))

theorem sim_fits {k : Nat} {Vc Vm : Mm} (h : RR k Vc Vm) (a1 a2 : Int32) : Sim3 RR k Vc Vm (eX5_fits a1 a2) (eX6_fits a1 a2) := by
  obtain ⟨nb, nm, nt, hW, hF⟩ := h.2.2.2.2.2.2.1
  obtain ⟨n, hn, hc, hm24, hf⟩ := h.2.2.2.2.1
  have hw := WRel_WN hW
  have h50 := hw.m50
  have h20 := hw.b20
  rcases n_cases a1 with hx | ⟨j, hj, rfl⟩
  · refine ⟨-1, Vm, ?_, ?_, RR_mono h⟩
    · unfold eX5_fits; rw [isThere_neg hx]; rfl
    · unfold eX6_fits; rw [mMail_neg hx]; rfl
  · have ec : eX2_isThere 28 (nI j) Vc = some (b2i (isTh (Vm 1) nb nm nt 1 j)) := isThere_K hW (κ := 1) (by omega) hj
    by_cases ht : isTh (Vm 1) nb nm nt 1 j
    · have ht2 := isTh_1.mp ht
      have hb := ht2.1
      have h1 := ht2.2
      by_cases hq : ∃ q, q < n ∧ a2 = nI q
      · obtain ⟨q, hqn, rfl⟩ := hq
        have e1 := passes_n hW hF hn hc hf hb hqn
        obtain ⟨Vm2, e2, e3⟩ := isFit_n hw hF hn hf hb h1 hqn
        refine ⟨b2i ((fbits (Vm 1) (Vm 19) (Vm 20) (Vm 21) j (q + 1)).testBit q = true), Vm2, ?_, ?_, ?_⟩
        · unfold eX5_fits
          rw [ec, filThere hc]
          simp (disch := omega) only [q0a, q0b, q0c, q0d, q0e, q0f, p0_l, p0_r, p0_s, q1a, q1b, q1c, q1d, q1e, q1f, p1_l, p1_r, p1_s, q2a, q2b, q2c, q2d, q2e, q2f, p2_l, p2_r, p2_s, q3a, q3b, q3c, q3d, q3e, q3f, p3_l, p3_r, p3_s, q4a, q4b, q4c, q4d, q4e, q4f, p4_l, p4_r, p4_s, p4_m, q5a, q5b, q5c, q5d, q5e, q5f, p5_l, p5_r, p5_s, p5_m, q6a, q6b, q6c, q6d, q6e, q6f, p6_l, p6_r, p6_s, q7a, q7b, q7c, q7d, q7e, q7f, p7_l, p7_r, p7_s, q8a, q8b, q8c, q8d, q8e, q8f, p8_l, p8_r, p8_s, q9a, q9b, q9c, q9d, q9e, q9f, p9_l, p9_r, p9_s, q10a, q10b, q10c, q10d, q10e, q10f, p10_l, p10_r, p10_s, p10_m, q11a, q11b, q11c, q11d, q11e, q11f, p11_l, p11_r, p11_s, q12a, q12b, q12c, q12d, q12e, q12f, p12_l, p12_r, p12_s, q15a, q15b, q15c, q15d, q15e, q15f, p15_l, p15_r, p15_s, q19a, q19b, q19c, q19d, q19e, q19f, p19_l, p19_r, p19_s, q20a, q20b, q20c, q20d, q20e, q20f, p20_l, p20_r, p20_s, q31a, q31b, q31c, q31d, q31e, q31f, p31_l, p31_r, p31_s, q40a, q40b, q40c, q40d, q40e, q40f, p40_l, p40_r, p40_s, q48a, q48b, q48c, q48d, q48e, q48f, p48_l, p48_r, p48_s, q50a, q50b, q50c, q50d, q50e, q50f, p50_l, p50_r, p50_s, p50_m, q52a, q52b, q52c, q52d, q52e, q52f, p52_l, p52_r, p52_s, q60a, q60b, q60c, q60d, q60e, q60f, p60_l, p60_r, p60_s, q63a, q63b, q63c, q63d, q63e, q63f, p63_l, p63_r, p63_s, q80a, q80b, q80c, q80d, q80e, q80f, p80_l, p80_r, p80_s, q99a, q99b, q99c, q99d, q99e, q99f, p99_l, p99_r, p99_s, q100a, q100b, q100c, q100d, q100e, q100f, p100_l, p100_r, p100_s, q120a, q120b, q120c, q120d, q120e, q120f, p120_l, p120_r, p120_s, q240a, q240b, q240c, q240d, q240e, q240f, p240_l, p240_r, p240_s, q243a, q243b, q243c, q243d, q243e, q243f, p243_l, p243_r, p243_s, q244a, q244b, q244c, q244d, q244e, q244f, p244_l, p244_r, p244_s, q580a, q580b, q580c, q580d, q580e, q580f, p580_l, p580_r, p580_s, q581a, q581b, q581c, q581d, q581e, q581f, p581_l, p581_r, p581_s, q582a, q582b, q582c, q582d, q582e, q582f, p582_l, p582_r, p582_s, q583a, q583b, q583c, q583d, q583e, q583f, p583_l, p583_r, p583_s, q584a, q584b, q584c, q584d, q584e, q584f, p584_l, p584_r, p584_s, q585a, q585b, q585c, q585d, q585e, q585f, p585_l, p585_r, p585_s, q586a, q586b, q586c, q586d, q586e, q586f, p586_l, p586_r, p586_s, q999a, q999b, q999c, q999d, q999e, q999f, p999_l, p999_r, p999_s, q1000a, q1000b, q1000c, q1000d, q1000e, q1000f, p1000_l, p1000_r, p1000_s, q2400a, q2400b, q2400c, q2400d, q2400e, q2400f, p2400_l, p2400_r, p2400_s, q9999a, q9999b, q9999c, q9999d, q9999e, q9999f, p9999_l, p9999_r, p9999_s, I00, I01, I10, I11, n_le, n_lt, n_eq, n_cl, n_add, n_ne9, n_ne1, if_true, if_false, Option.bind_some, if_pos, if_neg, b2i_T ht, e1]
          cases (fbits (Vm 1) (Vm 19) (Vm 20) (Vm 21) j (q + 1)).testBit q <;> rfl
        · unfold eX6_fits
          rw [hm24]
          simp only [filWith hn]
          simp (disch := omega) only [q0a, q0b, q0c, q0d, q0e, q0f, p0_l, p0_r, p0_s, q1a, q1b, q1c, q1d, q1e, q1f, p1_l, p1_r, p1_s, q2a, q2b, q2c, q2d, q2e, q2f, p2_l, p2_r, p2_s, q3a, q3b, q3c, q3d, q3e, q3f, p3_l, p3_r, p3_s, q4a, q4b, q4c, q4d, q4e, q4f, p4_l, p4_r, p4_s, p4_m, q5a, q5b, q5c, q5d, q5e, q5f, p5_l, p5_r, p5_s, p5_m, q6a, q6b, q6c, q6d, q6e, q6f, p6_l, p6_r, p6_s, q7a, q7b, q7c, q7d, q7e, q7f, p7_l, p7_r, p7_s, q8a, q8b, q8c, q8d, q8e, q8f, p8_l, p8_r, p8_s, q9a, q9b, q9c, q9d, q9e, q9f, p9_l, p9_r, p9_s, q10a, q10b, q10c, q10d, q10e, q10f, p10_l, p10_r, p10_s, p10_m, q11a, q11b, q11c, q11d, q11e, q11f, p11_l, p11_r, p11_s, q12a, q12b, q12c, q12d, q12e, q12f, p12_l, p12_r, p12_s, q15a, q15b, q15c, q15d, q15e, q15f, p15_l, p15_r, p15_s, q19a, q19b, q19c, q19d, q19e, q19f, p19_l, p19_r, p19_s, q20a, q20b, q20c, q20d, q20e, q20f, p20_l, p20_r, p20_s, q31a, q31b, q31c, q31d, q31e, q31f, p31_l, p31_r, p31_s, q40a, q40b, q40c, q40d, q40e, q40f, p40_l, p40_r, p40_s, q48a, q48b, q48c, q48d, q48e, q48f, p48_l, p48_r, p48_s, q50a, q50b, q50c, q50d, q50e, q50f, p50_l, p50_r, p50_s, p50_m, q52a, q52b, q52c, q52d, q52e, q52f, p52_l, p52_r, p52_s, q60a, q60b, q60c, q60d, q60e, q60f, p60_l, p60_r, p60_s, q63a, q63b, q63c, q63d, q63e, q63f, p63_l, p63_r, p63_s, q80a, q80b, q80c, q80d, q80e, q80f, p80_l, p80_r, p80_s, q99a, q99b, q99c, q99d, q99e, q99f, p99_l, p99_r, p99_s, q100a, q100b, q100c, q100d, q100e, q100f, p100_l, p100_r, p100_s, q120a, q120b, q120c, q120d, q120e, q120f, p120_l, p120_r, p120_s, q240a, q240b, q240c, q240d, q240e, q240f, p240_l, p240_r, p240_s, q243a, q243b, q243c, q243d, q243e, q243f, p243_l, p243_r, p243_s, q244a, q244b, q244c, q244d, q244e, q244f, p244_l, p244_r, p244_s, q580a, q580b, q580c, q580d, q580e, q580f, p580_l, p580_r, p580_s, q581a, q581b, q581c, q581d, q581e, q581f, p581_l, p581_r, p581_s, q582a, q582b, q582c, q582d, q582e, q582f, p582_l, p582_r, p582_s, q583a, q583b, q583c, q583d, q583e, q583f, p583_l, p583_r, p583_s, q584a, q584b, q584c, q584d, q584e, q584f, p584_l, p584_r, p584_s, q585a, q585b, q585c, q585d, q585e, q585f, p585_l, p585_r, p585_s, q586a, q586b, q586c, q586d, q586e, q586f, p586_l, p586_r, p586_s, q999a, q999b, q999c, q999d, q999e, q999f, p999_l, p999_r, p999_s, q1000a, q1000b, q1000c, q1000d, q1000e, q1000f, p1000_l, p1000_r, p1000_s, q2400a, q2400b, q2400c, q2400d, q2400e, q2400f, p2400_l, p2400_r, p2400_s, q9999a, q9999b, q9999c, q9999d, q9999e, q9999f, p9999_l, p9999_r, p9999_s, I00, I01, I10, I11, n_le, n_lt, n_eq, n_cl, n_add, n_ne9, n_ne1, if_true, if_false, Option.bind_some, if_pos, if_neg, mMail_n hw, b2i_T ht2, e2]
          cases (fbits (Vm 1) (Vm 19) (Vm 20) (Vm 21) j (q + 1)).testBit q <;> rfl
        · obtain ⟨h1, h2, h3, h4, h5, h6, h7, h8, h9⟩ := RR_mono h
          refine ⟨rDraft_fr h1 rfl (e3 4 (by omega)), rPut_fr h2 rfl (by rw [e3 0 (by omega)]) (fun q hq => ⟨rfl, rfl⟩) (e3 5 (by omega)) (e3 6 (by omega)) (e3 7 (by omega)), rOut_fr h3 rfl (by rw [e3 0 (by omega)]) (fun q hq => ⟨rfl, rfl, fun r hr => rfl⟩) (e3 8 (by omega)) (e3 9 (by omega)) (e3 10 (by omega)), rCrash_fr h4 rfl (by rw [e3 0 (by omega)]), rFil_fr h5 rfl (by rw [e3 0 (by omega)]) rfl rfl rfl (e3 19 (by omega)) (e3 20 (by omega)) (e3 21 (by omega)), rLog_fr h6 rfl (by rw [e3 0 (by omega)]) rfl rfl rfl rfl rfl (e3 11 (by omega)) (e3 12 (by omega)) (e3 13 (by omega)) (e3 14 (by omega)) (e3 15 (by omega)), rWorld_fr h7 ⟨rfl, rfl, rfl⟩ ⟨rfl, rfl, rfl⟩ ⟨rfl, rfl, rfl⟩ ⟨rfl, rfl, rfl, rfl⟩ (fun c hc => rfl) ⟨rfl, rfl⟩ (e3 1 (by omega)), rClean_fr h8 ⟨rfl, rfl, rfl⟩ rfl rfl rfl, rLogInv_fr h9 (Nat.le_refl _) (by rw [e3 0 (by omega)]) (e3 1 (by omega)) (e3 11 (by omega)) (e3 12 (by omega)) (e3 13 (by omega)) (e3 14 (by omega)) (e3 15 (by omega))⟩
      · have tz : (if a2 < 0 then (0 : Int32) else if nI n ≤ a2 then 0 else 1) = 0 := by
          rcases n_cases a2 with hy | ⟨q, hq2, rfl⟩
          · rw [if_pos hy]
          · have : ¬ q < n := fun z => hq ⟨q, z, rfl⟩
            simp (disch := omega) only [q0a, q0b, q0c, q0d, q0e, q0f, p0_l, p0_r, p0_s, q1a, q1b, q1c, q1d, q1e, q1f, p1_l, p1_r, p1_s, q2a, q2b, q2c, q2d, q2e, q2f, p2_l, p2_r, p2_s, q3a, q3b, q3c, q3d, q3e, q3f, p3_l, p3_r, p3_s, q4a, q4b, q4c, q4d, q4e, q4f, p4_l, p4_r, p4_s, p4_m, q5a, q5b, q5c, q5d, q5e, q5f, p5_l, p5_r, p5_s, p5_m, q6a, q6b, q6c, q6d, q6e, q6f, p6_l, p6_r, p6_s, q7a, q7b, q7c, q7d, q7e, q7f, p7_l, p7_r, p7_s, q8a, q8b, q8c, q8d, q8e, q8f, p8_l, p8_r, p8_s, q9a, q9b, q9c, q9d, q9e, q9f, p9_l, p9_r, p9_s, q10a, q10b, q10c, q10d, q10e, q10f, p10_l, p10_r, p10_s, p10_m, q11a, q11b, q11c, q11d, q11e, q11f, p11_l, p11_r, p11_s, q12a, q12b, q12c, q12d, q12e, q12f, p12_l, p12_r, p12_s, q15a, q15b, q15c, q15d, q15e, q15f, p15_l, p15_r, p15_s, q19a, q19b, q19c, q19d, q19e, q19f, p19_l, p19_r, p19_s, q20a, q20b, q20c, q20d, q20e, q20f, p20_l, p20_r, p20_s, q31a, q31b, q31c, q31d, q31e, q31f, p31_l, p31_r, p31_s, q40a, q40b, q40c, q40d, q40e, q40f, p40_l, p40_r, p40_s, q48a, q48b, q48c, q48d, q48e, q48f, p48_l, p48_r, p48_s, q50a, q50b, q50c, q50d, q50e, q50f, p50_l, p50_r, p50_s, p50_m, q52a, q52b, q52c, q52d, q52e, q52f, p52_l, p52_r, p52_s, q60a, q60b, q60c, q60d, q60e, q60f, p60_l, p60_r, p60_s, q63a, q63b, q63c, q63d, q63e, q63f, p63_l, p63_r, p63_s, q80a, q80b, q80c, q80d, q80e, q80f, p80_l, p80_r, p80_s, q99a, q99b, q99c, q99d, q99e, q99f, p99_l, p99_r, p99_s, q100a, q100b, q100c, q100d, q100e, q100f, p100_l, p100_r, p100_s, q120a, q120b, q120c, q120d, q120e, q120f, p120_l, p120_r, p120_s, q240a, q240b, q240c, q240d, q240e, q240f, p240_l, p240_r, p240_s, q243a, q243b, q243c, q243d, q243e, q243f, p243_l, p243_r, p243_s, q244a, q244b, q244c, q244d, q244e, q244f, p244_l, p244_r, p244_s, q580a, q580b, q580c, q580d, q580e, q580f, p580_l, p580_r, p580_s, q581a, q581b, q581c, q581d, q581e, q581f, p581_l, p581_r, p581_s, q582a, q582b, q582c, q582d, q582e, q582f, p582_l, p582_r, p582_s, q583a, q583b, q583c, q583d, q583e, q583f, p583_l, p583_r, p583_s, q584a, q584b, q584c, q584d, q584e, q584f, p584_l, p584_r, p584_s, q585a, q585b, q585c, q585d, q585e, q585f, p585_l, p585_r, p585_s, q586a, q586b, q586c, q586d, q586e, q586f, p586_l, p586_r, p586_s, q999a, q999b, q999c, q999d, q999e, q999f, p999_l, p999_r, p999_s, q1000a, q1000b, q1000c, q1000d, q1000e, q1000f, p1000_l, p1000_r, p1000_s, q2400a, q2400b, q2400c, q2400d, q2400e, q2400f, p2400_l, p2400_r, p2400_s, q9999a, q9999b, q9999c, q9999d, q9999e, q9999f, p9999_l, p9999_r, p9999_s, I00, I01, I10, I11, n_le, n_lt, n_eq, n_cl, n_add, n_ne9, n_ne1, if_true, if_false, Option.bind_some, if_pos, if_neg]
        refine ⟨-1, Vm, ?_, ?_, RR_mono h⟩
        · unfold eX5_fits
          rw [ec, filThere hc, tz, b2i_T ht]; rfl
        · unfold eX6_fits
          rw [hm24, mMail_n hw hj, b2i_T ht2]
          simp only [filWith hn, tz, Option.bind_some, I10, I00, if_true, if_false]
    · refine ⟨-1, Vm, ?_, ?_, RR_mono h⟩
      · unfold eX5_fits; rw [ec, b2i_F ht]; rfl
      · unfold eX6_fits; rw [mMail_n hw hj, b2i_F (fun z => ht (isTh_1.mpr z))]; rfl
