
/-! bits -/
theorem n_and (a b : Nat) : nI a &&& nI b = nI (a &&& b) := by
  apply Int32.toBitVec_inj.mp
  show BitVec.ofNat 32 a &&& BitVec.ofNat 32 b = BitVec.ofNat 32 (a &&& b)
  exact (BitVec.ofNat_and).symm
theorem n_bitv {a : Nat} : (nI a).toBitVec = BitVec.ofNat 32 a := rfl
theorem n_shr {x : Nat} {s : Int32} {j : Nat} (hx : x < 2147483648) (hs : (s.toBitVec.smod 32).toNat = j) : nI x >>> s = nI (x >>> j) := by
  apply Int32.toBitVec_inj.mp
  show (BitVec.ofNat 32 x).sshiftRight' (s.toBitVec.smod 32) = BitVec.ofNat 32 (x >>> j)
  unfold BitVec.sshiftRight'
  rw [hs, BitVec.sshiftRight_eq_of_msb_false]
  · apply BitVec.eq_of_toNat_eq
    rw [BitVec.toNat_ushiftRight, BitVec.toNat_ofNat, BitVec.toNat_ofNat, Nat.mod_eq_of_lt (by omega), Nat.mod_eq_of_lt]
    exact Nat.lt_of_le_of_lt (Nat.shiftRight_le _ _) (by omega)
  · rw [BitVec.msb_eq_false_iff_two_mul_lt, BitVec.toNat_ofNat, Nat.mod_eq_of_lt (by omega)]
    omega
theorem sh20 : ∀ j : Fin 20, (((nI j.val &&& 31) : Int32).toBitVec.smod 32).toNat = j.val := by decide
theorem shl20 : ∀ j : Fin 20, (1 : Int32) <<< (nI j.val &&& 31) = nI (2 ^ j.val) := by decide
theorem n_shr20 {x j : Nat} (hx : x < 2147483648) (hj : j < 20) : nI x >>> (nI j &&& 31) = nI (x >>> j) := n_shr hx (sh20 ⟨j, hj⟩)
theorem n_shl20 {j : Nat} (hj : j < 20) : (1 : Int32) <<< (nI j &&& 31) = nI (2 ^ j) := shl20 ⟨j, hj⟩
theorem shr_bit (x j : Nat) : (x >>> j) &&& 1 = if x.testBit j then 1 else 0 := by
  rw [Nat.and_one_is_mod, Nat.shiftRight_eq_div_pow, Nat.testBit_eq_decide_div_mod_eq]
  by_cases h : x / 2 ^ j % 2 = 1
  · simp [h]
  · have : x / 2 ^ j % 2 = 0 := by omega
    simp [this]
/-- one bit, shifted down -/
theorem bit_dn {x j : Nat} (hx : x < 2147483648) (hj : j < 20) : (nI x >>> (nI j &&& 31)) &&& 1 = b2i (x.testBit j = true) := by
  rw [n_shr20 hx hj]
  show nI (x >>> j) &&& nI 1 = _
  rw [n_and, shr_bit]
  unfold b2i
  split <;> rfl
/-- one bit, masked -/
theorem bit_mk {x j : Nat} (hx : x < 2147483648) (hj : j < 20) : (nI x &&& (1 : Int32) <<< (nI j &&& 31) = 0) = (x.testBit j = false) := by
  rw [n_shl20 hj, n_and]
  have h2 : 2 ^ j < 2 ^ 20 := Nat.pow_lt_pow_right (by omega) hj
  have h3 : x &&& 2 ^ j ≤ 2 ^ j := Nat.and_le_right
  show (nI (x &&& 2 ^ j) = nI 0) = _
  rw [n_eq (by omega) (by omega)]
  apply propext
  constructor
  · intro h
    have h4 := congrArg (fun z => z.testBit j) h
    simpa [Nat.testBit_and, Nat.testBit_two_pow] using h4
  · intro h
    apply Nat.eq_of_testBit_eq
    intro i
    rw [Nat.testBit_and, Nat.testBit_two_pow, Nat.zero_testBit]
    by_cases e : j = i
    · subst e; simp [h]
    · simp [e]
/-! how many bits -/
def pc (x : Nat) : Nat := (List.range 20).countP (fun j => x.testBit j)
def sw1 (x : Nat) : Nat := x - ((x / 2) &&& 1431655765)
def sw2 (v : Nat) : Nat := (v &&& 858993459) + ((v / 4) &&& 858993459)
def sw3 (w : Nat) : Nat := (w + w / 16) &&& 252645135
def sw4 (y : Nat) : Nat := ((y + y / 256) + (y + y / 256) / 65536) &&& 63
theorem and_3 (x m0 m1 m2 m3 : Nat) (h0 : m0 < 256) (h1 : m1 < 256) (h2 : m2 < 256) (hx : x < 2 ^ 24) : x &&& (m0 + 256 * m1 + 65536 * m2 + 16777216 * m3) = (x % 256 &&& m0) + 256 * (x / 256 % 256 &&& m1) + 65536 * (x / 65536 &&& m2) := by
  have hm : ∀ a b : Nat, (a &&& b) = (a % 256 &&& b % 256) + 256 * (a / 256 &&& b / 256) := by
    intro a b
    have e1 : (a &&& b) % 256 = a % 256 &&& b % 256 := Nat.and_mod_two_pow (n := 8)
    have e2 : (a &&& b) / 256 = a / 256 &&& b / 256 := Nat.and_div_two_pow (n := 8)
    have := Nat.div_add_mod (a &&& b) 256
    rw [e1, e2] at this
    omega
  rw [hm x, hm (x / 256)]
  have a1 : (m0 + 256 * m1 + 65536 * m2 + 16777216 * m3) % 256 = m0 := by omega
  have a2 : (m0 + 256 * m1 + 65536 * m2 + 16777216 * m3) / 256 % 256 = m1 := by omega
  have a3 : (m0 + 256 * m1 + 65536 * m2 + 16777216 * m3) / 256 / 256 = m2 + 256 * m3 := by omega
  have a4 : x / 256 / 256 = x / 65536 := by omega
  rw [a1, a2, a3, a4, hm (x / 65536)]
  have a5 : (m2 + 256 * m3) % 256 = m2 := by omega
  have a6 : x / 65536 % 256 = x / 65536 := by omega
  have a7 : x / 65536 / 256 = 0 := by omega
  rw [a5, a6, a7, Nat.zero_and]
  omega
theorem t1 : ∀ a : Fin 256, ∀ i : Fin 2, ((a.val / 2 + 128 * i.val) &&& 85) = (a.val / 2 &&& 85) ∧ (a.val / 2 &&& 85) ≤ a.val := by decide +kernel
theorem t2 : ∀ a : Fin 256, ∀ i : Fin 4, ((a.val / 4 + 64 * i.val) &&& 51) = (a.val / 4 &&& 51) := by decide +kernel
def y1 (a : Nat) : Nat := a - (a / 2 &&& 85)
def y2 (a : Nat) : Nat := (y1 a &&& 51) + (y1 a / 4 &&& 51)
def y3 (a : Nat) : Nat := (y2 a + y2 a / 16) &&& 15
def p8 (a : Nat) : Nat := (List.range 8).countP (fun j => a.testBit j)
theorem t3 : ∀ a : Fin 256, y2 a.val ≤ 68 ∧ y2 a.val % 16 ≤ 4 ∧ y3 a.val = p8 a.val ∧ p8 a.val ≤ 8 := by decide +kernel
theorem t4 : ∀ a : Fin 69, ∀ i : Fin 5, ((a.val + a.val / 16 + 16 * i.val) &&& 15) = ((a.val + a.val / 16) &&& 15) := by decide +kernel
theorem sw1_b {a b c : Nat} (ha : a < 256) (hb : b < 256) (hc : c < 16) : sw1 (a + 256 * b + 65536 * c) = y1 a + 256 * y1 b + 65536 * y1 c := by
  unfold sw1
  have hx : (a + 256 * b + 65536 * c) / 2 < 2 ^ 24 := by omega
  rw [show 1431655765 = 85 + 256 * 85 + 65536 * 85 + 16777216 * 85 from rfl, and_3 _ 85 85 85 85 (by omega) (by omega) (by omega) hx]
  have e0 : (a + 256 * b + 65536 * c) / 2 % 256 = a / 2 + 128 * (b % 2) := by omega
  have e1 : (a + 256 * b + 65536 * c) / 2 / 256 % 256 = b / 2 + 128 * (c % 2) := by omega
  have e2 : (a + 256 * b + 65536 * c) / 2 / 65536 = c / 2 := by omega
  rw [e0, e1, e2, (t1 ⟨a, ha⟩ ⟨b % 2, by omega⟩).1, (t1 ⟨b, hb⟩ ⟨c % 2, by omega⟩).1]
  have l0 : (a / 2 &&& 85) ≤ a := (t1 ⟨a, ha⟩ ⟨0, by omega⟩).2
  have l1 : (b / 2 &&& 85) ≤ b := (t1 ⟨b, hb⟩ ⟨0, by omega⟩).2
  have l2 : (c / 2 &&& 85) ≤ c := (t1 ⟨c, by omega⟩ ⟨0, by omega⟩).2
  dsimp only
  unfold y1
  omega
theorem y1_le (a : Nat) : y1 a ≤ a := Nat.sub_le _ _
theorem sw2_b {a b c : Nat} (ha : a < 256) (hb : b < 256) (hc : c < 16) : sw2 (a + 256 * b + 65536 * c) = ((a &&& 51) + (a / 4 &&& 51)) + 256 * ((b &&& 51) + (b / 4 &&& 51)) + 65536 * ((c &&& 51) + (c / 4 &&& 51)) := by
  unfold sw2
  have hx : (a + 256 * b + 65536 * c) / 4 < 2 ^ 24 := by omega
  have hx2 : (a + 256 * b + 65536 * c) < 2 ^ 24 := by omega
  rw [show 858993459 = 51 + 256 * 51 + 65536 * 51 + 16777216 * 51 from rfl, and_3 _ 51 51 51 51 (by omega) (by omega) (by omega) hx, and_3 _ 51 51 51 51 (by omega) (by omega) (by omega) hx2]
  have e0 : (a + 256 * b + 65536 * c) / 4 % 256 = a / 4 + 64 * (b % 4) := by omega
  have e1 : (a + 256 * b + 65536 * c) / 4 / 256 % 256 = b / 4 + 64 * (c % 4) := by omega
  have e2 : (a + 256 * b + 65536 * c) / 4 / 65536 = c / 4 := by omega
  have f0 : (a + 256 * b + 65536 * c) % 256 = a := by omega
  have f1 : (a + 256 * b + 65536 * c) / 256 % 256 = b := by omega
  have f2 : (a + 256 * b + 65536 * c) / 65536 = c := by omega
  rw [e0, e1, e2, f0, f1, f2, t2 ⟨a, ha⟩ ⟨b % 4, by omega⟩, t2 ⟨b, hb⟩ ⟨c % 4, by omega⟩]
  dsimp only
  omega
theorem sw3_b {a b c : Nat} (ha : a ≤ 68) (hb : b ≤ 68) (hc : c ≤ 68) (hb4 : b % 16 ≤ 4) (hc4 : c % 16 ≤ 4) : sw3 (a + 256 * b + 65536 * c) = ((a + a / 16) &&& 15) + 256 * ((b + b / 16) &&& 15) + 65536 * ((c + c / 16) &&& 15) := by
  unfold sw3
  have hx : (a + 256 * b + 65536 * c) + (a + 256 * b + 65536 * c) / 16 < 2 ^ 24 := by omega
  rw [show 252645135 = 15 + 256 * 15 + 65536 * 15 + 16777216 * 15 from rfl, and_3 _ 15 15 15 15 (by omega) (by omega) (by omega) hx]
  have e0 : ((a + 256 * b + 65536 * c) + (a + 256 * b + 65536 * c) / 16) % 256 = a + a / 16 + 16 * (b % 16) := by omega
  have e1 : ((a + 256 * b + 65536 * c) + (a + 256 * b + 65536 * c) / 16) / 256 % 256 = b + b / 16 + 16 * (c % 16) := by omega
  have e2 : ((a + 256 * b + 65536 * c) + (a + 256 * b + 65536 * c) / 16) / 65536 = c + c / 16 := by omega
  rw [e0, e1, e2, t4 ⟨a, by omega⟩ ⟨b % 16, by omega⟩, t4 ⟨b, by omega⟩ ⟨c % 16, by omega⟩]
theorem sw4_b {a b c : Nat} (ha : a ≤ 8) (hb : b ≤ 8) (hc : c ≤ 8) : sw4 (a + 256 * b + 65536 * c) = a + b + c := by
  unfold sw4
  have e1 : (a + 256 * b + 65536 * c) / 256 = b + 256 * c := by omega
  rw [e1]
  have e2 : (a + 256 * b + 65536 * c + (b + 256 * c)) / 65536 = c := by omega
  rw [e2, show 63 = 2 ^ 6 - 1 from rfl, Nat.and_two_pow_sub_one_eq_mod]
  omega
theorem pc_b {x : Nat} (hx : x < 2 ^ 20) : pc x = p8 (x % 256) + p8 (x / 256 % 256) + p8 (x / 65536) := by
  unfold pc p8
  have e0 : ∀ j, j < 8 → (x % 256).testBit j = x.testBit j := by
    intro j hj
    rw [show 256 = 2 ^ 8 from rfl, Nat.testBit_mod_two_pow]
    simp [hj]
  have e1 : ∀ j, j < 8 → (x / 256 % 256).testBit j = x.testBit (j + 8) := by
    intro j hj
    rw [show 256 = 2 ^ 8 from rfl, Nat.testBit_mod_two_pow, Nat.testBit_div_two_pow]
    simp [hj]
  have e2 : ∀ j, (x / 65536).testBit j = x.testBit (j + 16) := by
    intro j
    rw [show 65536 = 2 ^ 16 from rfl, Nat.testBit_div_two_pow]
  have z : ∀ j, 20 ≤ j → x.testBit j = false := by
    intro j hj
    exact Nat.testBit_lt_two_pow (Nat.lt_of_lt_of_le hx (Nat.pow_le_pow_right (by omega) hj))
  rw [cnt_congr e0, cnt_congr e1, cnt_congr (fun j _ => e2 j)]
  simp only [cnt_succ, List.range_zero, List.countP_nil, Nat.zero_add, z 20 (by omega), z 21 (by omega), z 22 (by omega), z 23 (by omega)]
  simp only [Nat.reduceAdd, Bool.false_eq_true, if_false]
  omega
theorem swar {x : Nat} (hx : x < 2 ^ 20) : sw4 (sw3 (sw2 (sw1 x))) = pc x := by
  have hx2 : x = x % 256 + 256 * (x / 256 % 256) + 65536 * (x / 65536) := by omega
  have ha : x % 256 < 256 := by omega
  have hb : x / 256 % 256 < 256 := by omega
  have hc : x / 65536 < 16 := by omega
  rw [pc_b hx]
  generalize x % 256 = a at *
  generalize x / 256 % 256 = b at *
  generalize x / 65536 = c at *
  subst hx2
  have y1a := y1_le a
  have y1b := y1_le b
  have y1c := y1_le c
  obtain ⟨a1, a2, a3, a4⟩ := t3 ⟨a, ha⟩
  obtain ⟨b1, b2, b3, b4⟩ := t3 ⟨b, hb⟩
  obtain ⟨c1, c2, c3, c4⟩ := t3 ⟨c, by omega⟩
  dsimp only at a1 a2 a3 a4 b1 b2 b3 b4 c1 c2 c3 c4
  rw [sw1_b ha hb hc, sw2_b (by omega) (by omega) (by omega)]
  show sw4 (sw3 (y2 a + 256 * y2 b + 65536 * y2 c)) = _
  rw [sw3_b a1 b1 c1 b2 c2]
  show sw4 (y3 a + 256 * y3 b + 65536 * y3 c) = _
  rw [a3, b3, c3, sw4_b a4 b4 c4]
theorem n_ushr {x : Nat} {s : Int32} {j : Nat} (hx : x < 2147483648) (hs : ((s.toUInt32 &&& Int32.toUInt32 31).toNat % 32) = j) : ((nI x).toUInt32 >>> (s.toUInt32 &&& Int32.toUInt32 31)).toInt32 = nI (x / 2 ^ j) := by
  have e : (nI x).toUInt32 >>> (s.toUInt32 &&& Int32.toUInt32 31) = UInt32.ofNat (x / 2 ^ j) := by
    apply UInt32.toNat.inj
    rw [UInt32.toNat_shiftRight, hs, Nat.shiftRight_eq_div_pow]
    have h1 : (nI x).toUInt32.toNat = x := by
      show (UInt32.ofNat x).toNat = x
      rw [UInt32.toNat_ofNat']
      omega
    rw [h1, UInt32.toNat_ofNat', Nat.mod_eq_of_lt]
    exact Nat.lt_of_le_of_lt (Nat.div_le_self _ _) (by omega)
  rw [e]
  rfl
theorem bitCount_n {x : Nat} (hx : x < 2 ^ 20) : eJ6_bitCount_0f7a4 (nI x) = some (nI (pc x)) := by
  have v1 : sw1 x ≤ x := Nat.sub_le _ _
  have h1 : nI x - (((nI x).toUInt32 >>> ((1 : Int32).toUInt32 &&& Int32.toUInt32 31)).toInt32 &&& 1431655765) = nI (sw1 x) := by
    rw [n_ushr (j := 1) (by omega) (by decide)]
    show nI x - (nI (x / 2 ^ 1) &&& nI 1431655765) = _
    rw [n_and, n_sub]
    · rfl
    · exact Nat.le_trans Nat.and_le_left (by omega)
  have v2 : sw2 (sw1 x) < 2 ^ 21 := by
    unfold sw2
    have a1 : (sw1 x &&& 858993459) ≤ sw1 x := Nat.and_le_left
    have a2 : (sw1 x / 4 &&& 858993459) ≤ sw1 x / 4 := Nat.and_le_left
    omega
  have h2 : (nI (sw1 x) &&& 858993459) + (((nI (sw1 x)).toUInt32 >>> ((2 : Int32).toUInt32 &&& Int32.toUInt32 31)).toInt32 &&& 858993459) = nI (sw2 (sw1 x)) := by
    rw [n_ushr (j := 2) (by omega) (by decide)]
    show (nI (sw1 x) &&& nI 858993459) + (nI (sw1 x / 2 ^ 2) &&& nI 858993459) = _
    rw [n_and, n_and, n_add]
    rfl
  have v3 : sw3 (sw2 (sw1 x)) < 2 ^ 22 := by
    unfold sw3
    have a1 : (sw2 (sw1 x) + sw2 (sw1 x) / 16 &&& 252645135) ≤ sw2 (sw1 x) + sw2 (sw1 x) / 16 := Nat.and_le_left
    omega
  have h3 : (nI (sw2 (sw1 x)) + ((nI (sw2 (sw1 x))).toUInt32 >>> ((4 : Int32).toUInt32 &&& Int32.toUInt32 31)).toInt32) &&& 252645135 = nI (sw3 (sw2 (sw1 x))) := by
    rw [n_ushr (j := 4) (by omega) (by decide), n_add]
    show nI (sw2 (sw1 x) + sw2 (sw1 x) / 2 ^ 4) &&& nI 252645135 = _
    rw [n_and]
    rfl
  have h4 : nI (sw3 (sw2 (sw1 x))) + ((nI (sw3 (sw2 (sw1 x)))).toUInt32 >>> ((8 : Int32).toUInt32 &&& Int32.toUInt32 31)).toInt32 = nI (sw3 (sw2 (sw1 x)) + sw3 (sw2 (sw1 x)) / 256) := by
    rw [n_ushr (j := 8) (by omega) (by decide), n_add]
  have h5 : (nI (sw3 (sw2 (sw1 x)) + sw3 (sw2 (sw1 x)) / 256) + ((nI (sw3 (sw2 (sw1 x)) + sw3 (sw2 (sw1 x)) / 256)).toUInt32 >>> ((16 : Int32).toUInt32 &&& Int32.toUInt32 31)).toInt32) &&& 63 = nI (sw4 (sw3 (sw2 (sw1 x)))) := by
    rw [n_ushr (j := 16) (by omega) (by decide), n_add]
    show nI (sw3 (sw2 (sw1 x)) + sw3 (sw2 (sw1 x)) / 256 + (sw3 (sw2 (sw1 x)) + sw3 (sw2 (sw1 x)) / 256) / 2 ^ 16) &&& nI 63 = _
    rw [n_and]
    rfl
  unfold eJ6_bitCount_0f7a4
  simp only [h1]
  simp only [h2]
  simp only [h3]
  simp only [h4]
  simp only [h5]
  rw [swar hx]
