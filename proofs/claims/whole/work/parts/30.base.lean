/-! numbers -/
theorem n_le {a b : Nat} (ha : a < 2147483648) (hb : b < 2147483648) : (nI a ≤ nI b) = (a ≤ b) := propext (nI_leI ha hb)
theorem n_lt {a b : Nat} (ha : a < 2147483648) (hb : b < 2147483648) : (nI a < nI b) = (a < b) := propext (nI_ltI ha hb)
theorem n_eq {a b : Nat} (ha : a < 2147483648) (hb : b < 2147483648) : (nI a = nI b) = (a = b) := propext (nI_eq ha hb)
theorem n_cl {a : Nat} (ha : a < 2147483648) : (nI a).toNatClampNeg = a := nI_clamp ha
theorem n_add (a b : Nat) : nI a + nI b = nI (a + b) := nI_add a b
theorem n_mul (a b : Nat) : nI a * nI b = nI (a * b) := pk_mul a b
theorem n_sub {a b : Nat} (h : b ≤ a) : nI a - nI b = nI (a - b) := pk_sub h
theorem n_ti {a : Nat} (ha : a < 2147483648) : (nI a).toInt = (a : Int) := nI_toInt ha
theorem n_ne9 {a : Nat} (ha : a < 2147483648) : (nI a = -9) = False := by
  apply propext; constructor
  · intro h
    have := congrArg Int32.toInt h
    rw [n_ti ha] at this
    have h2 : ((-9 : Int32)).toInt = -9 := by decide
    omega
  · exact False.elim
theorem n_ne1 {a : Nat} (ha : a < 2147483648) : (nI a = -1) = False := by
  apply propext; constructor
  · intro h
    have := congrArg Int32.toInt h
    rw [n_ti ha] at this
    have h2 : ((-1 : Int32)).toInt = -1 := by decide
    omega
  · exact False.elim
theorem i_lt (x y : Int32) : (x < y) = (x.toInt < y.toInt) := propext Int32.lt_iff_toInt_lt
theorem i_le (x y : Int32) : (x ≤ y) = (x.toInt ≤ y.toInt) := propext Int32.le_iff_toInt_le
theorem i_eq (x y : Int32) : (x = y) = (x.toInt = y.toInt) := propext Int32.toInt_inj.symm
/-- an int is less than 0, or a Nat -/
theorem n_cases (x : Int32) : x < 0 ∨ ∃ j : Nat, j < 2147483648 ∧ x = nI j := by
  by_cases h : x < 0
  · exact Or.inl h
  · obtain ⟨j, h1, h2⟩ := nI_of h
    exact Or.inr ⟨j, h1, h2⟩
theorem ng_lt {x : Int32} (h : x < 0) : (x < 0) = True := eq_true h
theorem ng_le {x : Int32} {k : Nat} (h : x < 0) (hk : k < 2147483648) : (nI k ≤ x) = False := by
  rw [i_lt] at h; rw [i_le, n_ti hk]; simp at h ⊢; omega
theorem ng_eq {x : Int32} {k : Nat} (h : x < 0) (hk : k < 2147483648) : (x = nI k) = False := by
  rw [i_lt] at h; rw [i_eq, n_ti hk]; simp at h ⊢; omega
theorem ng_gt {x : Int32} {k : Nat} (h : x < 0) (hk : k < 2147483648) : (nI k < x) = False := by
  rw [i_lt] at h; rw [i_lt, n_ti hk]; simp at h ⊢; omega
theorem ng_ltn {x : Int32} {k : Nat} (h : x < 0) (hk : k < 2147483648) : (x < nI k) = True := by
  rw [i_lt] at h; rw [i_lt, n_ti hk]; simp at h ⊢; omega
theorem ng_len {x : Int32} {k : Nat} (h : x < 0) (hk : k < 2147483648) : (x ≤ nI k) = True := by
  rw [i_lt] at h; rw [i_le, n_ti hk]; simp at h ⊢; omega
/-! memory -/
theorem wr_ne {V : Mm} {c k i : Nat} {x : Int32} (h : i ≠ c) : wr V c k x i = V i := by
  funext j; simp [wr, h]
theorem wr_in {V : Mm} {c k j : Nat} {x : Int32} (h : j ≠ k) : wr V c k x c j = V c j := by simp [wr, h]
theorem wr_at {V : Mm} {c k : Nat} {x : Int32} : wr V c k x c k = x := by simp [wr]
theorem wcp_ne {V : Mm} {a b sp dp n i : Nat} (h : i ≠ b) : wcp V a b sp dp n i = V i := by simp [wcp, h]
theorem wcp_at {V : Mm} {a b n j : Nat} (h : j < n) : wcp V a b 0 0 n b j = V a j := by simp [wcp, va_cpy, h]
def b2i (p : Prop) [Decidable p] : Int32 := if p then 1 else 0
theorem b2i_0 {p : Prop} [Decidable p] : (b2i p = 0) = ¬ p := by by_cases h : p <;> simp [b2i, h]
theorem b2i_1 {p : Prop} [Decidable p] : (b2i p = 1) = p := by by_cases h : p <;> simp [b2i, h]
theorem b2i_01 {p : Prop} [Decidable p] : (b2i p = 0 ∨ b2i p = 1) = True := by by_cases h : p <;> simp [b2i, h]
theorem l0 : (0 : Int32) = nI 0 := rfl
theorem l1 : (1 : Int32) = nI 1 := rfl
theorem l2 : (2 : Int32) = nI 2 := rfl
theorem l3 : (3 : Int32) = nI 3 := rfl
theorem l4 : (4 : Int32) = nI 4 := rfl
theorem l5 : (5 : Int32) = nI 5 := rfl
theorem l6 : (6 : Int32) = nI 6 := rfl
theorem l7 : (7 : Int32) = nI 7 := rfl
theorem l8 : (8 : Int32) = nI 8 := rfl
theorem l9 : (9 : Int32) = nI 9 := rfl
theorem l10 : (10 : Int32) = nI 10 := rfl
theorem l11 : (11 : Int32) = nI 11 := rfl
theorem l12 : (12 : Int32) = nI 12 := rfl
theorem l15 : (15 : Int32) = nI 15 := rfl
theorem l20 : (20 : Int32) = nI 20 := rfl
theorem l31 : (31 : Int32) = nI 31 := rfl
theorem l50 : (50 : Int32) = nI 50 := rfl
theorem l60 : (60 : Int32) = nI 60 := rfl
theorem l63 : (63 : Int32) = nI 63 := rfl
theorem l80 : (80 : Int32) = nI 80 := rfl
theorem l99 : (99 : Int32) = nI 99 := rfl
theorem l100 : (100 : Int32) = nI 100 := rfl
theorem l120 : (120 : Int32) = nI 120 := rfl
theorem l240 : (240 : Int32) = nI 240 := rfl
theorem l243 : (243 : Int32) = nI 243 := rfl
theorem l244 : (244 : Int32) = nI 244 := rfl
theorem l580 : (580 : Int32) = nI 580 := rfl
theorem l581 : (581 : Int32) = nI 581 := rfl
theorem l582 : (582 : Int32) = nI 582 := rfl
theorem l583 : (583 : Int32) = nI 583 := rfl
theorem l586 : (586 : Int32) = nI 586 := rfl
theorem l999 : (999 : Int32) = nI 999 := rfl
theorem l1000 : (1000 : Int32) = nI 1000 := rfl
theorem l2400 : (2400 : Int32) = nI 2400 := rfl
theorem l9999 : (9999 : Int32) = nI 9999 := rfl
theorem q0a {a : Nat} (h : a < 2147483648) : ((0 : Int32) ≤ nI a) = (0 ≤ a) := n_le (a := 0) (b := a) (by decide) h
theorem q0b {a : Nat} (h : a < 2147483648) : ((0 : Int32) < nI a) = (0 < a) := n_lt (a := 0) (b := a) (by decide) h
theorem q0c {a : Nat} (h : a < 2147483648) : (nI a ≤ (0 : Int32)) = (a ≤ 0) := n_le (a := a) (b := 0) h (by decide)
theorem q0d {a : Nat} (h : a < 2147483648) : (nI a < (0 : Int32)) = (a < 0) := n_lt (a := a) (b := 0) h (by decide)
theorem q0e {a : Nat} (h : a < 2147483648) : (nI a = (0 : Int32)) = (a = 0) := n_eq (a := a) (b := 0) h (by decide)
theorem q0f {a : Nat} (h : a < 2147483648) : ((0 : Int32) = nI a) = (0 = a) := n_eq (a := 0) (b := a) (by decide) h
theorem p0_l {a : Nat} : (0 : Int32) + nI a = nI (0 + a) := n_add 0 a
theorem p0_r {a : Nat} : nI a + (0 : Int32) = nI (a + 0) := n_add a 0
theorem p0_s {a : Nat} (h : 0 ≤ a) : nI a - (0 : Int32) = nI (a - 0) := n_sub h
theorem q1a {a : Nat} (h : a < 2147483648) : ((1 : Int32) ≤ nI a) = (1 ≤ a) := n_le (a := 1) (b := a) (by decide) h
theorem q1b {a : Nat} (h : a < 2147483648) : ((1 : Int32) < nI a) = (1 < a) := n_lt (a := 1) (b := a) (by decide) h
theorem q1c {a : Nat} (h : a < 2147483648) : (nI a ≤ (1 : Int32)) = (a ≤ 1) := n_le (a := a) (b := 1) h (by decide)
theorem q1d {a : Nat} (h : a < 2147483648) : (nI a < (1 : Int32)) = (a < 1) := n_lt (a := a) (b := 1) h (by decide)
theorem q1e {a : Nat} (h : a < 2147483648) : (nI a = (1 : Int32)) = (a = 1) := n_eq (a := a) (b := 1) h (by decide)
theorem q1f {a : Nat} (h : a < 2147483648) : ((1 : Int32) = nI a) = (1 = a) := n_eq (a := 1) (b := a) (by decide) h
theorem p1_l {a : Nat} : (1 : Int32) + nI a = nI (1 + a) := n_add 1 a
theorem p1_r {a : Nat} : nI a + (1 : Int32) = nI (a + 1) := n_add a 1
theorem p1_s {a : Nat} (h : 1 ≤ a) : nI a - (1 : Int32) = nI (a - 1) := n_sub h
theorem q2a {a : Nat} (h : a < 2147483648) : ((2 : Int32) ≤ nI a) = (2 ≤ a) := n_le (a := 2) (b := a) (by decide) h
theorem q2b {a : Nat} (h : a < 2147483648) : ((2 : Int32) < nI a) = (2 < a) := n_lt (a := 2) (b := a) (by decide) h
theorem q2c {a : Nat} (h : a < 2147483648) : (nI a ≤ (2 : Int32)) = (a ≤ 2) := n_le (a := a) (b := 2) h (by decide)
theorem q2d {a : Nat} (h : a < 2147483648) : (nI a < (2 : Int32)) = (a < 2) := n_lt (a := a) (b := 2) h (by decide)
theorem q2e {a : Nat} (h : a < 2147483648) : (nI a = (2 : Int32)) = (a = 2) := n_eq (a := a) (b := 2) h (by decide)
theorem q2f {a : Nat} (h : a < 2147483648) : ((2 : Int32) = nI a) = (2 = a) := n_eq (a := 2) (b := a) (by decide) h
theorem p2_l {a : Nat} : (2 : Int32) + nI a = nI (2 + a) := n_add 2 a
theorem p2_r {a : Nat} : nI a + (2 : Int32) = nI (a + 2) := n_add a 2
theorem p2_s {a : Nat} (h : 2 ≤ a) : nI a - (2 : Int32) = nI (a - 2) := n_sub h
theorem q3a {a : Nat} (h : a < 2147483648) : ((3 : Int32) ≤ nI a) = (3 ≤ a) := n_le (a := 3) (b := a) (by decide) h
theorem q3b {a : Nat} (h : a < 2147483648) : ((3 : Int32) < nI a) = (3 < a) := n_lt (a := 3) (b := a) (by decide) h
theorem q3c {a : Nat} (h : a < 2147483648) : (nI a ≤ (3 : Int32)) = (a ≤ 3) := n_le (a := a) (b := 3) h (by decide)
theorem q3d {a : Nat} (h : a < 2147483648) : (nI a < (3 : Int32)) = (a < 3) := n_lt (a := a) (b := 3) h (by decide)
theorem q3e {a : Nat} (h : a < 2147483648) : (nI a = (3 : Int32)) = (a = 3) := n_eq (a := a) (b := 3) h (by decide)
theorem q3f {a : Nat} (h : a < 2147483648) : ((3 : Int32) = nI a) = (3 = a) := n_eq (a := 3) (b := a) (by decide) h
theorem p3_l {a : Nat} : (3 : Int32) + nI a = nI (3 + a) := n_add 3 a
theorem p3_r {a : Nat} : nI a + (3 : Int32) = nI (a + 3) := n_add a 3
theorem p3_s {a : Nat} (h : 3 ≤ a) : nI a - (3 : Int32) = nI (a - 3) := n_sub h
theorem q4a {a : Nat} (h : a < 2147483648) : ((4 : Int32) ≤ nI a) = (4 ≤ a) := n_le (a := 4) (b := a) (by decide) h
theorem q4b {a : Nat} (h : a < 2147483648) : ((4 : Int32) < nI a) = (4 < a) := n_lt (a := 4) (b := a) (by decide) h
theorem q4c {a : Nat} (h : a < 2147483648) : (nI a ≤ (4 : Int32)) = (a ≤ 4) := n_le (a := a) (b := 4) h (by decide)
theorem q4d {a : Nat} (h : a < 2147483648) : (nI a < (4 : Int32)) = (a < 4) := n_lt (a := a) (b := 4) h (by decide)
theorem q4e {a : Nat} (h : a < 2147483648) : (nI a = (4 : Int32)) = (a = 4) := n_eq (a := a) (b := 4) h (by decide)
theorem q4f {a : Nat} (h : a < 2147483648) : ((4 : Int32) = nI a) = (4 = a) := n_eq (a := 4) (b := a) (by decide) h
theorem p4_l {a : Nat} : (4 : Int32) + nI a = nI (4 + a) := n_add 4 a
theorem p4_r {a : Nat} : nI a + (4 : Int32) = nI (a + 4) := n_add a 4
theorem p4_s {a : Nat} (h : 4 ≤ a) : nI a - (4 : Int32) = nI (a - 4) := n_sub h
theorem p4_m {a : Nat} : (4 : Int32) * nI a = nI (4 * a) := n_mul 4 a
theorem q5a {a : Nat} (h : a < 2147483648) : ((5 : Int32) ≤ nI a) = (5 ≤ a) := n_le (a := 5) (b := a) (by decide) h
theorem q5b {a : Nat} (h : a < 2147483648) : ((5 : Int32) < nI a) = (5 < a) := n_lt (a := 5) (b := a) (by decide) h
theorem q5c {a : Nat} (h : a < 2147483648) : (nI a ≤ (5 : Int32)) = (a ≤ 5) := n_le (a := a) (b := 5) h (by decide)
theorem q5d {a : Nat} (h : a < 2147483648) : (nI a < (5 : Int32)) = (a < 5) := n_lt (a := a) (b := 5) h (by decide)
theorem q5e {a : Nat} (h : a < 2147483648) : (nI a = (5 : Int32)) = (a = 5) := n_eq (a := a) (b := 5) h (by decide)
theorem q5f {a : Nat} (h : a < 2147483648) : ((5 : Int32) = nI a) = (5 = a) := n_eq (a := 5) (b := a) (by decide) h
theorem p5_l {a : Nat} : (5 : Int32) + nI a = nI (5 + a) := n_add 5 a
theorem p5_r {a : Nat} : nI a + (5 : Int32) = nI (a + 5) := n_add a 5
theorem p5_s {a : Nat} (h : 5 ≤ a) : nI a - (5 : Int32) = nI (a - 5) := n_sub h
theorem p5_m {a : Nat} : (5 : Int32) * nI a = nI (5 * a) := n_mul 5 a
theorem q6a {a : Nat} (h : a < 2147483648) : ((6 : Int32) ≤ nI a) = (6 ≤ a) := n_le (a := 6) (b := a) (by decide) h
theorem q6b {a : Nat} (h : a < 2147483648) : ((6 : Int32) < nI a) = (6 < a) := n_lt (a := 6) (b := a) (by decide) h
theorem q6c {a : Nat} (h : a < 2147483648) : (nI a ≤ (6 : Int32)) = (a ≤ 6) := n_le (a := a) (b := 6) h (by decide)
theorem q6d {a : Nat} (h : a < 2147483648) : (nI a < (6 : Int32)) = (a < 6) := n_lt (a := a) (b := 6) h (by decide)
theorem q6e {a : Nat} (h : a < 2147483648) : (nI a = (6 : Int32)) = (a = 6) := n_eq (a := a) (b := 6) h (by decide)
theorem q6f {a : Nat} (h : a < 2147483648) : ((6 : Int32) = nI a) = (6 = a) := n_eq (a := 6) (b := a) (by decide) h
theorem p6_l {a : Nat} : (6 : Int32) + nI a = nI (6 + a) := n_add 6 a
theorem p6_r {a : Nat} : nI a + (6 : Int32) = nI (a + 6) := n_add a 6
theorem p6_s {a : Nat} (h : 6 ≤ a) : nI a - (6 : Int32) = nI (a - 6) := n_sub h
theorem q7a {a : Nat} (h : a < 2147483648) : ((7 : Int32) ≤ nI a) = (7 ≤ a) := n_le (a := 7) (b := a) (by decide) h
theorem q7b {a : Nat} (h : a < 2147483648) : ((7 : Int32) < nI a) = (7 < a) := n_lt (a := 7) (b := a) (by decide) h
theorem q7c {a : Nat} (h : a < 2147483648) : (nI a ≤ (7 : Int32)) = (a ≤ 7) := n_le (a := a) (b := 7) h (by decide)
theorem q7d {a : Nat} (h : a < 2147483648) : (nI a < (7 : Int32)) = (a < 7) := n_lt (a := a) (b := 7) h (by decide)
theorem q7e {a : Nat} (h : a < 2147483648) : (nI a = (7 : Int32)) = (a = 7) := n_eq (a := a) (b := 7) h (by decide)
theorem q7f {a : Nat} (h : a < 2147483648) : ((7 : Int32) = nI a) = (7 = a) := n_eq (a := 7) (b := a) (by decide) h
theorem p7_l {a : Nat} : (7 : Int32) + nI a = nI (7 + a) := n_add 7 a
theorem p7_r {a : Nat} : nI a + (7 : Int32) = nI (a + 7) := n_add a 7
theorem p7_s {a : Nat} (h : 7 ≤ a) : nI a - (7 : Int32) = nI (a - 7) := n_sub h
theorem q8a {a : Nat} (h : a < 2147483648) : ((8 : Int32) ≤ nI a) = (8 ≤ a) := n_le (a := 8) (b := a) (by decide) h
theorem q8b {a : Nat} (h : a < 2147483648) : ((8 : Int32) < nI a) = (8 < a) := n_lt (a := 8) (b := a) (by decide) h
theorem q8c {a : Nat} (h : a < 2147483648) : (nI a ≤ (8 : Int32)) = (a ≤ 8) := n_le (a := a) (b := 8) h (by decide)
theorem q8d {a : Nat} (h : a < 2147483648) : (nI a < (8 : Int32)) = (a < 8) := n_lt (a := a) (b := 8) h (by decide)
theorem q8e {a : Nat} (h : a < 2147483648) : (nI a = (8 : Int32)) = (a = 8) := n_eq (a := a) (b := 8) h (by decide)
theorem q8f {a : Nat} (h : a < 2147483648) : ((8 : Int32) = nI a) = (8 = a) := n_eq (a := 8) (b := a) (by decide) h
theorem p8_l {a : Nat} : (8 : Int32) + nI a = nI (8 + a) := n_add 8 a
theorem p8_r {a : Nat} : nI a + (8 : Int32) = nI (a + 8) := n_add a 8
theorem p8_s {a : Nat} (h : 8 ≤ a) : nI a - (8 : Int32) = nI (a - 8) := n_sub h
theorem q9a {a : Nat} (h : a < 2147483648) : ((9 : Int32) ≤ nI a) = (9 ≤ a) := n_le (a := 9) (b := a) (by decide) h
theorem q9b {a : Nat} (h : a < 2147483648) : ((9 : Int32) < nI a) = (9 < a) := n_lt (a := 9) (b := a) (by decide) h
theorem q9c {a : Nat} (h : a < 2147483648) : (nI a ≤ (9 : Int32)) = (a ≤ 9) := n_le (a := a) (b := 9) h (by decide)
theorem q9d {a : Nat} (h : a < 2147483648) : (nI a < (9 : Int32)) = (a < 9) := n_lt (a := a) (b := 9) h (by decide)
theorem q9e {a : Nat} (h : a < 2147483648) : (nI a = (9 : Int32)) = (a = 9) := n_eq (a := a) (b := 9) h (by decide)
theorem q9f {a : Nat} (h : a < 2147483648) : ((9 : Int32) = nI a) = (9 = a) := n_eq (a := 9) (b := a) (by decide) h
theorem p9_l {a : Nat} : (9 : Int32) + nI a = nI (9 + a) := n_add 9 a
theorem p9_r {a : Nat} : nI a + (9 : Int32) = nI (a + 9) := n_add a 9
theorem p9_s {a : Nat} (h : 9 ≤ a) : nI a - (9 : Int32) = nI (a - 9) := n_sub h
theorem q10a {a : Nat} (h : a < 2147483648) : ((10 : Int32) ≤ nI a) = (10 ≤ a) := n_le (a := 10) (b := a) (by decide) h
theorem q10b {a : Nat} (h : a < 2147483648) : ((10 : Int32) < nI a) = (10 < a) := n_lt (a := 10) (b := a) (by decide) h
theorem q10c {a : Nat} (h : a < 2147483648) : (nI a ≤ (10 : Int32)) = (a ≤ 10) := n_le (a := a) (b := 10) h (by decide)
theorem q10d {a : Nat} (h : a < 2147483648) : (nI a < (10 : Int32)) = (a < 10) := n_lt (a := a) (b := 10) h (by decide)
theorem q10e {a : Nat} (h : a < 2147483648) : (nI a = (10 : Int32)) = (a = 10) := n_eq (a := a) (b := 10) h (by decide)
theorem q10f {a : Nat} (h : a < 2147483648) : ((10 : Int32) = nI a) = (10 = a) := n_eq (a := 10) (b := a) (by decide) h
theorem p10_l {a : Nat} : (10 : Int32) + nI a = nI (10 + a) := n_add 10 a
theorem p10_r {a : Nat} : nI a + (10 : Int32) = nI (a + 10) := n_add a 10
theorem p10_s {a : Nat} (h : 10 ≤ a) : nI a - (10 : Int32) = nI (a - 10) := n_sub h
theorem p10_m {a : Nat} : (10 : Int32) * nI a = nI (10 * a) := n_mul 10 a
theorem q11a {a : Nat} (h : a < 2147483648) : ((11 : Int32) ≤ nI a) = (11 ≤ a) := n_le (a := 11) (b := a) (by decide) h
theorem q11b {a : Nat} (h : a < 2147483648) : ((11 : Int32) < nI a) = (11 < a) := n_lt (a := 11) (b := a) (by decide) h
theorem q11c {a : Nat} (h : a < 2147483648) : (nI a ≤ (11 : Int32)) = (a ≤ 11) := n_le (a := a) (b := 11) h (by decide)
theorem q11d {a : Nat} (h : a < 2147483648) : (nI a < (11 : Int32)) = (a < 11) := n_lt (a := a) (b := 11) h (by decide)
theorem q11e {a : Nat} (h : a < 2147483648) : (nI a = (11 : Int32)) = (a = 11) := n_eq (a := a) (b := 11) h (by decide)
theorem q11f {a : Nat} (h : a < 2147483648) : ((11 : Int32) = nI a) = (11 = a) := n_eq (a := 11) (b := a) (by decide) h
theorem p11_l {a : Nat} : (11 : Int32) + nI a = nI (11 + a) := n_add 11 a
theorem p11_r {a : Nat} : nI a + (11 : Int32) = nI (a + 11) := n_add a 11
theorem p11_s {a : Nat} (h : 11 ≤ a) : nI a - (11 : Int32) = nI (a - 11) := n_sub h
theorem q12a {a : Nat} (h : a < 2147483648) : ((12 : Int32) ≤ nI a) = (12 ≤ a) := n_le (a := 12) (b := a) (by decide) h
theorem q12b {a : Nat} (h : a < 2147483648) : ((12 : Int32) < nI a) = (12 < a) := n_lt (a := 12) (b := a) (by decide) h
theorem q12c {a : Nat} (h : a < 2147483648) : (nI a ≤ (12 : Int32)) = (a ≤ 12) := n_le (a := a) (b := 12) h (by decide)
theorem q12d {a : Nat} (h : a < 2147483648) : (nI a < (12 : Int32)) = (a < 12) := n_lt (a := a) (b := 12) h (by decide)
theorem q12e {a : Nat} (h : a < 2147483648) : (nI a = (12 : Int32)) = (a = 12) := n_eq (a := a) (b := 12) h (by decide)
theorem q12f {a : Nat} (h : a < 2147483648) : ((12 : Int32) = nI a) = (12 = a) := n_eq (a := 12) (b := a) (by decide) h
theorem p12_l {a : Nat} : (12 : Int32) + nI a = nI (12 + a) := n_add 12 a
theorem p12_r {a : Nat} : nI a + (12 : Int32) = nI (a + 12) := n_add a 12
theorem p12_s {a : Nat} (h : 12 ≤ a) : nI a - (12 : Int32) = nI (a - 12) := n_sub h
theorem q15a {a : Nat} (h : a < 2147483648) : ((15 : Int32) ≤ nI a) = (15 ≤ a) := n_le (a := 15) (b := a) (by decide) h
theorem q15b {a : Nat} (h : a < 2147483648) : ((15 : Int32) < nI a) = (15 < a) := n_lt (a := 15) (b := a) (by decide) h
theorem q15c {a : Nat} (h : a < 2147483648) : (nI a ≤ (15 : Int32)) = (a ≤ 15) := n_le (a := a) (b := 15) h (by decide)
theorem q15d {a : Nat} (h : a < 2147483648) : (nI a < (15 : Int32)) = (a < 15) := n_lt (a := a) (b := 15) h (by decide)
theorem q15e {a : Nat} (h : a < 2147483648) : (nI a = (15 : Int32)) = (a = 15) := n_eq (a := a) (b := 15) h (by decide)
theorem q15f {a : Nat} (h : a < 2147483648) : ((15 : Int32) = nI a) = (15 = a) := n_eq (a := 15) (b := a) (by decide) h
theorem p15_l {a : Nat} : (15 : Int32) + nI a = nI (15 + a) := n_add 15 a
theorem p15_r {a : Nat} : nI a + (15 : Int32) = nI (a + 15) := n_add a 15
theorem p15_s {a : Nat} (h : 15 ≤ a) : nI a - (15 : Int32) = nI (a - 15) := n_sub h
theorem q19a {a : Nat} (h : a < 2147483648) : ((19 : Int32) ≤ nI a) = (19 ≤ a) := n_le (a := 19) (b := a) (by decide) h
theorem q19b {a : Nat} (h : a < 2147483648) : ((19 : Int32) < nI a) = (19 < a) := n_lt (a := 19) (b := a) (by decide) h
theorem q19c {a : Nat} (h : a < 2147483648) : (nI a ≤ (19 : Int32)) = (a ≤ 19) := n_le (a := a) (b := 19) h (by decide)
theorem q19d {a : Nat} (h : a < 2147483648) : (nI a < (19 : Int32)) = (a < 19) := n_lt (a := a) (b := 19) h (by decide)
theorem q19e {a : Nat} (h : a < 2147483648) : (nI a = (19 : Int32)) = (a = 19) := n_eq (a := a) (b := 19) h (by decide)
theorem q19f {a : Nat} (h : a < 2147483648) : ((19 : Int32) = nI a) = (19 = a) := n_eq (a := 19) (b := a) (by decide) h
theorem p19_l {a : Nat} : (19 : Int32) + nI a = nI (19 + a) := n_add 19 a
theorem p19_r {a : Nat} : nI a + (19 : Int32) = nI (a + 19) := n_add a 19
theorem p19_s {a : Nat} (h : 19 ≤ a) : nI a - (19 : Int32) = nI (a - 19) := n_sub h
theorem q20a {a : Nat} (h : a < 2147483648) : ((20 : Int32) ≤ nI a) = (20 ≤ a) := n_le (a := 20) (b := a) (by decide) h
theorem q20b {a : Nat} (h : a < 2147483648) : ((20 : Int32) < nI a) = (20 < a) := n_lt (a := 20) (b := a) (by decide) h
theorem q20c {a : Nat} (h : a < 2147483648) : (nI a ≤ (20 : Int32)) = (a ≤ 20) := n_le (a := a) (b := 20) h (by decide)
theorem q20d {a : Nat} (h : a < 2147483648) : (nI a < (20 : Int32)) = (a < 20) := n_lt (a := a) (b := 20) h (by decide)
theorem q20e {a : Nat} (h : a < 2147483648) : (nI a = (20 : Int32)) = (a = 20) := n_eq (a := a) (b := 20) h (by decide)
theorem q20f {a : Nat} (h : a < 2147483648) : ((20 : Int32) = nI a) = (20 = a) := n_eq (a := 20) (b := a) (by decide) h
theorem p20_l {a : Nat} : (20 : Int32) + nI a = nI (20 + a) := n_add 20 a
theorem p20_r {a : Nat} : nI a + (20 : Int32) = nI (a + 20) := n_add a 20
theorem p20_s {a : Nat} (h : 20 ≤ a) : nI a - (20 : Int32) = nI (a - 20) := n_sub h
theorem q31a {a : Nat} (h : a < 2147483648) : ((31 : Int32) ≤ nI a) = (31 ≤ a) := n_le (a := 31) (b := a) (by decide) h
theorem q31b {a : Nat} (h : a < 2147483648) : ((31 : Int32) < nI a) = (31 < a) := n_lt (a := 31) (b := a) (by decide) h
theorem q31c {a : Nat} (h : a < 2147483648) : (nI a ≤ (31 : Int32)) = (a ≤ 31) := n_le (a := a) (b := 31) h (by decide)
theorem q31d {a : Nat} (h : a < 2147483648) : (nI a < (31 : Int32)) = (a < 31) := n_lt (a := a) (b := 31) h (by decide)
theorem q31e {a : Nat} (h : a < 2147483648) : (nI a = (31 : Int32)) = (a = 31) := n_eq (a := a) (b := 31) h (by decide)
theorem q31f {a : Nat} (h : a < 2147483648) : ((31 : Int32) = nI a) = (31 = a) := n_eq (a := 31) (b := a) (by decide) h
theorem p31_l {a : Nat} : (31 : Int32) + nI a = nI (31 + a) := n_add 31 a
theorem p31_r {a : Nat} : nI a + (31 : Int32) = nI (a + 31) := n_add a 31
theorem p31_s {a : Nat} (h : 31 ≤ a) : nI a - (31 : Int32) = nI (a - 31) := n_sub h
theorem q40a {a : Nat} (h : a < 2147483648) : ((40 : Int32) ≤ nI a) = (40 ≤ a) := n_le (a := 40) (b := a) (by decide) h
theorem q40b {a : Nat} (h : a < 2147483648) : ((40 : Int32) < nI a) = (40 < a) := n_lt (a := 40) (b := a) (by decide) h
theorem q40c {a : Nat} (h : a < 2147483648) : (nI a ≤ (40 : Int32)) = (a ≤ 40) := n_le (a := a) (b := 40) h (by decide)
theorem q40d {a : Nat} (h : a < 2147483648) : (nI a < (40 : Int32)) = (a < 40) := n_lt (a := a) (b := 40) h (by decide)
theorem q40e {a : Nat} (h : a < 2147483648) : (nI a = (40 : Int32)) = (a = 40) := n_eq (a := a) (b := 40) h (by decide)
theorem q40f {a : Nat} (h : a < 2147483648) : ((40 : Int32) = nI a) = (40 = a) := n_eq (a := 40) (b := a) (by decide) h
theorem p40_l {a : Nat} : (40 : Int32) + nI a = nI (40 + a) := n_add 40 a
theorem p40_r {a : Nat} : nI a + (40 : Int32) = nI (a + 40) := n_add a 40
theorem p40_s {a : Nat} (h : 40 ≤ a) : nI a - (40 : Int32) = nI (a - 40) := n_sub h
theorem q48a {a : Nat} (h : a < 2147483648) : ((48 : Int32) ≤ nI a) = (48 ≤ a) := n_le (a := 48) (b := a) (by decide) h
theorem q48b {a : Nat} (h : a < 2147483648) : ((48 : Int32) < nI a) = (48 < a) := n_lt (a := 48) (b := a) (by decide) h
theorem q48c {a : Nat} (h : a < 2147483648) : (nI a ≤ (48 : Int32)) = (a ≤ 48) := n_le (a := a) (b := 48) h (by decide)
theorem q48d {a : Nat} (h : a < 2147483648) : (nI a < (48 : Int32)) = (a < 48) := n_lt (a := a) (b := 48) h (by decide)
theorem q48e {a : Nat} (h : a < 2147483648) : (nI a = (48 : Int32)) = (a = 48) := n_eq (a := a) (b := 48) h (by decide)
theorem q48f {a : Nat} (h : a < 2147483648) : ((48 : Int32) = nI a) = (48 = a) := n_eq (a := 48) (b := a) (by decide) h
theorem p48_l {a : Nat} : (48 : Int32) + nI a = nI (48 + a) := n_add 48 a
theorem p48_r {a : Nat} : nI a + (48 : Int32) = nI (a + 48) := n_add a 48
theorem p48_s {a : Nat} (h : 48 ≤ a) : nI a - (48 : Int32) = nI (a - 48) := n_sub h
theorem q50a {a : Nat} (h : a < 2147483648) : ((50 : Int32) ≤ nI a) = (50 ≤ a) := n_le (a := 50) (b := a) (by decide) h
theorem q50b {a : Nat} (h : a < 2147483648) : ((50 : Int32) < nI a) = (50 < a) := n_lt (a := 50) (b := a) (by decide) h
theorem q50c {a : Nat} (h : a < 2147483648) : (nI a ≤ (50 : Int32)) = (a ≤ 50) := n_le (a := a) (b := 50) h (by decide)
theorem q50d {a : Nat} (h : a < 2147483648) : (nI a < (50 : Int32)) = (a < 50) := n_lt (a := a) (b := 50) h (by decide)
theorem q50e {a : Nat} (h : a < 2147483648) : (nI a = (50 : Int32)) = (a = 50) := n_eq (a := a) (b := 50) h (by decide)
theorem q50f {a : Nat} (h : a < 2147483648) : ((50 : Int32) = nI a) = (50 = a) := n_eq (a := 50) (b := a) (by decide) h
theorem p50_l {a : Nat} : (50 : Int32) + nI a = nI (50 + a) := n_add 50 a
theorem p50_r {a : Nat} : nI a + (50 : Int32) = nI (a + 50) := n_add a 50
theorem p50_s {a : Nat} (h : 50 ≤ a) : nI a - (50 : Int32) = nI (a - 50) := n_sub h
theorem p50_m {a : Nat} : (50 : Int32) * nI a = nI (50 * a) := n_mul 50 a
theorem q52a {a : Nat} (h : a < 2147483648) : ((52 : Int32) ≤ nI a) = (52 ≤ a) := n_le (a := 52) (b := a) (by decide) h
theorem q52b {a : Nat} (h : a < 2147483648) : ((52 : Int32) < nI a) = (52 < a) := n_lt (a := 52) (b := a) (by decide) h
theorem q52c {a : Nat} (h : a < 2147483648) : (nI a ≤ (52 : Int32)) = (a ≤ 52) := n_le (a := a) (b := 52) h (by decide)
theorem q52d {a : Nat} (h : a < 2147483648) : (nI a < (52 : Int32)) = (a < 52) := n_lt (a := a) (b := 52) h (by decide)
theorem q52e {a : Nat} (h : a < 2147483648) : (nI a = (52 : Int32)) = (a = 52) := n_eq (a := a) (b := 52) h (by decide)
theorem q52f {a : Nat} (h : a < 2147483648) : ((52 : Int32) = nI a) = (52 = a) := n_eq (a := 52) (b := a) (by decide) h
theorem p52_l {a : Nat} : (52 : Int32) + nI a = nI (52 + a) := n_add 52 a
theorem p52_r {a : Nat} : nI a + (52 : Int32) = nI (a + 52) := n_add a 52
theorem p52_s {a : Nat} (h : 52 ≤ a) : nI a - (52 : Int32) = nI (a - 52) := n_sub h
theorem q60a {a : Nat} (h : a < 2147483648) : ((60 : Int32) ≤ nI a) = (60 ≤ a) := n_le (a := 60) (b := a) (by decide) h
theorem q60b {a : Nat} (h : a < 2147483648) : ((60 : Int32) < nI a) = (60 < a) := n_lt (a := 60) (b := a) (by decide) h
theorem q60c {a : Nat} (h : a < 2147483648) : (nI a ≤ (60 : Int32)) = (a ≤ 60) := n_le (a := a) (b := 60) h (by decide)
theorem q60d {a : Nat} (h : a < 2147483648) : (nI a < (60 : Int32)) = (a < 60) := n_lt (a := a) (b := 60) h (by decide)
theorem q60e {a : Nat} (h : a < 2147483648) : (nI a = (60 : Int32)) = (a = 60) := n_eq (a := a) (b := 60) h (by decide)
theorem q60f {a : Nat} (h : a < 2147483648) : ((60 : Int32) = nI a) = (60 = a) := n_eq (a := 60) (b := a) (by decide) h
theorem p60_l {a : Nat} : (60 : Int32) + nI a = nI (60 + a) := n_add 60 a
theorem p60_r {a : Nat} : nI a + (60 : Int32) = nI (a + 60) := n_add a 60
theorem p60_s {a : Nat} (h : 60 ≤ a) : nI a - (60 : Int32) = nI (a - 60) := n_sub h
theorem q63a {a : Nat} (h : a < 2147483648) : ((63 : Int32) ≤ nI a) = (63 ≤ a) := n_le (a := 63) (b := a) (by decide) h
theorem q63b {a : Nat} (h : a < 2147483648) : ((63 : Int32) < nI a) = (63 < a) := n_lt (a := 63) (b := a) (by decide) h
theorem q63c {a : Nat} (h : a < 2147483648) : (nI a ≤ (63 : Int32)) = (a ≤ 63) := n_le (a := a) (b := 63) h (by decide)
theorem q63d {a : Nat} (h : a < 2147483648) : (nI a < (63 : Int32)) = (a < 63) := n_lt (a := a) (b := 63) h (by decide)
theorem q63e {a : Nat} (h : a < 2147483648) : (nI a = (63 : Int32)) = (a = 63) := n_eq (a := a) (b := 63) h (by decide)
theorem q63f {a : Nat} (h : a < 2147483648) : ((63 : Int32) = nI a) = (63 = a) := n_eq (a := 63) (b := a) (by decide) h
theorem p63_l {a : Nat} : (63 : Int32) + nI a = nI (63 + a) := n_add 63 a
theorem p63_r {a : Nat} : nI a + (63 : Int32) = nI (a + 63) := n_add a 63
theorem p63_s {a : Nat} (h : 63 ≤ a) : nI a - (63 : Int32) = nI (a - 63) := n_sub h
theorem q80a {a : Nat} (h : a < 2147483648) : ((80 : Int32) ≤ nI a) = (80 ≤ a) := n_le (a := 80) (b := a) (by decide) h
theorem q80b {a : Nat} (h : a < 2147483648) : ((80 : Int32) < nI a) = (80 < a) := n_lt (a := 80) (b := a) (by decide) h
theorem q80c {a : Nat} (h : a < 2147483648) : (nI a ≤ (80 : Int32)) = (a ≤ 80) := n_le (a := a) (b := 80) h (by decide)
theorem q80d {a : Nat} (h : a < 2147483648) : (nI a < (80 : Int32)) = (a < 80) := n_lt (a := a) (b := 80) h (by decide)
theorem q80e {a : Nat} (h : a < 2147483648) : (nI a = (80 : Int32)) = (a = 80) := n_eq (a := a) (b := 80) h (by decide)
theorem q80f {a : Nat} (h : a < 2147483648) : ((80 : Int32) = nI a) = (80 = a) := n_eq (a := 80) (b := a) (by decide) h
theorem p80_l {a : Nat} : (80 : Int32) + nI a = nI (80 + a) := n_add 80 a
theorem p80_r {a : Nat} : nI a + (80 : Int32) = nI (a + 80) := n_add a 80
theorem p80_s {a : Nat} (h : 80 ≤ a) : nI a - (80 : Int32) = nI (a - 80) := n_sub h
theorem q99a {a : Nat} (h : a < 2147483648) : ((99 : Int32) ≤ nI a) = (99 ≤ a) := n_le (a := 99) (b := a) (by decide) h
theorem q99b {a : Nat} (h : a < 2147483648) : ((99 : Int32) < nI a) = (99 < a) := n_lt (a := 99) (b := a) (by decide) h
theorem q99c {a : Nat} (h : a < 2147483648) : (nI a ≤ (99 : Int32)) = (a ≤ 99) := n_le (a := a) (b := 99) h (by decide)
theorem q99d {a : Nat} (h : a < 2147483648) : (nI a < (99 : Int32)) = (a < 99) := n_lt (a := a) (b := 99) h (by decide)
theorem q99e {a : Nat} (h : a < 2147483648) : (nI a = (99 : Int32)) = (a = 99) := n_eq (a := a) (b := 99) h (by decide)
theorem q99f {a : Nat} (h : a < 2147483648) : ((99 : Int32) = nI a) = (99 = a) := n_eq (a := 99) (b := a) (by decide) h
theorem p99_l {a : Nat} : (99 : Int32) + nI a = nI (99 + a) := n_add 99 a
theorem p99_r {a : Nat} : nI a + (99 : Int32) = nI (a + 99) := n_add a 99
theorem p99_s {a : Nat} (h : 99 ≤ a) : nI a - (99 : Int32) = nI (a - 99) := n_sub h
theorem q100a {a : Nat} (h : a < 2147483648) : ((100 : Int32) ≤ nI a) = (100 ≤ a) := n_le (a := 100) (b := a) (by decide) h
theorem q100b {a : Nat} (h : a < 2147483648) : ((100 : Int32) < nI a) = (100 < a) := n_lt (a := 100) (b := a) (by decide) h
theorem q100c {a : Nat} (h : a < 2147483648) : (nI a ≤ (100 : Int32)) = (a ≤ 100) := n_le (a := a) (b := 100) h (by decide)
theorem q100d {a : Nat} (h : a < 2147483648) : (nI a < (100 : Int32)) = (a < 100) := n_lt (a := a) (b := 100) h (by decide)
theorem q100e {a : Nat} (h : a < 2147483648) : (nI a = (100 : Int32)) = (a = 100) := n_eq (a := a) (b := 100) h (by decide)
theorem q100f {a : Nat} (h : a < 2147483648) : ((100 : Int32) = nI a) = (100 = a) := n_eq (a := 100) (b := a) (by decide) h
theorem p100_l {a : Nat} : (100 : Int32) + nI a = nI (100 + a) := n_add 100 a
theorem p100_r {a : Nat} : nI a + (100 : Int32) = nI (a + 100) := n_add a 100
theorem p100_s {a : Nat} (h : 100 ≤ a) : nI a - (100 : Int32) = nI (a - 100) := n_sub h
theorem q120a {a : Nat} (h : a < 2147483648) : ((120 : Int32) ≤ nI a) = (120 ≤ a) := n_le (a := 120) (b := a) (by decide) h
theorem q120b {a : Nat} (h : a < 2147483648) : ((120 : Int32) < nI a) = (120 < a) := n_lt (a := 120) (b := a) (by decide) h
theorem q120c {a : Nat} (h : a < 2147483648) : (nI a ≤ (120 : Int32)) = (a ≤ 120) := n_le (a := a) (b := 120) h (by decide)
theorem q120d {a : Nat} (h : a < 2147483648) : (nI a < (120 : Int32)) = (a < 120) := n_lt (a := a) (b := 120) h (by decide)
theorem q120e {a : Nat} (h : a < 2147483648) : (nI a = (120 : Int32)) = (a = 120) := n_eq (a := a) (b := 120) h (by decide)
theorem q120f {a : Nat} (h : a < 2147483648) : ((120 : Int32) = nI a) = (120 = a) := n_eq (a := 120) (b := a) (by decide) h
theorem p120_l {a : Nat} : (120 : Int32) + nI a = nI (120 + a) := n_add 120 a
theorem p120_r {a : Nat} : nI a + (120 : Int32) = nI (a + 120) := n_add a 120
theorem p120_s {a : Nat} (h : 120 ≤ a) : nI a - (120 : Int32) = nI (a - 120) := n_sub h
theorem q240a {a : Nat} (h : a < 2147483648) : ((240 : Int32) ≤ nI a) = (240 ≤ a) := n_le (a := 240) (b := a) (by decide) h
theorem q240b {a : Nat} (h : a < 2147483648) : ((240 : Int32) < nI a) = (240 < a) := n_lt (a := 240) (b := a) (by decide) h
theorem q240c {a : Nat} (h : a < 2147483648) : (nI a ≤ (240 : Int32)) = (a ≤ 240) := n_le (a := a) (b := 240) h (by decide)
theorem q240d {a : Nat} (h : a < 2147483648) : (nI a < (240 : Int32)) = (a < 240) := n_lt (a := a) (b := 240) h (by decide)
theorem q240e {a : Nat} (h : a < 2147483648) : (nI a = (240 : Int32)) = (a = 240) := n_eq (a := a) (b := 240) h (by decide)
theorem q240f {a : Nat} (h : a < 2147483648) : ((240 : Int32) = nI a) = (240 = a) := n_eq (a := 240) (b := a) (by decide) h
theorem p240_l {a : Nat} : (240 : Int32) + nI a = nI (240 + a) := n_add 240 a
theorem p240_r {a : Nat} : nI a + (240 : Int32) = nI (a + 240) := n_add a 240
theorem p240_s {a : Nat} (h : 240 ≤ a) : nI a - (240 : Int32) = nI (a - 240) := n_sub h
theorem q243a {a : Nat} (h : a < 2147483648) : ((243 : Int32) ≤ nI a) = (243 ≤ a) := n_le (a := 243) (b := a) (by decide) h
theorem q243b {a : Nat} (h : a < 2147483648) : ((243 : Int32) < nI a) = (243 < a) := n_lt (a := 243) (b := a) (by decide) h
theorem q243c {a : Nat} (h : a < 2147483648) : (nI a ≤ (243 : Int32)) = (a ≤ 243) := n_le (a := a) (b := 243) h (by decide)
theorem q243d {a : Nat} (h : a < 2147483648) : (nI a < (243 : Int32)) = (a < 243) := n_lt (a := a) (b := 243) h (by decide)
theorem q243e {a : Nat} (h : a < 2147483648) : (nI a = (243 : Int32)) = (a = 243) := n_eq (a := a) (b := 243) h (by decide)
theorem q243f {a : Nat} (h : a < 2147483648) : ((243 : Int32) = nI a) = (243 = a) := n_eq (a := 243) (b := a) (by decide) h
theorem p243_l {a : Nat} : (243 : Int32) + nI a = nI (243 + a) := n_add 243 a
theorem p243_r {a : Nat} : nI a + (243 : Int32) = nI (a + 243) := n_add a 243
theorem p243_s {a : Nat} (h : 243 ≤ a) : nI a - (243 : Int32) = nI (a - 243) := n_sub h
theorem q244a {a : Nat} (h : a < 2147483648) : ((244 : Int32) ≤ nI a) = (244 ≤ a) := n_le (a := 244) (b := a) (by decide) h
theorem q244b {a : Nat} (h : a < 2147483648) : ((244 : Int32) < nI a) = (244 < a) := n_lt (a := 244) (b := a) (by decide) h
theorem q244c {a : Nat} (h : a < 2147483648) : (nI a ≤ (244 : Int32)) = (a ≤ 244) := n_le (a := a) (b := 244) h (by decide)
theorem q244d {a : Nat} (h : a < 2147483648) : (nI a < (244 : Int32)) = (a < 244) := n_lt (a := a) (b := 244) h (by decide)
theorem q244e {a : Nat} (h : a < 2147483648) : (nI a = (244 : Int32)) = (a = 244) := n_eq (a := a) (b := 244) h (by decide)
theorem q244f {a : Nat} (h : a < 2147483648) : ((244 : Int32) = nI a) = (244 = a) := n_eq (a := 244) (b := a) (by decide) h
theorem p244_l {a : Nat} : (244 : Int32) + nI a = nI (244 + a) := n_add 244 a
theorem p244_r {a : Nat} : nI a + (244 : Int32) = nI (a + 244) := n_add a 244
theorem p244_s {a : Nat} (h : 244 ≤ a) : nI a - (244 : Int32) = nI (a - 244) := n_sub h
theorem q580a {a : Nat} (h : a < 2147483648) : ((580 : Int32) ≤ nI a) = (580 ≤ a) := n_le (a := 580) (b := a) (by decide) h
theorem q580b {a : Nat} (h : a < 2147483648) : ((580 : Int32) < nI a) = (580 < a) := n_lt (a := 580) (b := a) (by decide) h
theorem q580c {a : Nat} (h : a < 2147483648) : (nI a ≤ (580 : Int32)) = (a ≤ 580) := n_le (a := a) (b := 580) h (by decide)
theorem q580d {a : Nat} (h : a < 2147483648) : (nI a < (580 : Int32)) = (a < 580) := n_lt (a := a) (b := 580) h (by decide)
theorem q580e {a : Nat} (h : a < 2147483648) : (nI a = (580 : Int32)) = (a = 580) := n_eq (a := a) (b := 580) h (by decide)
theorem q580f {a : Nat} (h : a < 2147483648) : ((580 : Int32) = nI a) = (580 = a) := n_eq (a := 580) (b := a) (by decide) h
theorem p580_l {a : Nat} : (580 : Int32) + nI a = nI (580 + a) := n_add 580 a
theorem p580_r {a : Nat} : nI a + (580 : Int32) = nI (a + 580) := n_add a 580
theorem p580_s {a : Nat} (h : 580 ≤ a) : nI a - (580 : Int32) = nI (a - 580) := n_sub h
theorem q581a {a : Nat} (h : a < 2147483648) : ((581 : Int32) ≤ nI a) = (581 ≤ a) := n_le (a := 581) (b := a) (by decide) h
theorem q581b {a : Nat} (h : a < 2147483648) : ((581 : Int32) < nI a) = (581 < a) := n_lt (a := 581) (b := a) (by decide) h
theorem q581c {a : Nat} (h : a < 2147483648) : (nI a ≤ (581 : Int32)) = (a ≤ 581) := n_le (a := a) (b := 581) h (by decide)
theorem q581d {a : Nat} (h : a < 2147483648) : (nI a < (581 : Int32)) = (a < 581) := n_lt (a := a) (b := 581) h (by decide)
theorem q581e {a : Nat} (h : a < 2147483648) : (nI a = (581 : Int32)) = (a = 581) := n_eq (a := a) (b := 581) h (by decide)
theorem q581f {a : Nat} (h : a < 2147483648) : ((581 : Int32) = nI a) = (581 = a) := n_eq (a := 581) (b := a) (by decide) h
theorem p581_l {a : Nat} : (581 : Int32) + nI a = nI (581 + a) := n_add 581 a
theorem p581_r {a : Nat} : nI a + (581 : Int32) = nI (a + 581) := n_add a 581
theorem p581_s {a : Nat} (h : 581 ≤ a) : nI a - (581 : Int32) = nI (a - 581) := n_sub h
theorem q582a {a : Nat} (h : a < 2147483648) : ((582 : Int32) ≤ nI a) = (582 ≤ a) := n_le (a := 582) (b := a) (by decide) h
theorem q582b {a : Nat} (h : a < 2147483648) : ((582 : Int32) < nI a) = (582 < a) := n_lt (a := 582) (b := a) (by decide) h
theorem q582c {a : Nat} (h : a < 2147483648) : (nI a ≤ (582 : Int32)) = (a ≤ 582) := n_le (a := a) (b := 582) h (by decide)
theorem q582d {a : Nat} (h : a < 2147483648) : (nI a < (582 : Int32)) = (a < 582) := n_lt (a := a) (b := 582) h (by decide)
theorem q582e {a : Nat} (h : a < 2147483648) : (nI a = (582 : Int32)) = (a = 582) := n_eq (a := a) (b := 582) h (by decide)
theorem q582f {a : Nat} (h : a < 2147483648) : ((582 : Int32) = nI a) = (582 = a) := n_eq (a := 582) (b := a) (by decide) h
theorem p582_l {a : Nat} : (582 : Int32) + nI a = nI (582 + a) := n_add 582 a
theorem p582_r {a : Nat} : nI a + (582 : Int32) = nI (a + 582) := n_add a 582
theorem p582_s {a : Nat} (h : 582 ≤ a) : nI a - (582 : Int32) = nI (a - 582) := n_sub h
theorem q583a {a : Nat} (h : a < 2147483648) : ((583 : Int32) ≤ nI a) = (583 ≤ a) := n_le (a := 583) (b := a) (by decide) h
theorem q583b {a : Nat} (h : a < 2147483648) : ((583 : Int32) < nI a) = (583 < a) := n_lt (a := 583) (b := a) (by decide) h
theorem q583c {a : Nat} (h : a < 2147483648) : (nI a ≤ (583 : Int32)) = (a ≤ 583) := n_le (a := a) (b := 583) h (by decide)
theorem q583d {a : Nat} (h : a < 2147483648) : (nI a < (583 : Int32)) = (a < 583) := n_lt (a := a) (b := 583) h (by decide)
theorem q583e {a : Nat} (h : a < 2147483648) : (nI a = (583 : Int32)) = (a = 583) := n_eq (a := a) (b := 583) h (by decide)
theorem q583f {a : Nat} (h : a < 2147483648) : ((583 : Int32) = nI a) = (583 = a) := n_eq (a := 583) (b := a) (by decide) h
theorem p583_l {a : Nat} : (583 : Int32) + nI a = nI (583 + a) := n_add 583 a
theorem p583_r {a : Nat} : nI a + (583 : Int32) = nI (a + 583) := n_add a 583
theorem p583_s {a : Nat} (h : 583 ≤ a) : nI a - (583 : Int32) = nI (a - 583) := n_sub h
theorem q584a {a : Nat} (h : a < 2147483648) : ((584 : Int32) ≤ nI a) = (584 ≤ a) := n_le (a := 584) (b := a) (by decide) h
theorem q584b {a : Nat} (h : a < 2147483648) : ((584 : Int32) < nI a) = (584 < a) := n_lt (a := 584) (b := a) (by decide) h
theorem q584c {a : Nat} (h : a < 2147483648) : (nI a ≤ (584 : Int32)) = (a ≤ 584) := n_le (a := a) (b := 584) h (by decide)
theorem q584d {a : Nat} (h : a < 2147483648) : (nI a < (584 : Int32)) = (a < 584) := n_lt (a := a) (b := 584) h (by decide)
theorem q584e {a : Nat} (h : a < 2147483648) : (nI a = (584 : Int32)) = (a = 584) := n_eq (a := a) (b := 584) h (by decide)
theorem q584f {a : Nat} (h : a < 2147483648) : ((584 : Int32) = nI a) = (584 = a) := n_eq (a := 584) (b := a) (by decide) h
theorem p584_l {a : Nat} : (584 : Int32) + nI a = nI (584 + a) := n_add 584 a
theorem p584_r {a : Nat} : nI a + (584 : Int32) = nI (a + 584) := n_add a 584
theorem p584_s {a : Nat} (h : 584 ≤ a) : nI a - (584 : Int32) = nI (a - 584) := n_sub h
theorem q585a {a : Nat} (h : a < 2147483648) : ((585 : Int32) ≤ nI a) = (585 ≤ a) := n_le (a := 585) (b := a) (by decide) h
theorem q585b {a : Nat} (h : a < 2147483648) : ((585 : Int32) < nI a) = (585 < a) := n_lt (a := 585) (b := a) (by decide) h
theorem q585c {a : Nat} (h : a < 2147483648) : (nI a ≤ (585 : Int32)) = (a ≤ 585) := n_le (a := a) (b := 585) h (by decide)
theorem q585d {a : Nat} (h : a < 2147483648) : (nI a < (585 : Int32)) = (a < 585) := n_lt (a := a) (b := 585) h (by decide)
theorem q585e {a : Nat} (h : a < 2147483648) : (nI a = (585 : Int32)) = (a = 585) := n_eq (a := a) (b := 585) h (by decide)
theorem q585f {a : Nat} (h : a < 2147483648) : ((585 : Int32) = nI a) = (585 = a) := n_eq (a := 585) (b := a) (by decide) h
theorem p585_l {a : Nat} : (585 : Int32) + nI a = nI (585 + a) := n_add 585 a
theorem p585_r {a : Nat} : nI a + (585 : Int32) = nI (a + 585) := n_add a 585
theorem p585_s {a : Nat} (h : 585 ≤ a) : nI a - (585 : Int32) = nI (a - 585) := n_sub h
theorem q586a {a : Nat} (h : a < 2147483648) : ((586 : Int32) ≤ nI a) = (586 ≤ a) := n_le (a := 586) (b := a) (by decide) h
theorem q586b {a : Nat} (h : a < 2147483648) : ((586 : Int32) < nI a) = (586 < a) := n_lt (a := 586) (b := a) (by decide) h
theorem q586c {a : Nat} (h : a < 2147483648) : (nI a ≤ (586 : Int32)) = (a ≤ 586) := n_le (a := a) (b := 586) h (by decide)
theorem q586d {a : Nat} (h : a < 2147483648) : (nI a < (586 : Int32)) = (a < 586) := n_lt (a := a) (b := 586) h (by decide)
theorem q586e {a : Nat} (h : a < 2147483648) : (nI a = (586 : Int32)) = (a = 586) := n_eq (a := a) (b := 586) h (by decide)
theorem q586f {a : Nat} (h : a < 2147483648) : ((586 : Int32) = nI a) = (586 = a) := n_eq (a := 586) (b := a) (by decide) h
theorem p586_l {a : Nat} : (586 : Int32) + nI a = nI (586 + a) := n_add 586 a
theorem p586_r {a : Nat} : nI a + (586 : Int32) = nI (a + 586) := n_add a 586
theorem p586_s {a : Nat} (h : 586 ≤ a) : nI a - (586 : Int32) = nI (a - 586) := n_sub h
theorem q999a {a : Nat} (h : a < 2147483648) : ((999 : Int32) ≤ nI a) = (999 ≤ a) := n_le (a := 999) (b := a) (by decide) h
theorem q999b {a : Nat} (h : a < 2147483648) : ((999 : Int32) < nI a) = (999 < a) := n_lt (a := 999) (b := a) (by decide) h
theorem q999c {a : Nat} (h : a < 2147483648) : (nI a ≤ (999 : Int32)) = (a ≤ 999) := n_le (a := a) (b := 999) h (by decide)
theorem q999d {a : Nat} (h : a < 2147483648) : (nI a < (999 : Int32)) = (a < 999) := n_lt (a := a) (b := 999) h (by decide)
theorem q999e {a : Nat} (h : a < 2147483648) : (nI a = (999 : Int32)) = (a = 999) := n_eq (a := a) (b := 999) h (by decide)
theorem q999f {a : Nat} (h : a < 2147483648) : ((999 : Int32) = nI a) = (999 = a) := n_eq (a := 999) (b := a) (by decide) h
theorem p999_l {a : Nat} : (999 : Int32) + nI a = nI (999 + a) := n_add 999 a
theorem p999_r {a : Nat} : nI a + (999 : Int32) = nI (a + 999) := n_add a 999
theorem p999_s {a : Nat} (h : 999 ≤ a) : nI a - (999 : Int32) = nI (a - 999) := n_sub h
theorem q1000a {a : Nat} (h : a < 2147483648) : ((1000 : Int32) ≤ nI a) = (1000 ≤ a) := n_le (a := 1000) (b := a) (by decide) h
theorem q1000b {a : Nat} (h : a < 2147483648) : ((1000 : Int32) < nI a) = (1000 < a) := n_lt (a := 1000) (b := a) (by decide) h
theorem q1000c {a : Nat} (h : a < 2147483648) : (nI a ≤ (1000 : Int32)) = (a ≤ 1000) := n_le (a := a) (b := 1000) h (by decide)
theorem q1000d {a : Nat} (h : a < 2147483648) : (nI a < (1000 : Int32)) = (a < 1000) := n_lt (a := a) (b := 1000) h (by decide)
theorem q1000e {a : Nat} (h : a < 2147483648) : (nI a = (1000 : Int32)) = (a = 1000) := n_eq (a := a) (b := 1000) h (by decide)
theorem q1000f {a : Nat} (h : a < 2147483648) : ((1000 : Int32) = nI a) = (1000 = a) := n_eq (a := 1000) (b := a) (by decide) h
theorem p1000_l {a : Nat} : (1000 : Int32) + nI a = nI (1000 + a) := n_add 1000 a
theorem p1000_r {a : Nat} : nI a + (1000 : Int32) = nI (a + 1000) := n_add a 1000
theorem p1000_s {a : Nat} (h : 1000 ≤ a) : nI a - (1000 : Int32) = nI (a - 1000) := n_sub h
theorem q2400a {a : Nat} (h : a < 2147483648) : ((2400 : Int32) ≤ nI a) = (2400 ≤ a) := n_le (a := 2400) (b := a) (by decide) h
theorem q2400b {a : Nat} (h : a < 2147483648) : ((2400 : Int32) < nI a) = (2400 < a) := n_lt (a := 2400) (b := a) (by decide) h
theorem q2400c {a : Nat} (h : a < 2147483648) : (nI a ≤ (2400 : Int32)) = (a ≤ 2400) := n_le (a := a) (b := 2400) h (by decide)
theorem q2400d {a : Nat} (h : a < 2147483648) : (nI a < (2400 : Int32)) = (a < 2400) := n_lt (a := a) (b := 2400) h (by decide)
theorem q2400e {a : Nat} (h : a < 2147483648) : (nI a = (2400 : Int32)) = (a = 2400) := n_eq (a := a) (b := 2400) h (by decide)
theorem q2400f {a : Nat} (h : a < 2147483648) : ((2400 : Int32) = nI a) = (2400 = a) := n_eq (a := 2400) (b := a) (by decide) h
theorem p2400_l {a : Nat} : (2400 : Int32) + nI a = nI (2400 + a) := n_add 2400 a
theorem p2400_r {a : Nat} : nI a + (2400 : Int32) = nI (a + 2400) := n_add a 2400
theorem p2400_s {a : Nat} (h : 2400 ≤ a) : nI a - (2400 : Int32) = nI (a - 2400) := n_sub h
theorem q9999a {a : Nat} (h : a < 2147483648) : ((9999 : Int32) ≤ nI a) = (9999 ≤ a) := n_le (a := 9999) (b := a) (by decide) h
theorem q9999b {a : Nat} (h : a < 2147483648) : ((9999 : Int32) < nI a) = (9999 < a) := n_lt (a := 9999) (b := a) (by decide) h
theorem q9999c {a : Nat} (h : a < 2147483648) : (nI a ≤ (9999 : Int32)) = (a ≤ 9999) := n_le (a := a) (b := 9999) h (by decide)
theorem q9999d {a : Nat} (h : a < 2147483648) : (nI a < (9999 : Int32)) = (a < 9999) := n_lt (a := a) (b := 9999) h (by decide)
theorem q9999e {a : Nat} (h : a < 2147483648) : (nI a = (9999 : Int32)) = (a = 9999) := n_eq (a := a) (b := 9999) h (by decide)
theorem q9999f {a : Nat} (h : a < 2147483648) : ((9999 : Int32) = nI a) = (9999 = a) := n_eq (a := 9999) (b := a) (by decide) h
theorem p9999_l {a : Nat} : (9999 : Int32) + nI a = nI (9999 + a) := n_add 9999 a
theorem p9999_r {a : Nat} : nI a + (9999 : Int32) = nI (a + 9999) := n_add a 9999
theorem p9999_s {a : Nat} (h : 9999 ≤ a) : nI a - (9999 : Int32) = nI (a - 9999) := n_sub h
theorem I00 : ((0 : Int32) = 0) = True := by decide
theorem I01 : ((0 : Int32) = 1) = False := by decide
theorem I10 : ((1 : Int32) = 0) = False := by decide
theorem I11 : ((1 : Int32) = 1) = True := by decide
theorem isThere_n {o j : Nat} {V : Mm} (hj : j < 50) : eX2_isThere o (nI j) V = some (b2i (V (o + 11) j = 1)) := by
  unfold eX2_isThere b2i
  simp (disch := omega) only [q0a, q0b, q0c, q0d, q0e, q0f, p0_l, p0_r, p0_s, q1a, q1b, q1c, q1d, q1e, q1f, p1_l, p1_r, p1_s, q2a, q2b, q2c, q2d, q2e, q2f, p2_l, p2_r, p2_s, q3a, q3b, q3c, q3d, q3e, q3f, p3_l, p3_r, p3_s, q4a, q4b, q4c, q4d, q4e, q4f, p4_l, p4_r, p4_s, p4_m, q5a, q5b, q5c, q5d, q5e, q5f, p5_l, p5_r, p5_s, p5_m, q6a, q6b, q6c, q6d, q6e, q6f, p6_l, p6_r, p6_s, q7a, q7b, q7c, q7d, q7e, q7f, p7_l, p7_r, p7_s, q8a, q8b, q8c, q8d, q8e, q8f, p8_l, p8_r, p8_s, q9a, q9b, q9c, q9d, q9e, q9f, p9_l, p9_r, p9_s, q10a, q10b, q10c, q10d, q10e, q10f, p10_l, p10_r, p10_s, p10_m, q11a, q11b, q11c, q11d, q11e, q11f, p11_l, p11_r, p11_s, q12a, q12b, q12c, q12d, q12e, q12f, p12_l, p12_r, p12_s, q15a, q15b, q15c, q15d, q15e, q15f, p15_l, p15_r, p15_s, q19a, q19b, q19c, q19d, q19e, q19f, p19_l, p19_r, p19_s, q20a, q20b, q20c, q20d, q20e, q20f, p20_l, p20_r, p20_s, q31a, q31b, q31c, q31d, q31e, q31f, p31_l, p31_r, p31_s, q40a, q40b, q40c, q40d, q40e, q40f, p40_l, p40_r, p40_s, q48a, q48b, q48c, q48d, q48e, q48f, p48_l, p48_r, p48_s, q50a, q50b, q50c, q50d, q50e, q50f, p50_l, p50_r, p50_s, p50_m, q52a, q52b, q52c, q52d, q52e, q52f, p52_l, p52_r, p52_s, q60a, q60b, q60c, q60d, q60e, q60f, p60_l, p60_r, p60_s, q63a, q63b, q63c, q63d, q63e, q63f, p63_l, p63_r, p63_s, q80a, q80b, q80c, q80d, q80e, q80f, p80_l, p80_r, p80_s, q99a, q99b, q99c, q99d, q99e, q99f, p99_l, p99_r, p99_s, q100a, q100b, q100c, q100d, q100e, q100f, p100_l, p100_r, p100_s, q120a, q120b, q120c, q120d, q120e, q120f, p120_l, p120_r, p120_s, q240a, q240b, q240c, q240d, q240e, q240f, p240_l, p240_r, p240_s, q243a, q243b, q243c, q243d, q243e, q243f, p243_l, p243_r, p243_s, q244a, q244b, q244c, q244d, q244e, q244f, p244_l, p244_r, p244_s, q580a, q580b, q580c, q580d, q580e, q580f, p580_l, p580_r, p580_s, q581a, q581b, q581c, q581d, q581e, q581f, p581_l, p581_r, p581_s, q582a, q582b, q582c, q582d, q582e, q582f, p582_l, p582_r, p582_s, q583a, q583b, q583c, q583d, q583e, q583f, p583_l, p583_r, p583_s, q584a, q584b, q584c, q584d, q584e, q584f, p584_l, p584_r, p584_s, q585a, q585b, q585c, q585d, q585e, q585f, p585_l, p585_r, p585_s, q586a, q586b, q586c, q586d, q586e, q586f, p586_l, p586_r, p586_s, q999a, q999b, q999c, q999d, q999e, q999f, p999_l, p999_r, p999_s, q1000a, q1000b, q1000c, q1000d, q1000e, q1000f, p1000_l, p1000_r, p1000_s, q2400a, q2400b, q2400c, q2400d, q2400e, q2400f, p2400_l, p2400_r, p2400_s, q9999a, q9999b, q9999c, q9999d, q9999e, q9999f, p9999_l, p9999_r, p9999_s, I00, I01, I10, I11, n_le, n_lt, n_eq, n_cl, n_add, n_ne9, n_ne1, if_true, if_false, Option.bind_some, if_pos, if_neg]
  split <;> rfl
theorem isThere_big {o j : Nat} {V : Mm} (hj : 50 ≤ j) (h : j < 2147483648) : eX2_isThere o (nI j) V = some 0 := by
  unfold eX2_isThere
  simp (disch := omega) only [q0a, q0b, q0c, q0d, q0e, q0f, p0_l, p0_r, p0_s, q1a, q1b, q1c, q1d, q1e, q1f, p1_l, p1_r, p1_s, q2a, q2b, q2c, q2d, q2e, q2f, p2_l, p2_r, p2_s, q3a, q3b, q3c, q3d, q3e, q3f, p3_l, p3_r, p3_s, q4a, q4b, q4c, q4d, q4e, q4f, p4_l, p4_r, p4_s, p4_m, q5a, q5b, q5c, q5d, q5e, q5f, p5_l, p5_r, p5_s, p5_m, q6a, q6b, q6c, q6d, q6e, q6f, p6_l, p6_r, p6_s, q7a, q7b, q7c, q7d, q7e, q7f, p7_l, p7_r, p7_s, q8a, q8b, q8c, q8d, q8e, q8f, p8_l, p8_r, p8_s, q9a, q9b, q9c, q9d, q9e, q9f, p9_l, p9_r, p9_s, q10a, q10b, q10c, q10d, q10e, q10f, p10_l, p10_r, p10_s, p10_m, q11a, q11b, q11c, q11d, q11e, q11f, p11_l, p11_r, p11_s, q12a, q12b, q12c, q12d, q12e, q12f, p12_l, p12_r, p12_s, q15a, q15b, q15c, q15d, q15e, q15f, p15_l, p15_r, p15_s, q19a, q19b, q19c, q19d, q19e, q19f, p19_l, p19_r, p19_s, q20a, q20b, q20c, q20d, q20e, q20f, p20_l, p20_r, p20_s, q31a, q31b, q31c, q31d, q31e, q31f, p31_l, p31_r, p31_s, q40a, q40b, q40c, q40d, q40e, q40f, p40_l, p40_r, p40_s, q48a, q48b, q48c, q48d, q48e, q48f, p48_l, p48_r, p48_s, q50a, q50b, q50c, q50d, q50e, q50f, p50_l, p50_r, p50_s, p50_m, q52a, q52b, q52c, q52d, q52e, q52f, p52_l, p52_r, p52_s, q60a, q60b, q60c, q60d, q60e, q60f, p60_l, p60_r, p60_s, q63a, q63b, q63c, q63d, q63e, q63f, p63_l, p63_r, p63_s, q80a, q80b, q80c, q80d, q80e, q80f, p80_l, p80_r, p80_s, q99a, q99b, q99c, q99d, q99e, q99f, p99_l, p99_r, p99_s, q100a, q100b, q100c, q100d, q100e, q100f, p100_l, p100_r, p100_s, q120a, q120b, q120c, q120d, q120e, q120f, p120_l, p120_r, p120_s, q240a, q240b, q240c, q240d, q240e, q240f, p240_l, p240_r, p240_s, q243a, q243b, q243c, q243d, q243e, q243f, p243_l, p243_r, p243_s, q244a, q244b, q244c, q244d, q244e, q244f, p244_l, p244_r, p244_s, q580a, q580b, q580c, q580d, q580e, q580f, p580_l, p580_r, p580_s, q581a, q581b, q581c, q581d, q581e, q581f, p581_l, p581_r, p581_s, q582a, q582b, q582c, q582d, q582e, q582f, p582_l, p582_r, p582_s, q583a, q583b, q583c, q583d, q583e, q583f, p583_l, p583_r, p583_s, q584a, q584b, q584c, q584d, q584e, q584f, p584_l, p584_r, p584_s, q585a, q585b, q585c, q585d, q585e, q585f, p585_l, p585_r, p585_s, q586a, q586b, q586c, q586d, q586e, q586f, p586_l, p586_r, p586_s, q999a, q999b, q999c, q999d, q999e, q999f, p999_l, p999_r, p999_s, q1000a, q1000b, q1000c, q1000d, q1000e, q1000f, p1000_l, p1000_r, p1000_s, q2400a, q2400b, q2400c, q2400d, q2400e, q2400f, p2400_l, p2400_r, p2400_s, q9999a, q9999b, q9999c, q9999d, q9999e, q9999f, p9999_l, p9999_r, p9999_s, I00, I01, I10, I11, n_le, n_lt, n_eq, n_cl, n_add, n_ne9, n_ne1, if_true, if_false, Option.bind_some, if_pos, if_neg]
theorem isThere_neg {o : Nat} {x : Int32} {V : Mm} (hx : x < 0) : eX2_isThere o x V = some 0 := by
  unfold eX2_isThere
  rw [if_pos hx]
theorem value_n {o j q : Nat} {V : Mm} (hj : j < 50) (hq : q < 10) : eX2_value o (nI j) (nI q) V = some (V (o + 2 + q) j) := by
  unfold eX2_value
  simp (disch := omega) only [q0a, q0b, q0c, q0d, q0e, q0f, p0_l, p0_r, p0_s, q1a, q1b, q1c, q1d, q1e, q1f, p1_l, p1_r, p1_s, q2a, q2b, q2c, q2d, q2e, q2f, p2_l, p2_r, p2_s, q3a, q3b, q3c, q3d, q3e, q3f, p3_l, p3_r, p3_s, q4a, q4b, q4c, q4d, q4e, q4f, p4_l, p4_r, p4_s, p4_m, q5a, q5b, q5c, q5d, q5e, q5f, p5_l, p5_r, p5_s, p5_m, q6a, q6b, q6c, q6d, q6e, q6f, p6_l, p6_r, p6_s, q7a, q7b, q7c, q7d, q7e, q7f, p7_l, p7_r, p7_s, q8a, q8b, q8c, q8d, q8e, q8f, p8_l, p8_r, p8_s, q9a, q9b, q9c, q9d, q9e, q9f, p9_l, p9_r, p9_s, q10a, q10b, q10c, q10d, q10e, q10f, p10_l, p10_r, p10_s, p10_m, q11a, q11b, q11c, q11d, q11e, q11f, p11_l, p11_r, p11_s, q12a, q12b, q12c, q12d, q12e, q12f, p12_l, p12_r, p12_s, q15a, q15b, q15c, q15d, q15e, q15f, p15_l, p15_r, p15_s, q19a, q19b, q19c, q19d, q19e, q19f, p19_l, p19_r, p19_s, q20a, q20b, q20c, q20d, q20e, q20f, p20_l, p20_r, p20_s, q31a, q31b, q31c, q31d, q31e, q31f, p31_l, p31_r, p31_s, q40a, q40b, q40c, q40d, q40e, q40f, p40_l, p40_r, p40_s, q48a, q48b, q48c, q48d, q48e, q48f, p48_l, p48_r, p48_s, q50a, q50b, q50c, q50d, q50e, q50f, p50_l, p50_r, p50_s, p50_m, q52a, q52b, q52c, q52d, q52e, q52f, p52_l, p52_r, p52_s, q60a, q60b, q60c, q60d, q60e, q60f, p60_l, p60_r, p60_s, q63a, q63b, q63c, q63d, q63e, q63f, p63_l, p63_r, p63_s, q80a, q80b, q80c, q80d, q80e, q80f, p80_l, p80_r, p80_s, q99a, q99b, q99c, q99d, q99e, q99f, p99_l, p99_r, p99_s, q100a, q100b, q100c, q100d, q100e, q100f, p100_l, p100_r, p100_s, q120a, q120b, q120c, q120d, q120e, q120f, p120_l, p120_r, p120_s, q240a, q240b, q240c, q240d, q240e, q240f, p240_l, p240_r, p240_s, q243a, q243b, q243c, q243d, q243e, q243f, p243_l, p243_r, p243_s, q244a, q244b, q244c, q244d, q244e, q244f, p244_l, p244_r, p244_s, q580a, q580b, q580c, q580d, q580e, q580f, p580_l, p580_r, p580_s, q581a, q581b, q581c, q581d, q581e, q581f, p581_l, p581_r, p581_s, q582a, q582b, q582c, q582d, q582e, q582f, p582_l, p582_r, p582_s, q583a, q583b, q583c, q583d, q583e, q583f, p583_l, p583_r, p583_s, q584a, q584b, q584c, q584d, q584e, q584f, p584_l, p584_r, p584_s, q585a, q585b, q585c, q585d, q585e, q585f, p585_l, p585_r, p585_s, q586a, q586b, q586c, q586d, q586e, q586f, p586_l, p586_r, p586_s, q999a, q999b, q999c, q999d, q999e, q999f, p999_l, p999_r, p999_s, q1000a, q1000b, q1000c, q1000d, q1000e, q1000f, p1000_l, p1000_r, p1000_s, q2400a, q2400b, q2400c, q2400d, q2400e, q2400f, p2400_l, p2400_r, p2400_s, q9999a, q9999b, q9999c, q9999d, q9999e, q9999f, p9999_l, p9999_r, p9999_s, I00, I01, I10, I11, n_le, n_lt, n_eq, n_cl, n_add, n_ne9, n_ne1, if_true, if_false, Option.bind_some, if_pos, if_neg]
theorem set_n {o j q : Nat} {V : Mm} {x : Int32} (hj : j < 50) (hq : q < 10) : eX2_set o (nI j) (nI q) x V = some (wr V (o + 2 + q) j x) := by
  unfold eX2_set
  simp (disch := omega) only [q0a, q0b, q0c, q0d, q0e, q0f, p0_l, p0_r, p0_s, q1a, q1b, q1c, q1d, q1e, q1f, p1_l, p1_r, p1_s, q2a, q2b, q2c, q2d, q2e, q2f, p2_l, p2_r, p2_s, q3a, q3b, q3c, q3d, q3e, q3f, p3_l, p3_r, p3_s, q4a, q4b, q4c, q4d, q4e, q4f, p4_l, p4_r, p4_s, p4_m, q5a, q5b, q5c, q5d, q5e, q5f, p5_l, p5_r, p5_s, p5_m, q6a, q6b, q6c, q6d, q6e, q6f, p6_l, p6_r, p6_s, q7a, q7b, q7c, q7d, q7e, q7f, p7_l, p7_r, p7_s, q8a, q8b, q8c, q8d, q8e, q8f, p8_l, p8_r, p8_s, q9a, q9b, q9c, q9d, q9e, q9f, p9_l, p9_r, p9_s, q10a, q10b, q10c, q10d, q10e, q10f, p10_l, p10_r, p10_s, p10_m, q11a, q11b, q11c, q11d, q11e, q11f, p11_l, p11_r, p11_s, q12a, q12b, q12c, q12d, q12e, q12f, p12_l, p12_r, p12_s, q15a, q15b, q15c, q15d, q15e, q15f, p15_l, p15_r, p15_s, q19a, q19b, q19c, q19d, q19e, q19f, p19_l, p19_r, p19_s, q20a, q20b, q20c, q20d, q20e, q20f, p20_l, p20_r, p20_s, q31a, q31b, q31c, q31d, q31e, q31f, p31_l, p31_r, p31_s, q40a, q40b, q40c, q40d, q40e, q40f, p40_l, p40_r, p40_s, q48a, q48b, q48c, q48d, q48e, q48f, p48_l, p48_r, p48_s, q50a, q50b, q50c, q50d, q50e, q50f, p50_l, p50_r, p50_s, p50_m, q52a, q52b, q52c, q52d, q52e, q52f, p52_l, p52_r, p52_s, q60a, q60b, q60c, q60d, q60e, q60f, p60_l, p60_r, p60_s, q63a, q63b, q63c, q63d, q63e, q63f, p63_l, p63_r, p63_s, q80a, q80b, q80c, q80d, q80e, q80f, p80_l, p80_r, p80_s, q99a, q99b, q99c, q99d, q99e, q99f, p99_l, p99_r, p99_s, q100a, q100b, q100c, q100d, q100e, q100f, p100_l, p100_r, p100_s, q120a, q120b, q120c, q120d, q120e, q120f, p120_l, p120_r, p120_s, q240a, q240b, q240c, q240d, q240e, q240f, p240_l, p240_r, p240_s, q243a, q243b, q243c, q243d, q243e, q243f, p243_l, p243_r, p243_s, q244a, q244b, q244c, q244d, q244e, q244f, p244_l, p244_r, p244_s, q580a, q580b, q580c, q580d, q580e, q580f, p580_l, p580_r, p580_s, q581a, q581b, q581c, q581d, q581e, q581f, p581_l, p581_r, p581_s, q582a, q582b, q582c, q582d, q582e, q582f, p582_l, p582_r, p582_s, q583a, q583b, q583c, q583d, q583e, q583f, p583_l, p583_r, p583_s, q584a, q584b, q584c, q584d, q584e, q584f, p584_l, p584_r, p584_s, q585a, q585b, q585c, q585d, q585e, q585f, p585_l, p585_r, p585_s, q586a, q586b, q586c, q586d, q586e, q586f, p586_l, p586_r, p586_s, q999a, q999b, q999c, q999d, q999e, q999f, p999_l, p999_r, p999_s, q1000a, q1000b, q1000c, q1000d, q1000e, q1000f, p1000_l, p1000_r, p1000_s, q2400a, q2400b, q2400c, q2400d, q2400e, q2400f, p2400_l, p2400_r, p2400_s, q9999a, q9999b, q9999c, q9999d, q9999e, q9999f, p9999_l, p9999_r, p9999_s, I00, I01, I10, I11, n_le, n_lt, n_eq, n_cl, n_add, n_ne9, n_ne1, if_true, if_false, Option.bind_some, if_pos, if_neg]
theorem touch_n {o j : Nat} {V : Mm} {x : Int32} (hj : j < 50) : eX2_touch o (nI j) x V = some (wr (wr V (o + 23) j x) o 7 1) := by
  unfold eX2_touch
  simp (disch := omega) only [q0a, q0b, q0c, q0d, q0e, q0f, p0_l, p0_r, p0_s, q1a, q1b, q1c, q1d, q1e, q1f, p1_l, p1_r, p1_s, q2a, q2b, q2c, q2d, q2e, q2f, p2_l, p2_r, p2_s, q3a, q3b, q3c, q3d, q3e, q3f, p3_l, p3_r, p3_s, q4a, q4b, q4c, q4d, q4e, q4f, p4_l, p4_r, p4_s, p4_m, q5a, q5b, q5c, q5d, q5e, q5f, p5_l, p5_r, p5_s, p5_m, q6a, q6b, q6c, q6d, q6e, q6f, p6_l, p6_r, p6_s, q7a, q7b, q7c, q7d, q7e, q7f, p7_l, p7_r, p7_s, q8a, q8b, q8c, q8d, q8e, q8f, p8_l, p8_r, p8_s, q9a, q9b, q9c, q9d, q9e, q9f, p9_l, p9_r, p9_s, q10a, q10b, q10c, q10d, q10e, q10f, p10_l, p10_r, p10_s, p10_m, q11a, q11b, q11c, q11d, q11e, q11f, p11_l, p11_r, p11_s, q12a, q12b, q12c, q12d, q12e, q12f, p12_l, p12_r, p12_s, q15a, q15b, q15c, q15d, q15e, q15f, p15_l, p15_r, p15_s, q19a, q19b, q19c, q19d, q19e, q19f, p19_l, p19_r, p19_s, q20a, q20b, q20c, q20d, q20e, q20f, p20_l, p20_r, p20_s, q31a, q31b, q31c, q31d, q31e, q31f, p31_l, p31_r, p31_s, q40a, q40b, q40c, q40d, q40e, q40f, p40_l, p40_r, p40_s, q48a, q48b, q48c, q48d, q48e, q48f, p48_l, p48_r, p48_s, q50a, q50b, q50c, q50d, q50e, q50f, p50_l, p50_r, p50_s, p50_m, q52a, q52b, q52c, q52d, q52e, q52f, p52_l, p52_r, p52_s, q60a, q60b, q60c, q60d, q60e, q60f, p60_l, p60_r, p60_s, q63a, q63b, q63c, q63d, q63e, q63f, p63_l, p63_r, p63_s, q80a, q80b, q80c, q80d, q80e, q80f, p80_l, p80_r, p80_s, q99a, q99b, q99c, q99d, q99e, q99f, p99_l, p99_r, p99_s, q100a, q100b, q100c, q100d, q100e, q100f, p100_l, p100_r, p100_s, q120a, q120b, q120c, q120d, q120e, q120f, p120_l, p120_r, p120_s, q240a, q240b, q240c, q240d, q240e, q240f, p240_l, p240_r, p240_s, q243a, q243b, q243c, q243d, q243e, q243f, p243_l, p243_r, p243_s, q244a, q244b, q244c, q244d, q244e, q244f, p244_l, p244_r, p244_s, q580a, q580b, q580c, q580d, q580e, q580f, p580_l, p580_r, p580_s, q581a, q581b, q581c, q581d, q581e, q581f, p581_l, p581_r, p581_s, q582a, q582b, q582c, q582d, q582e, q582f, p582_l, p582_r, p582_s, q583a, q583b, q583c, q583d, q583e, q583f, p583_l, p583_r, p583_s, q584a, q584b, q584c, q584d, q584e, q584f, p584_l, p584_r, p584_s, q585a, q585b, q585c, q585d, q585e, q585f, p585_l, p585_r, p585_s, q586a, q586b, q586c, q586d, q586e, q586f, p586_l, p586_r, p586_s, q999a, q999b, q999c, q999d, q999e, q999f, p999_l, p999_r, p999_s, q1000a, q1000b, q1000c, q1000d, q1000e, q1000f, p1000_l, p1000_r, p1000_s, q2400a, q2400b, q2400c, q2400d, q2400e, q2400f, p2400_l, p2400_r, p2400_s, q9999a, q9999b, q9999c, q9999d, q9999e, q9999f, p9999_l, p9999_r, p9999_s, I00, I01, I10, I11, n_le, n_lt, n_eq, n_cl, n_add, n_ne9, n_ne1, if_true, if_false, Option.bind_some, if_pos, if_neg]
theorem isTouched_n {o j : Nat} {V : Mm} (hj : j < 50) : eX2_isTouched o (nI j) V = some (b2i (V (o + 23) j ≠ 0)) := by
  unfold eX2_isTouched b2i
  simp (disch := omega) only [q0a, q0b, q0c, q0d, q0e, q0f, p0_l, p0_r, p0_s, q1a, q1b, q1c, q1d, q1e, q1f, p1_l, p1_r, p1_s, q2a, q2b, q2c, q2d, q2e, q2f, p2_l, p2_r, p2_s, q3a, q3b, q3c, q3d, q3e, q3f, p3_l, p3_r, p3_s, q4a, q4b, q4c, q4d, q4e, q4f, p4_l, p4_r, p4_s, p4_m, q5a, q5b, q5c, q5d, q5e, q5f, p5_l, p5_r, p5_s, p5_m, q6a, q6b, q6c, q6d, q6e, q6f, p6_l, p6_r, p6_s, q7a, q7b, q7c, q7d, q7e, q7f, p7_l, p7_r, p7_s, q8a, q8b, q8c, q8d, q8e, q8f, p8_l, p8_r, p8_s, q9a, q9b, q9c, q9d, q9e, q9f, p9_l, p9_r, p9_s, q10a, q10b, q10c, q10d, q10e, q10f, p10_l, p10_r, p10_s, p10_m, q11a, q11b, q11c, q11d, q11e, q11f, p11_l, p11_r, p11_s, q12a, q12b, q12c, q12d, q12e, q12f, p12_l, p12_r, p12_s, q15a, q15b, q15c, q15d, q15e, q15f, p15_l, p15_r, p15_s, q19a, q19b, q19c, q19d, q19e, q19f, p19_l, p19_r, p19_s, q20a, q20b, q20c, q20d, q20e, q20f, p20_l, p20_r, p20_s, q31a, q31b, q31c, q31d, q31e, q31f, p31_l, p31_r, p31_s, q40a, q40b, q40c, q40d, q40e, q40f, p40_l, p40_r, p40_s, q48a, q48b, q48c, q48d, q48e, q48f, p48_l, p48_r, p48_s, q50a, q50b, q50c, q50d, q50e, q50f, p50_l, p50_r, p50_s, p50_m, q52a, q52b, q52c, q52d, q52e, q52f, p52_l, p52_r, p52_s, q60a, q60b, q60c, q60d, q60e, q60f, p60_l, p60_r, p60_s, q63a, q63b, q63c, q63d, q63e, q63f, p63_l, p63_r, p63_s, q80a, q80b, q80c, q80d, q80e, q80f, p80_l, p80_r, p80_s, q99a, q99b, q99c, q99d, q99e, q99f, p99_l, p99_r, p99_s, q100a, q100b, q100c, q100d, q100e, q100f, p100_l, p100_r, p100_s, q120a, q120b, q120c, q120d, q120e, q120f, p120_l, p120_r, p120_s, q240a, q240b, q240c, q240d, q240e, q240f, p240_l, p240_r, p240_s, q243a, q243b, q243c, q243d, q243e, q243f, p243_l, p243_r, p243_s, q244a, q244b, q244c, q244d, q244e, q244f, p244_l, p244_r, p244_s, q580a, q580b, q580c, q580d, q580e, q580f, p580_l, p580_r, p580_s, q581a, q581b, q581c, q581d, q581e, q581f, p581_l, p581_r, p581_s, q582a, q582b, q582c, q582d, q582e, q582f, p582_l, p582_r, p582_s, q583a, q583b, q583c, q583d, q583e, q583f, p583_l, p583_r, p583_s, q584a, q584b, q584c, q584d, q584e, q584f, p584_l, p584_r, p584_s, q585a, q585b, q585c, q585d, q585e, q585f, p585_l, p585_r, p585_s, q586a, q586b, q586c, q586d, q586e, q586f, p586_l, p586_r, p586_s, q999a, q999b, q999c, q999d, q999e, q999f, p999_l, p999_r, p999_s, q1000a, q1000b, q1000c, q1000d, q1000e, q1000f, p1000_l, p1000_r, p1000_s, q2400a, q2400b, q2400c, q2400d, q2400e, q2400f, p2400_l, p2400_r, p2400_s, q9999a, q9999b, q9999c, q9999d, q9999e, q9999f, p9999_l, p9999_r, p9999_s, I00, I01, I10, I11, n_le, n_lt, n_eq, n_cl, n_add, n_ne9, n_ne1, if_true, if_false, Option.bind_some, if_pos, if_neg]
  split <;> simp_all
theorem value_0 {o j : Nat} {V : Mm} (hj : j < 50) : eX2_value o (nI j) 0 V = some (V (o + 2) j) := value_n (q := 0) hj (by decide)
theorem set_0 {o j : Nat} {V : Mm} {x : Int32} (hj : j < 50) : eX2_set o (nI j) 0 x V = some (wr V (o + 2) j x) := set_n (q := 0) hj (by decide)
theorem value_1 {o j : Nat} {V : Mm} (hj : j < 50) : eX2_value o (nI j) 1 V = some (V (o + 3) j) := value_n (q := 1) hj (by decide)
theorem set_1 {o j : Nat} {V : Mm} {x : Int32} (hj : j < 50) : eX2_set o (nI j) 1 x V = some (wr V (o + 3) j x) := set_n (q := 1) hj (by decide)
theorem value_2 {o j : Nat} {V : Mm} (hj : j < 50) : eX2_value o (nI j) 2 V = some (V (o + 4) j) := value_n (q := 2) hj (by decide)
theorem set_2 {o j : Nat} {V : Mm} {x : Int32} (hj : j < 50) : eX2_set o (nI j) 2 x V = some (wr V (o + 4) j x) := set_n (q := 2) hj (by decide)
theorem value_3 {o j : Nat} {V : Mm} (hj : j < 50) : eX2_value o (nI j) 3 V = some (V (o + 5) j) := value_n (q := 3) hj (by decide)
theorem set_3 {o j : Nat} {V : Mm} {x : Int32} (hj : j < 50) : eX2_set o (nI j) 3 x V = some (wr V (o + 5) j x) := set_n (q := 3) hj (by decide)
theorem value_4 {o j : Nat} {V : Mm} (hj : j < 50) : eX2_value o (nI j) 4 V = some (V (o + 6) j) := value_n (q := 4) hj (by decide)
theorem set_4 {o j : Nat} {V : Mm} {x : Int32} (hj : j < 50) : eX2_set o (nI j) 4 x V = some (wr V (o + 6) j x) := set_n (q := 4) hj (by decide)
theorem value_5 {o j : Nat} {V : Mm} (hj : j < 50) : eX2_value o (nI j) 5 V = some (V (o + 7) j) := value_n (q := 5) hj (by decide)
theorem set_5 {o j : Nat} {V : Mm} {x : Int32} (hj : j < 50) : eX2_set o (nI j) 5 x V = some (wr V (o + 7) j x) := set_n (q := 5) hj (by decide)
theorem value_6 {o j : Nat} {V : Mm} (hj : j < 50) : eX2_value o (nI j) 6 V = some (V (o + 8) j) := value_n (q := 6) hj (by decide)
theorem set_6 {o j : Nat} {V : Mm} {x : Int32} (hj : j < 50) : eX2_set o (nI j) 6 x V = some (wr V (o + 8) j x) := set_n (q := 6) hj (by decide)
theorem value_7 {o j : Nat} {V : Mm} (hj : j < 50) : eX2_value o (nI j) 7 V = some (V (o + 9) j) := value_n (q := 7) hj (by decide)
theorem set_7 {o j : Nat} {V : Mm} {x : Int32} (hj : j < 50) : eX2_set o (nI j) 7 x V = some (wr V (o + 9) j x) := set_n (q := 7) hj (by decide)
theorem value_8 {o j : Nat} {V : Mm} (hj : j < 50) : eX2_value o (nI j) 8 V = some (V (o + 10) j) := value_n (q := 8) hj (by decide)
theorem set_8 {o j : Nat} {V : Mm} {x : Int32} (hj : j < 50) : eX2_set o (nI j) 8 x V = some (wr V (o + 10) j x) := set_n (q := 8) hj (by decide)
theorem value_9 {o j : Nat} {V : Mm} (hj : j < 50) : eX2_value o (nI j) 9 V = some (V (o + 11) j) := value_n (q := 9) hj (by decide)
theorem set_9 {o j : Nat} {V : Mm} {x : Int32} (hj : j < 50) : eX2_set o (nI j) 9 x V = some (wr V (o + 11) j x) := set_n (q := 9) hj (by decide)

