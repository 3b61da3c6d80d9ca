
/-! a row of ids that pass, on each side -/
def cnt (p : Nat → Bool) (n : Nat) : Nat := (List.range n).countP p
theorem cnt_surj {p : Nat → Bool} : ∀ n i, i < cnt p n → ∃ l, l < n ∧ p l = true ∧ cnt p l = i := by
  intro n
  induction n with
  | zero => intro i hi; exact absurd hi (by unfold cnt; simp)
  | succ n ih =>
    intro i hi
    unfold cnt at hi
    rw [cnt_succ] at hi
    by_cases h : p n = true
    · rw [if_pos h] at hi
      by_cases e : i = cnt p n
      · exact ⟨n, by omega, h, e.symm⟩
      · obtain ⟨l, l1, l2, l3⟩ := ih i (by unfold cnt at e ⊢; omega)
        exact ⟨l, by omega, l2, l3⟩
    · rw [if_neg h] at hi
      obtain ⟨l, l1, l2, l3⟩ := ih i (by unfold cnt; omega)
      exact ⟨l, by omega, l2, l3⟩
theorem cntN_T {p : Nat → Bool} {n : Nat} (h : p n = true) : cnt p (n + 1) = cnt p n + 1 := cnt_T h
theorem cntN_F {p : Nat → Bool} {n : Nat} (h : p n = false) : cnt p (n + 1) = cnt p n := cnt_F h
theorem cntN_le {p : Nat → Bool} {n : Nat} : cnt p n ≤ n := cnt_le p n
theorem cntN_mono {p : Nat → Bool} {l n : Nat} (h : l < n) (hp : p l = true) : cnt p l < cnt p n := by
  induction n with
  | zero => omega
  | succ n ih =>
    by_cases e : l = n
    · subst e; rw [cntN_T hp]; omega
    · have := ih (by omega)
      unfold cnt at this ⊢
      rw [cnt_succ]
      omega
def clRow (q r : Nat) (V : Mm) (p : Nat → Bool) (ids : Nat → Nat) (j : Nat) : Prop := V (91 + 9 * q + 6) r = nI (cnt p j) ∧ ∀ l, l < j → p l = true → V (91 + 9 * q + 2 + r) (cnt p l) = nI (ids l)
def mdRow (q r : Nat) (W : Mm) (p : Nat → Bool) (ids : Nat → Nat) (j : Nat) : Prop := W 9 (4 * q + r) = nI (cnt p j) ∧ ∀ l, l < j → p l = true → W 10 (50 * (4 * q + r) + cnt p l) = nI (ids l)
theorem rowFin {q r c : Nat} {V W : Mm} {p : Nat → Bool} {ids : Nat → Nat} (h1 : clRow q r V p ids c) (h2 : mdRow q r W p ids c) (hc : c ≤ 50) (hi : ∀ i, i < c → ids i < 2147483648) (hd : ∀ i j, i < j → j < c → ids i ≠ ids j) : rowRel V W q r := by
  refine ⟨cnt p c, Nat.le_trans cntN_le hc, h1.1, h2.1, fun i hi2 => ?_, fun i j hij hj => ?_, fun i hi2 => ?_⟩
  · obtain ⟨l, l1, l2, l3⟩ := cnt_surj c i hi2
    rw [← l3, h1.2 l l1 l2, h2.2 l l1 l2]
  · obtain ⟨l, l1, l2, l3⟩ := cnt_surj (p := p) c i (by omega)
    obtain ⟨m, m1, m2, m3⟩ := cnt_surj c j hj
    rw [← l3, ← m3, h2.2 l l1 l2, h2.2 m m1 m2]
    have hlm : l < m := by
      rcases Nat.lt_or_ge l m with z | z
      · exact z
      · by_cases e : l = m
        · subst e; omega
        · have := cntN_mono (p := p) (show m < l by omega) m2
          omega
    intro z
    exact hd l m hlm m1 ((nI_eq (hi l l1) (hi m m1)).mp z)
  · obtain ⟨l, l1, l2, l3⟩ := cnt_surj c i hi2
    exact ⟨ids l, hi l l1, by rw [← l3]; exact h2.2 l l1 l2⟩
theorem clRow_cg {q r j : Nat} {V : Mm} {p p' : Nat → Bool} {ids : Nat → Nat} (h : clRow q r V p ids j) (e : ∀ l, l < j → p' l = p l) : clRow q r V p' ids j := by
  have ec : ∀ l, l ≤ j → cnt p' l = cnt p l := fun l hl => cnt_congr (fun i hi => e i (by omega))
  refine ⟨by rw [ec j (Nat.le_refl _)]; exact h.1, fun l hl hp => ?_⟩
  rw [ec l (by omega)]
  exact h.2 l hl (by rw [← e l hl]; exact hp)
theorem clRow_F {q r j : Nat} {V : Mm} {p : Nat → Bool} {ids : Nat → Nat} (h : clRow q r V p ids j) (e : p j = false) : clRow q r V p ids (j + 1) := by
  refine ⟨by rw [cntN_F e]; exact h.1, fun l hl hp => ?_⟩
  by_cases el : l = j
  · subst el; rw [e] at hp; cases hp
  · exact h.2 l (by omega) hp
theorem clRow_T {q r j : Nat} {V : Mm} {p : Nat → Bool} {ids : Nat → Nat} (h : clRow q r V p ids j) (e : p j = true) (hr : r < 4) (hj : j < 50) :
    ∃ V', eX4_add (91 + 9 * q) (nI r) (nI (ids j)) V = some V' ∧ clRow q r V' p ids (j + 1) ∧ outC q V V' ∧ ∀ s, s ≠ r → V' (91 + 9 * q + 6) s = V (91 + 9 * q + 6) s := by
  have hle := cntN_le (p := p) (n := j)
  refine ⟨_, add_n hr h.1 (by omega), ⟨by rw [wr_at, cntN_T e], fun l hl hp => ?_⟩, fun k hk => by rw [wr_ne (by omega), wr_ne (by omega)], fun s hs => by rw [wr_in hs, wr_ne (by omega)]⟩
  by_cases el : l = j
  · subst el; rw [wr_ne (by omega), wr_at]
  · have hlt := cntN_mono (p := p) (show l < j by omega) hp
    rw [wr_ne (by omega), wr_in (by omega)]
    exact h.2 l (by omega) hp
theorem mdRow_cg {q r j : Nat} {V : Mm} {p p' : Nat → Bool} {ids : Nat → Nat} (h : mdRow q r V p ids j) (e : ∀ l, l < j → p' l = p l) : mdRow q r V p' ids j := by
  have ec : ∀ l, l ≤ j → cnt p' l = cnt p l := fun l hl => cnt_congr (fun i hi => e i (by omega))
  refine ⟨by rw [ec j (Nat.le_refl _)]; exact h.1, fun l hl hp => ?_⟩
  rw [ec l (by omega)]
  exact h.2 l hl (by rw [← e l hl]; exact hp)
theorem mdRow_F {q r j : Nat} {W : Mm} {p : Nat → Bool} {ids : Nat → Nat} (h : mdRow q r W p ids j) (e : p j = false) : mdRow q r W p ids (j + 1) := by
  refine ⟨by rw [cntN_F e]; exact h.1, fun l hl hp => ?_⟩
  by_cases el : l = j
  · subst el; rw [e] at hp; cases hp
  · exact h.2 l (by omega) hp
theorem mdRow_T {q r j : Nat} {W : Mm} {p : Nat → Bool} {ids : Nat → Nat} (h : mdRow q r W p ids j) (hq : q < 12) (e : p j = true) (hr : r < 4) (hj : j < 50) (hi : ∀ i, i ≤ j → ids i < 2147483648) (hd : ∀ i, i < j → ids i ≠ ids j) :
    eX6_isGiven (nI q) (nI r) (nI (ids j)) W = some 0 ∧ ∃ W', eX6_give (nI q) (nI r) (nI (ids j)) W = some W' ∧ mdRow q r W' p ids (j + 1) ∧ outM q W W' ∧ ∀ s, s < 4 → s ≠ r → W' 9 (4 * q + s) = W 9 (4 * q + s) := by
  have hle := cntN_le (p := p) (n := j)
  constructor
  · refine isGiven_b hq hr h.1 (by omega) (fun i hi2 => ?_) (cnt p j) fu 0 (by omega) (by unfold fu; omega)
    obtain ⟨l, l1, l2, l3⟩ := cnt_surj j i hi2
    rw [← l3, h.2 l l1 l2]
    intro z
    exact hd l l1 ((nI_eq (hi l (by omega)) (hi j (Nat.le_refl _))).mp z)
  · refine ⟨_, give_m hq hr h.1 (by omega), ⟨by rw [wr_at, cntN_T e], fun l hl hp => ?_⟩, ⟨fun k a b => by rw [wr_ne a, wr_ne b], fun i hi2 => ?_, fun i hi2 => ?_⟩, fun s hs hs2 => by rw [wr_in (by omega), wr_ne (by omega)]⟩
    · by_cases el : l = j
      · subst el; rw [wr_ne (by omega), wr_at]
      · have hlt := cntN_mono (p := p) (show l < j by omega) hp
        rw [wr_ne (by omega), wr_in (by omega)]
        exact h.2 l (by omega) hp
    · rw [wr_in (by omega), wr_ne (by omega)]
    · rw [wr_ne (by omega), wr_in (by omega)]
/-! one part of one box or mail changes -/
def recI (κ x k : Nat) : Nat := if κ = 0 then 4 * x + k else 80 + 10 * x + k
def recN (κ : Nat) : Nat := if κ = 0 then 4 else 10
def chW (κ x p : Nat) (y : Int32) (V : Mm) : Mm := wr (wr (wr V (oK κ + 1 + p) x y) (oK κ + 23) x 2) (oK κ) 7 1
def chStep (κ : Nat) (Fc Fm : Option (Int32 × Mm)) (V W : Mm) (x nb nm nt : Nat) : Prop :=
  (∃ (code : Int32) (p : Nat) (y : Int32), code ≠ 0 ∧ 1 ≤ p ∧ p < recN κ ∧ (Fc = some (code, V) ∨ Fc = some (code, chW κ x p y V)) ∧ Fm = some (code, W)) ∨
  (∃ (p : Nat) (y : Int32), 1 ≤ p ∧ p < recN κ ∧ (κ = 1 → p ≠ 8) ∧ isTh (W 1) nb nm nt κ x ∧ WF (wr W 1 (recI κ x p) y 1) nb nm nt ∧ Fm = some (0, wr W 1 (recI κ x p) y) ∧
    ((y = W 1 (recI κ x p) ∧ Fc = some (0, V)) ∨ (y ≠ W 1 (recI κ x p) ∧ Fc = some (0, chW κ x p y V))))
theorem wr_id {V : Mm} {c k : Nat} : wr V c k (V c k) = V := by
  funext a j
  by_cases h : a = c
  · subst h
    by_cases h2 : j = k
    · subst h2; rw [wr_at]
    · rw [wr_in h2]
  · rw [wr_ne h]
theorem isThb_wr {W : Mm} {nb nm nt κ x p κ' i : Nat} {y : Int32} (hκ : κ < 2) (hκ' : κ' < 3) (hwn : WN (W 1) nb nm nt) (hx : x < evK nb nm nt κ) (h1 : 1 ≤ p) (hp : p < recN κ) (h8 : κ = 1 → p ≠ 8) : isThb (wr W 1 (recI κ x p) y 1) nb nm nt κ' i = isThb (W 1) nb nm nt κ' i := by
  have b20 := hwn.b20
  have b50 := hwn.m50
  have hc' : κ' = 0 ∨ κ' = 1 ∨ κ' = 2 := by omega
  have hc : κ = 0 ∨ κ = 1 := by omega
  rcases hc with rfl | rfl
  · have hx' : x < nb := hx
    have hp' : p < 4 := hp
    rw [show recI 0 x p = 4 * x + p from rfl]
    rcases hc' with rfl | rfl | rfl
    · show decide (i < nb ∧ wr W 1 (4 * x + p) y 1 (4 * i) = 1) = decide (i < nb ∧ W 1 (4 * i) = 1)
      rw [wr_in (by omega)]
    · show decide (i < nm ∧ wr W 1 (4 * x + p) y 1 (80 + 10 * i) = 1) = decide (i < nm ∧ W 1 (80 + 10 * i) = 1)
      rw [wr_in (by omega)]
    · show decide (i < nt ∧ 0 < cntT (wr W 1 (4 * x + p) y 1) nm i) = decide (i < nt ∧ 0 < cntT (W 1) nm i)
      rw [cntT_congr (w := W 1) (v := wr W 1 (4 * x + p) y 1) (fun m hm => ⟨by rw [wr_in (by omega)], by rw [wr_in (by omega)]⟩)]
  · have hx' : x < nm := hx
    have hp' : p < 10 := hp
    have h8' := h8 rfl
    rw [show recI 1 x p = 80 + 10 * x + p from rfl]
    rcases hc' with rfl | rfl | rfl
    · show decide (i < nb ∧ wr W 1 (80 + 10 * x + p) y 1 (4 * i) = 1) = decide (i < nb ∧ W 1 (4 * i) = 1)
      by_cases e : i < nb
      · rw [wr_in (by omega)]
      · simp [e]
    · show decide (i < nm ∧ wr W 1 (80 + 10 * x + p) y 1 (80 + 10 * i) = 1) = decide (i < nm ∧ W 1 (80 + 10 * i) = 1)
      rw [wr_in (by omega)]
    · show decide (i < nt ∧ 0 < cntT (wr W 1 (80 + 10 * x + p) y 1) nm i) = decide (i < nt ∧ 0 < cntT (W 1) nm i)
      rw [cntT_congr (w := W 1) (v := wr W 1 (80 + 10 * x + p) y 1) (fun m hm => ⟨by rw [wr_in (by omega)], by rw [wr_in (by omega)]⟩)]
theorem othB_cg {w0 w w' : Nat → Int32} {nm0 nm κ i : Nat} (hκ : κ < 2) (h : ∀ k, k < recN κ → w' (recI κ i k) = w (recI κ i k)) : othB w0 w' nm0 nm κ i = othB w0 w nm0 nm κ i := by
  have hc : κ = 0 ∨ κ = 1 := by omega
  have key : ∀ k, k < othN nm κ → othp w0 w' nm0 nm κ i k = othp w0 w nm0 nm κ i k := by
    intro k hk
    rcases hc with rfl | rfl
    · show decide (1 ≤ k ∧ w' (4 * i + k) ≠ w0 (4 * i + k)) = decide (1 ≤ k ∧ w (4 * i + k) ≠ w0 (4 * i + k))
      rw [show w' (4 * i + k) = w (4 * i + k) from h k hk]
    · show decide (1 ≤ k ∧ w' (80 + 10 * i + k) ≠ w0 (80 + 10 * i + k)) = decide (1 ≤ k ∧ w (80 + 10 * i + k) ≠ w0 (80 + 10 * i + k))
      rw [show w' (80 + 10 * i + k) = w (80 + 10 * i + k) from h k hk]
  rw [Bool.eq_iff_iff]
  unfold othB
  rw [anyB_iff, anyB_iff]
  constructor
  · rintro ⟨k, hk, e⟩
    exact ⟨k, hk, by rw [← key k hk]; exact e⟩
  · rintro ⟨k, hk, e⟩
    exact ⟨k, hk, by rw [key k hk]; exact e⟩
theorem whatK_cg {w0 w w' : Nat → Int32} {nb0 nm0 nt0 nb nm nt κ i : Nat} (h : isThb w' nb nm nt κ i = isThb w nb nm nt κ i) (ho : isThb w nb nm nt κ i = true → othB w0 w' nm0 nm κ i = othB w0 w nm0 nm κ i) : whatK w0 w' nb0 nm0 nt0 nb nm nt κ i = whatK w0 w nb0 nm0 nt0 nb nm nt κ i := by
  unfold whatK
  rw [h]
  cases e : isThb w nb nm nt κ i
  · rfl
  · rw [ho e]
theorem recI_ne {κ x i k p : Nat} (hk : k < recN κ) (hp : p < recN κ) (h : i ≠ x) : recI κ i k ≠ recI κ x p := by
  unfold recI recN at *
  by_cases e : κ = 0
  · rw [if_pos e] at hk hp ⊢; rw [if_pos e]; omega
  · rw [if_neg e] at hk hp ⊢; rw [if_neg e]; omega
theorem whatK_wr {W : Mm} {w0 : Nat → Int32} {nb nm nt κ x p κ' i : Nat} {y : Int32} (hκ : κ < 2) (hκ' : κ' < 3) (hwn : WN (W 1) nb nm nt) (hx : x < evK nb nm nt κ) (h1 : 1 ≤ p) (hp : p < recN κ) (h8 : κ = 1 → p ≠ 8) (hne : κ' ≠ κ ∨ i ≠ x) :
    whatK w0 (wr W 1 (recI κ x p) y 1) nb nm nt nb nm nt κ' i = whatK w0 (W 1) nb nm nt nb nm nt κ' i := by
  have b20 := hwn.b20
  have b50 := hwn.m50
  have b3 := hwn.tm
  refine whatK_cg (isThb_wr hκ hκ' hwn hx h1 hp h8) (fun hth => ?_)
  by_cases e : κ' = κ
  · subst e
    have hi : i ≠ x := by
      rcases hne with z | z
      · exact absurd rfl z
      · exact z
    exact othB_cg hκ (fun k hk => by rw [wr_in (recI_ne hk hp hi)])
  · have hc : κ = 0 ∨ κ = 1 := by omega
    have hc' : κ' = 0 ∨ κ' = 1 ∨ κ' = 2 := by omega
    rcases hc with rfl | rfl
    · have hx' : x < nb := hx
      have hp' : p < 4 := hp
      rcases hc' with rfl | rfl | rfl
      · exact absurd rfl e
      · exact othB_cg (by omega) (fun k hk => by
          rw [show recI 1 i k = 80 + 10 * i + k from rfl, show recI 0 x p = 4 * x + p from rfl, wr_in (by omega)])
      · rw [Bool.eq_iff_iff]
        unfold othB
        rw [anyB_iff, anyB_iff]
        have key : ∀ m, m < othN nm 2 → othp w0 (wr W 1 (recI 0 x p) y 1) nm nm 2 i m = othp w0 (W 1) nm nm 2 i m := fun m hm => by
          have hm' : m < nm := hm
          show (thIn (wr W 1 (4 * x + p) y 1) nm i m != thIn w0 nm i m) = (thIn (W 1) nm i m != thIn w0 nm i m)
          unfold thIn thM
          rw [wr_in (by omega), wr_in (by omega)]
        constructor
        · rintro ⟨k, hk, z⟩
          exact ⟨k, hk, by rw [← key k hk]; exact z⟩
        · rintro ⟨k, hk, z⟩
          exact ⟨k, hk, by rw [key k hk]; exact z⟩
    · have hx' : x < nm := hx
      have hp' : p < 10 := hp
      have h8' := h8 rfl
      rcases hc' with rfl | rfl | rfl
      · have hib := (isTh_0.mp hth).1
        exact othB_cg (by omega) (fun k hk => by
          have hk' : k < 4 := hk
          rw [show recI 1 x p = 80 + 10 * x + p from rfl, show recI 0 i k = 4 * i + k from rfl, wr_in (by omega)])
      · exact absurd rfl e
      · rw [Bool.eq_iff_iff]
        unfold othB
        rw [anyB_iff, anyB_iff]
        have key : ∀ m, m < othN nm 2 → othp w0 (wr W 1 (recI 1 x p) y 1) nm nm 2 i m = othp w0 (W 1) nm nm 2 i m := fun m hm => by
          have hm' : m < nm := hm
          show (thIn (wr W 1 (80 + 10 * x + p) y 1) nm i m != thIn w0 nm i m) = (thIn (W 1) nm i m != thIn w0 nm i m)
          unfold thIn thM
          rw [wr_in (by omega), wr_in (by omega)]
        constructor
        · rintro ⟨k, hk, z⟩
          exact ⟨k, hk, by rw [← key k hk]; exact z⟩
        · rintro ⟨k, hk, z⟩
          exact ⟨k, hk, by rw [key k hk]; exact z⟩
