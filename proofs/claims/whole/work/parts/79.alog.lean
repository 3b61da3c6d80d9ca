
/-! rows of numbers that are alike where it matters -/
theorem bitsOf_c {w v : Nat → Int32} {m : Nat} (h : w (80 + 10 * m + 9) = v (80 + 10 * m + 9)) : bitsOf w m = bitsOf v m := by unfold bitsOf; rw [h]
theorem WF_c0 {w v : Nat → Int32} {nb nm nt : Nat} (h : ∀ j, j < 580 → w j = v j) (h20 : nb ≤ 20) (h50 : nm ≤ 50) (hF : WF v nb nm nt) : WF w nb nm nt := by
  have hb : WF w nb nm nt := by
    have o0 : ∀ b, b < nb → w (4 * b) = v (4 * b) := fun b hb => h _ (by omega)
    have o1 : ∀ b, b < nb → w (4 * b + 1) = v (4 * b + 1) := fun b hb => h _ (by omega)
    have o2 : ∀ b, b < nb → w (4 * b + 2) = v (4 * b + 2) := fun b hb => h _ (by omega)
    refine WF_box hF h50 (fun k a b => h k (by omega)) (fun b hb => by rw [o0 b hb]; exact hF.1 b hb) (fun b hb e => ?_) ?_ (fun b c hb hc hbc e1 e2 e3 => ?_) (fun b m hb e _ _ _ => ⟨hb, by rw [o0 b hb]; exact e⟩)
    · rw [o0 b hb] at e
      rw [o2 b hb]
      rcases hF.2.1 b hb e with p | ⟨p, p1, p2, p3⟩
      · exact Or.inl p
      · exact Or.inr ⟨p, p1, p2, by rw [o0 p p1]; exact p3⟩
    · obtain ⟨d, hd⟩ := hF.2.2.1
      refine ⟨d, fun b hb e => ?_⟩
      rw [o0 b hb] at e
      rw [o2 b hb]
      exact hd b hb e
    · rw [o0 b hb] at e1
      rw [o0 c hc] at e2
      rw [o2 b hb, o2 c hc] at e3
      rw [o1 b hb, o1 c hc]
      exact hF.2.2.2.1 b c hb hc hbc e1 e2 e3
  exact hb
theorem WRel_c1 {V V' : Mm} {w v : Nat → Int32} {nb nm nt : Nat} (hW : WRel V v nb nm nt) (h : ∀ j, j < 583 → w j = v j) (h6 : ∀ κ, κ < 3 → V' (oK κ) 6 = w (583 + κ)) (hf : ∀ κ, κ < 3 → V' (oK κ) 3 = V (oK κ) 3 ∧ V' (oK κ) 4 = V (oK κ) 4) (hc : ∀ κ c i, κ < 3 → c < 10 → i < 50 → V' (oK κ + 2 + c) i = V (oK κ + 2 + c) i) : WRel V' w nb nm nt := by
  have hwn := WRel_WN hW
  have q1 := hwn.b20
  have q2 := hwn.m50
  have q3 := hwn.tm
  obtain ⟨a1, ⟨e1, e2, e3⟩, ⟨b1, b2, b3⟩, ⟨d1, d2, d3⟩, ⟨f1, f2, f3⟩, a6, a7, a8, a9, a10, a11⟩ := hW
  obtain ⟨x1, x2⟩ := hf 0 (by omega)
  obtain ⟨y1, y2⟩ := hf 1 (by omega)
  obtain ⟨z1, z2⟩ := hf 2 (by omega)
  refine ⟨a1, ⟨by rw [h _ (by omega)]; exact e1, by rw [h _ (by omega)]; exact e2, by rw [h _ (by omega)]; exact e3⟩, ⟨x2.trans b1, y2.trans b2, z2.trans b3⟩, ⟨x1.trans d1, y1.trans d2, z1.trans d3⟩, ⟨h6 0 (by omega), h6 1 (by omega), h6 2 (by omega)⟩, fun b hb => ?_, fun b hb hb2 => ?_, fun m hm => ⟨?_, fun c hc2 => ?_⟩, fun m hm hm2 => ?_, fun t ht => ?_, fun t ht ht2 => ?_⟩
  · obtain ⟨p1, p2, p3, p4⟩ := a6 b hb
    rw [h (4 * b) (by omega), h (4 * b + 1) (by omega), h (4 * b + 2) (by omega), h (4 * b + 3) (by omega)]
    exact ⟨(hc 0 9 b (by omega) (by omega) (by omega)).trans p1, (hc 0 0 b (by omega) (by omega) (by omega)).trans p2, (hc 0 1 b (by omega) (by omega) (by omega)).trans p3, (hc 0 2 b (by omega) (by omega) (by omega)).trans p4⟩
  · exact (hc 0 9 b (by omega) (by omega) hb2).trans (a7 b hb hb2)
  · rw [h _ (by omega)]
    exact (hc 1 9 m (by omega) (by omega) (by omega)).trans (a8 m hm).1
  · rw [h _ (by omega)]
    exact (hc 1 c m (by omega) (by omega) (by omega)).trans ((a8 m hm).2 c hc2)
  · exact (hc 1 9 m (by omega) (by omega) hm2).trans (a9 m hm hm2)
  · rw [cntT_congr (w := v) (v := w) (fun m hm => ⟨h _ (by omega), h _ (by omega)⟩)]
    exact ⟨(hc 2 0 t (by omega) (by omega) (by omega)).trans (a10 t ht).1, (hc 2 9 t (by omega) (by omega) (by omega)).trans (a10 t ht).2⟩
  · exact ⟨(hc 2 9 t (by omega) (by omega) ht2).trans (a11 t ht ht2).1, (hc 2 0 t (by omega) (by omega) ht2).trans (a11 t ht ht2).2⟩
theorem WRel_c0 {V : Mm} {w v : Nat → Int32} {nb nm nt : Nat} (hW : WRel V v nb nm nt) (h : ∀ j, j < 586 → w j = v j) : WRel V w nb nm nt := by
  refine WRel_c1 hW (fun j hj => h j (by omega)) (fun κ hκ => ?_) (fun _ _ => ⟨rfl, rfl⟩) (fun _ _ _ _ _ _ => rfl)
  rw [h _ (by omega)]
  obtain ⟨f1, f2, f3⟩ := hW.2.2.2.2.1
  have : κ = 0 ∨ κ = 1 ∨ κ = 2 := by omega
  rcases this with rfl | rfl | rfl
  · exact f1
  · exact f2
  · exact f3
theorem isThb_c1 {w v : Nat → Int32} {nb nm nt κ i : Nat} (h : ∀ j, j < 580 → w j = v j) (h20 : nb ≤ 20) (h50 : nm ≤ 50) (hκ : κ < 3) : isThb w nb nm nt κ i = isThb v nb nm nt κ i := by
  have hc : κ = 0 ∨ κ = 1 ∨ κ = 2 := by omega
  rcases hc with rfl | rfl | rfl
  · show decide (i < nb ∧ w (4 * i) = 1) = decide (i < nb ∧ v (4 * i) = 1)
    by_cases e : i < nb
    · rw [h _ (by omega)]
    · simp [e]
  · show decide (i < nm ∧ w (80 + 10 * i) = 1) = decide (i < nm ∧ v (80 + 10 * i) = 1)
    by_cases e : i < nm
    · rw [h _ (by omega)]
    · simp [e]
  · show decide (i < nt ∧ 0 < cntT w nm i) = decide (i < nt ∧ 0 < cntT v nm i)
    rw [cntT_congr (w := v) (v := w) (fun m hm => ⟨h _ (by omega), h _ (by omega)⟩)]
theorem whatK_c1 {w0 w v : Nat → Int32} {nb0 nm0 nt0 nb nm nt κ i : Nat} (h : ∀ j, j < 580 → w j = v j) (h20 : nb ≤ 20) (h50 : nm ≤ 50) (hκ : κ < 3) : whatK w0 w nb0 nm0 nt0 nb nm nt κ i = whatK w0 v nb0 nm0 nt0 nb nm nt κ i := by
  refine whatK_cg (isThb_c1 h h20 h50 hκ) (fun e => ?_)
  have hc : κ = 0 ∨ κ = 1 ∨ κ = 2 := by omega
  rcases hc with rfl | rfl | rfl
  · have hi := (isTh_0.mp e).1
    exact othB_cg (by omega) (fun k hk => by have hk' : k < 4 := hk; exact h (4 * i + k) (by omega))
  · have hi := (isTh_1.mp e).1
    exact othB_cg (by omega) (fun k hk => by have hk' : k < 10 := hk; exact h (80 + 10 * i + k) (by omega))
  · have key : ∀ k, k < othN nm 2 → othp w0 w nm0 nm 2 i k = othp w0 v nm0 nm 2 i k := fun k hk => by
      have hk' : k < nm := hk
      show (thIn w nm i k != thIn w0 nm0 i k) = (thIn v nm i k != thIn w0 nm0 i k)
      unfold thIn thM
      rw [h (80 + 10 * k) (by omega), h (80 + 10 * k + 8) (by omega)]
    rw [Bool.eq_iff_iff]
    unfold othB
    rw [anyB_iff, anyB_iff]
    constructor
    · rintro ⟨k, hk, z⟩
      exact ⟨k, hk, by rw [← key k hk]; exact z⟩
    · rintro ⟨k, hk, z⟩
      exact ⟨k, hk, by rw [key k hk]; exact z⟩
theorem thK_iff {w : Nat → Int32} {nb nm nt κ i : Nat} (hw : WN w nb nm nt) (hκ : κ < 3) : thK w κ i ↔ isTh w nb nm nt κ i := by
  have b20 := hw.b20
  have b50 := hw.m50
  have b3 := hw.tm
  have hc : κ = 0 ∨ κ = 1 ∨ κ = 2 := by omega
  unfold thK
  rw [hw.eb, hw.em, hw.et, n_cl (by omega), n_cl (by omega), n_cl (by omega)]
  rcases hc with rfl | rfl | rfl
  · rw [if_pos rfl]; exact isTh_0.symm
  · rw [if_neg (by omega), if_pos rfl]; exact isTh_1.symm
  · rw [if_neg (by omega), if_neg (by omega)]; exact isTh_2.symm
theorem whatK_ev {w0 w : Nat → Int32} {nb0 nm0 nt0 nb nm nt κ i : Nat} (hκ : κ < 3) (hg : evK nb0 nm0 nt0 κ ≤ evK nb nm nt κ) (h : whatK w0 w nb0 nm0 nt0 nb nm nt κ i ≠ 0) : i < evK nb nm nt κ := by
  by_cases a : isTh w nb nm nt κ i
  · exact isTh_ev a hκ
  · by_cases b : isTh w0 nb0 nm0 nt0 κ i
    · have := isTh_ev b hκ; omega
    · exfalso
      apply h
      unfold whatK
      have e1 : isThb w nb nm nt κ i = false := by simpa using a
      have e0 : isThb w0 nb0 nm0 nt0 κ i = false := by simpa using b
      rw [e0, e1]; rfl
theorem whatK_old {w0 w : Nat → Int32} {nb0 nm0 nt0 nb nm nt κ i : Nat} (hκ : κ < 3) (hg : grow w0 w nb0 nm0 nt0 nb nm nt) (hi : i < evK nb0 nm0 nt0 κ) (h : whatK w0 w nb0 nm0 nt0 nb nm nt κ i ≠ 0) : isTh w0 nb0 nm0 nt0 κ i ∧ whatK w0 w nb0 nm0 nt0 nb nm nt κ i ≠ 1 := by
  have hb : isTh w0 nb0 nm0 nt0 κ i := by
    by_cases b : isTh w0 nb0 nm0 nt0 κ i
    · exact b
    · exfalso
      by_cases a : isTh w nb nm nt κ i
      · exact b (hg.2.2.2.1 κ i hκ hi a)
      · apply h
        unfold whatK
        have e1 : isThb w nb nm nt κ i = false := by simpa using a
        have e0 : isThb w0 nb0 nm0 nt0 κ i = false := by simpa using b
        rw [e0, e1]; rfl
  refine ⟨hb, ?_⟩
  unfold whatK
  rw [show isThb w0 nb0 nm0 nt0 κ i = true from hb]
  by_cases a : isThb w nb nm nt κ i = true
  · rw [a, if_pos rfl, if_pos rfl]
    split <;> omega
  · have e1 : isThb w nb nm nt κ i = false := by simpa using a
    rw [e1]
    simp
theorem whatK_33 {w0 w : Nat → Int32} {nb0 nm0 nt0 nb nm nt κ i : Nat} (h : whatK w0 w nb0 nm0 nt0 nb nm nt κ i = 3) : ¬ isTh w nb nm nt κ i := by
  intro a
  unfold whatK at h
  rw [show isThb w nb nm nt κ i = true from a] at h
  revert h
  cases isThb w0 nb0 nm0 nt0 κ i
  · simp
  · simp; split <;> omega
/-! the log, as lists of Nats -/
def psh (m o v : Nat) (f : Nat → Nat) : Nat → Nat := fun j => if j < m then f (j + o) else v
theorem psh_lt {m o v j : Nat} {f : Nat → Nat} (h : j < m) : psh m o v f j = f (j + o) := if_pos h
theorem psh_m {m o v : Nat} {f : Nat → Nat} : psh m o v f m = v := if_neg (by omega)
def drv (n : Nat) (d K St : Nat → Nat) : Nat → Nat := fun k => if n = 60 ∧ k = K 0 then St 0 else d k
def dro (n : Nat) : Nat := if n = 60 then 1 else 0
def aLog (w0 w : Nat → Int32) (nb0 nm0 nt0 nb nm nt : Nat) (s0 s c : Nat → Nat) (κ S i n : Nat) (d K St Id Wh : Nat → Nat) : Prop :=
  n ≤ 60 ∧ (∀ k, k < 3 → d k ≤ s k) ∧
  (∀ j, j < n → K j < 3 ∧ 1 ≤ St j ∧ d (K j) ≤ St j ∧ St j ≤ s (K j) ∧ Id j < evK nb nm nt (K j) ∧ 1 ≤ Wh j ∧ Wh j ≤ 3 ∧ (Wh j = 3 → ¬ isTh w nb nm nt (K j) (Id j))) ∧
  (∀ a b, a < b → b < n → K a = K b → St a ≤ St b ∧ (Id a = Id b → St a < St b ∧ Wh a ≠ 3 ∧ Wh b ≠ 1)) ∧
  (∀ a b l, a < b → b < l → l < n → K a = K l → St a = St l → K b = K a ∧ St b = St a) ∧
  (∀ k t, k < 3 → d k < t → t ≤ c k → ∃ j, j < n ∧ K j = k ∧ St j = t) ∧
  (∀ j, j < n → St j ≤ s0 (K j) → Id j < evK nb0 nm0 nt0 (K j) ∧ (Wh j = 3 → ¬ isTh w0 nb0 nm0 nt0 (K j) (Id j))) ∧
  (∀ j, j < n → K j = κ → St j = S → Id j < i ∧ ∀ l, j < l → l < n → K l = κ ∧ St l = S)
theorem aLog_push {w0 w : Nat → Int32} {nb0 nm0 nt0 nb nm nt κ S i n : Nat} {s0 s c d K St Id Wh : Nat → Nat} (h : aLog w0 w nb0 nm0 nt0 nb nm nt s0 s c κ S i n d K St Id Wh) (hκ : κ < 3) (hg : grow w0 w nb0 nm0 nt0 nb nm nt) (hS : S = s κ) (hS0 : S = s0 κ + 1) (hc : S ≤ c κ + 1) (hi : i < evK nb nm nt κ) (hx : whatK w0 w nb0 nm0 nt0 nb nm nt κ i ≠ 0) :
    aLog w0 w nb0 nm0 nt0 nb nm nt s0 s (fun k => if k = κ then S else c k) κ S (i + 1) (n - dro n + 1) (drv n d K St) (psh (n - dro n) (dro n) κ K) (psh (n - dro n) (dro n) S St) (psh (n - dro n) (dro n) i Id) (psh (n - dro n) (dro n) (whatK w0 w nb0 nm0 nt0 nb nm nt κ i) Wh) := by
  obtain ⟨h1, h2, h3, h4, h5, h6, h7, h8⟩ := h
  have ho : (dro n = 1 ∧ n = 60) ∨ (dro n = 0 ∧ n ≠ 60) := by unfold dro; split <;> omega
  have hd0 : ∀ k, drv n d K St k = if n = 60 ∧ k = K 0 then St 0 else d k := fun k => rfl
  have hdle : ∀ k, d k ≤ drv n d K St k := fun k => by
    rw [hd0]
    by_cases e : n = 60 ∧ k = K 0
    · rw [if_pos e]
      have := (h3 0 (by omega)).2.2.1
      rw [e.2]; exact this
    · rw [if_neg e]; exact Nat.le_refl _
  have hx3 := whatK_3 (w0 := w0) (w := w) (nb0 := nb0) (nm0 := nm0) (nt0 := nt0) (nb := nb) (nm := nm) (nt := nt) (κ := κ) (i := i)
  generalize hm : n - dro n = m at *
  generalize hoo : dro n = o at *
  generalize hxx : whatK w0 w nb0 nm0 nt0 nb nm nt κ i = x at *
  have hmo : m + o = n := by omega
  refine ⟨by omega, fun k hk => ?_, fun j hj => ?_, fun a b hab hb hK => ?_, fun a b l hab hbl hl hK hSt => ?_, fun k t hk hd ht => ?_, fun j hj hs => ?_, fun j hj hK hSt => ?_⟩
  · rw [hd0]
    by_cases e : n = 60 ∧ k = K 0
    · rw [if_pos e, e.2]; exact (h3 0 (by omega)).2.2.2.1
    · rw [if_neg e]; exact h2 k hk
  · by_cases e : j < m
    · rw [psh_lt e, psh_lt e, psh_lt e, psh_lt e]
      obtain ⟨p1, p2, p3, p4, p5⟩ := h3 (j + o) (by omega)
      refine ⟨p1, p2, ?_, p4, p5⟩
      rw [hd0]
      by_cases e2 : n = 60 ∧ K (j + o) = K 0
      · rw [if_pos e2]
        exact (h4 0 (j + o) (by omega) (by omega) e2.2.symm).1
      · rw [if_neg e2]; exact p3
    · have : j = m := by omega
      subst this
      rw [psh_m, psh_m, psh_m, psh_m]
      refine ⟨hκ, by omega, ?_, by omega, hi, by omega, hx3, fun z => whatK_33 (hxx.trans z)⟩
      rw [hd0]
      by_cases e2 : n = 60 ∧ κ = K 0
      · rw [if_pos e2, hS, e2.2]; exact (h3 0 (by omega)).2.2.2.1
      · rw [if_neg e2, hS]; exact h2 κ hκ
  · by_cases e : b < m
    · rw [psh_lt e, psh_lt e, psh_lt e, psh_lt (show a < m by omega), psh_lt (show a < m by omega), psh_lt (show a < m by omega)]
      rw [psh_lt e, psh_lt (show a < m by omega)] at hK
      exact h4 (a + o) (b + o) (by omega) (by omega) hK
    · have : b = m := by omega
      subst this
      rw [psh_m, psh_m, psh_m, psh_lt hab, psh_lt hab, psh_lt hab]
      rw [psh_m, psh_lt hab] at hK
      have p := h3 (a + o) (by omega)
      refine ⟨by rw [hS, ← hK]; exact p.2.2.2.1, fun hid => ?_⟩
      have hlt : St (a + o) < S := by
        have hle : St (a + o) ≤ S := by rw [hS, ← hK]; exact p.2.2.2.1
        rcases Nat.lt_or_ge (St (a + o)) S with z | z
        · exact z
        · have := (h8 (a + o) (by omega) hK (by omega)).1
          omega
      obtain ⟨g1, g2⟩ := h7 (a + o) (by omega) (by rw [hK]; omega)
      rw [hK, hid] at g1 g2
      obtain ⟨r1, r2⟩ := whatK_old hκ hg g1 (by rw [hxx]; exact hx)
      exact ⟨hlt, fun z => g2 z r1, by rw [← hxx]; exact r2⟩
  · by_cases e : l < m
    · rw [psh_lt e, psh_lt (show a < m by omega)] at hK
      rw [psh_lt e, psh_lt (show a < m by omega)] at hSt
      rw [psh_lt (show b < m by omega), psh_lt (show a < m by omega), psh_lt (show b < m by omega), psh_lt (show a < m by omega)]
      exact h5 (a + o) (b + o) (l + o) (by omega) (by omega) (by omega) hK hSt
    · have : l = m := by omega
      subst this
      rw [psh_m, psh_lt (show a < l by omega)] at hK
      rw [psh_m, psh_lt (show a < l by omega)] at hSt
      rw [psh_lt (show b < l by omega), psh_lt (show a < l by omega), psh_lt (show b < l by omega), psh_lt (show a < l by omega), hK, hSt]
      exact (h8 (a + o) (by omega) hK hSt).2 (b + o) (by omega) (by omega)
  · dsimp only at ht
    by_cases e : k = κ ∧ t = S
    · exact ⟨m, by omega, by rw [psh_m]; exact e.1.symm, by rw [psh_m]; exact e.2.symm⟩
    · have ht' : t ≤ c k := by
        by_cases ek : k = κ
        · rw [if_pos ek] at ht
          subst ek
          have : t ≠ S := fun z => e ⟨rfl, z⟩
          omega
        · rw [if_neg ek] at ht; exact ht
      obtain ⟨j, j1, j2, j3⟩ := h6 k t hk (Nat.lt_of_le_of_lt (hdle k) hd) ht'
      have hj : o ≤ j := by
        rcases Nat.lt_or_ge j o with z | z
        · exfalso
          have hj0 : j = 0 := by omega
          subst hj0
          rw [hd0, if_pos ⟨by omega, j2.symm⟩, j3] at hd
          omega
        · exact z
      refine ⟨j - o, by omega, ?_, ?_⟩
      · rw [psh_lt (by omega), show j - o + o = j by omega]; exact j2
      · rw [psh_lt (by omega), show j - o + o = j by omega]; exact j3
  · by_cases e : j < m
    · rw [psh_lt e, psh_lt e] at hs
      rw [psh_lt e, psh_lt e, psh_lt e]
      exact h7 (j + o) (by omega) hs
    · have : j = m := by omega
      subst this
      rw [psh_m, psh_m] at hs
      omega
  · by_cases e : j < m
    · rw [psh_lt e] at hK
      rw [psh_lt e] at hSt
      rw [psh_lt e]
      obtain ⟨r1, r2⟩ := h8 (j + o) (by omega) hK hSt
      refine ⟨by omega, fun l hl hl2 => ?_⟩
      by_cases el : l < m
      · rw [psh_lt el, psh_lt el]
        exact r2 (l + o) (by omega) (by omega)
      · have : l = m := by omega
        subst this
        rw [psh_m, psh_m]
        exact ⟨rfl, rfl⟩
    · have : j = m := by omega
      subst this
      rw [psh_m]
      exact ⟨by omega, fun l hl hl2 => by omega⟩
