/-! THE RELATION between the numbers of the class (Vc) and of the model (Vm) -/
def rDraft (Vc Vm : Mm) : Prop := ∀ j, j < 10 → Vc 1 j = Vm 4 j
def callRel (Vc Vm : Mm) (q : Nat) : Prop := ∃ t : Nat, t < 6 ∧ Vc (89 + 9 * q) 1 = nI t ∧ Vm 5 q = nI t ∧
  ((t = 0 ∨ t = 4 ∨ t = 5) → Vc (89 + 9 * q) 2 = Vm 6 (5 * q) ∧ Vc (89 + 9 * q) 3 = Vm 6 (5 * q + 1) ∧ Vc (89 + 9 * q) 4 = Vm 6 (5 * q + 2)) ∧
  (t = 4 → Vc (89 + 9 * q) 5 = Vm 6 (5 * q + 3) ∧ Vc (89 + 9 * q) 6 = Vm 6 (5 * q + 4)) ∧
  ((t = 1 ∨ t = 2 ∨ t = 3) → Vc (89 + 9 * q) 3 = -1 ∧ Vc (89 + 9 * q) 4 = 0) ∧
  (t = 1 → Vc (89 + 9 * q) 7 = Vm 6 (5 * q) ∧ Vc (89 + 9 * q) 8 = Vm 6 (5 * q + 1) ∧ Vc (89 + 9 * q) 9 = Vm 6 (5 * q + 2) ∧ Vc (89 + 9 * q) 10 = Vm 6 (5 * q + 3)) ∧
  (t = 2 → Vc (89 + 9 * q) 2 = Vm 6 (5 * q) ∧ Vc (89 + 9 * q) 11 = Vm 6 (5 * q + 1) ∧ Vc (89 + 9 * q) 10 = Vm 6 (5 * q + 2)) ∧
  (t = 3 → Vc (89 + 9 * q) 2 = Vm 6 (5 * q) ∧ Vc (89 + 9 * q) 6 = Vm 6 (5 * q + 1) ∧ ∀ j, j < 10 → Vc (89 + 9 * q + 1) j = Vm 7 (10 * q + j))
def rPut (Vc Vm : Mm) : Prop := ∃ n, n ≤ 12 ∧ Vc 0 10 = nI n ∧ Vm 0 4 = nI n ∧ ∀ q, q < n → callRel Vc Vm q
def rowRel (Vc Vm : Mm) (q r : Nat) : Prop := ∃ c, c ≤ 50 ∧ Vc (91 + 9 * q + 6) r = nI c ∧ Vm 9 (4 * q + r) = nI c ∧ (∀ i, i < c → Vc (91 + 9 * q + 2 + r) i = Vm 10 (50 * (4 * q + r) + i)) ∧
  (∀ i j, i < j → j < c → Vm 10 (50 * (4 * q + r) + i) ≠ Vm 10 (50 * (4 * q + r) + j)) ∧ (∀ i, i < c → ∃ x, x < 2147483648 ∧ Vm 10 (50 * (4 * q + r) + i) = nI x)
def outRel (Vc Vm : Mm) (q : Nat) : Prop := Vc (91 + 9 * q) 2 = Vm 8 q ∧ ∀ r, r < 4 → rowRel Vc Vm q r
def rOut (Vc Vm : Mm) : Prop := ∃ n, n ≤ 12 ∧ Vc 0 11 = nI n ∧ Vm 0 9 = nI n ∧ ∀ q, q < n → outRel Vc Vm q
def rCrash (Vc Vm : Mm) : Prop := (Vc 0 12 = 0 ∧ Vm 0 8 = -9) ∨ (Vc 0 12 = 1 ∧ ∃ n, n ≤ 12 ∧ Vm 0 8 = nI n)
def filRel (Vc Vm : Mm) (i : Nat) : Prop := Vc 85 i = Vm 19 i ∧ Vc 86 i = Vm 20 i ∧ Vc 87 i = Vm 21 i ∧ ∃ kd, kd ≤ 10 ∧ Vm 19 i = nI kd ∧ (8 ≤ kd → ∃ a, a < i ∧ Vm 20 i = nI a) ∧ ((kd = 8 ∨ kd = 9) → ∃ b, b < i ∧ Vm 21 i = nI b) ∧ (kd = 5 → ∃ a, a < 4 ∧ Vm 20 i = nI a)
def rFil (Vc Vm : Mm) : Prop := ∃ n, n ≤ 20 ∧ Vc 84 3 = nI n ∧ Vm 0 24 = nI n ∧ ∀ i, i < n → filRel Vc Vm i
def rLog (Vc Vm : Mm) : Prop := ∃ n f, n ≤ 60 ∧ f < 60 ∧ Vc 76 4 = nI n ∧ Vm 0 13 = nI n ∧ Vc 76 3 = nI f ∧
  (∀ i, i < n → Vc 78 ((f + i) % 60) = Vm 11 i ∧ Vc 79 ((f + i) % 60) = Vm 12 i ∧ Vc 80 ((f + i) % 60) = Vm 13 i ∧ Vc 81 ((f + i) % 60) = Vm 14 i) ∧ (∀ k, k < 3 → Vc 82 k = Vm 15 k)
/-- how many mails are in a thread -/
def thM (w : Nat → Int32) (t m : Nat) : Bool := decide (w (80 + 10 * m) = 1 ∧ w (80 + 10 * m + 8) = nI t)
def cntT (w : Nat → Int32) (nm t : Nat) : Nat := (List.range nm).countP (thM w t)
/-- the class's columns hold the model's row -/
def WRel (Vc : Mm) (w : Nat → Int32) (nb nm nt : Nat) : Prop :=
  (nb ≤ 20 ∧ nm ≤ 50 ∧ nt ≤ nm) ∧ (w 580 = nI nb ∧ w 581 = nI nm ∧ w 582 = nI nt) ∧ (Vc 4 4 = nI nb ∧ Vc 28 4 = nI nm ∧ Vc 52 4 = nI nt) ∧ (Vc 4 3 = 20 ∧ Vc 28 3 = 50 ∧ Vc 52 3 = 50) ∧ (Vc 4 6 = w 583 ∧ Vc 28 6 = w 584 ∧ Vc 52 6 = w 585) ∧
  (∀ b, b < nb → Vc 15 b = w (4 * b) ∧ Vc 6 b = w (4 * b + 1) ∧ Vc 7 b = w (4 * b + 2) ∧ Vc 8 b = w (4 * b + 3)) ∧ (∀ b, nb ≤ b → b < 50 → Vc 15 b = 0) ∧
  (∀ m, m < nm → Vc 39 m = w (80 + 10 * m) ∧ ∀ c, c < 9 → Vc (30 + c) m = w (80 + 10 * m + 1 + c)) ∧ (∀ m, nm ≤ m → m < 50 → Vc 39 m = 0) ∧
  (∀ t, t < nt → Vc 54 t = nI (cntT w nm t) ∧ Vc 63 t = b2i (0 < cntT w nm t)) ∧ (∀ t, nt ≤ t → t < 50 → Vc 63 t = 0 ∧ Vc 54 t = 0)
/-- what always holds of the model's row -/
def WF (w : Nat → Int32) (nb nm nt : Nat) : Prop :=
  (∀ b, b < nb → w (4 * b) = 0 ∨ w (4 * b) = 1) ∧
  (∀ b, b < nb → w (4 * b) = 1 → w (4 * b + 2) = -9 ∨ ∃ q, q < nb ∧ w (4 * b + 2) = nI q ∧ w (4 * q) = 1) ∧
  (∃ d : Nat → Nat, ∀ b, b < nb → w (4 * b) = 1 → 1 ≤ d b ∧ d b ≤ 4 ∧ (w (4 * b + 2) = -9 → d b = 1) ∧ ∀ q, q < nb → w (4 * b + 2) = nI q → d b = d q + 1) ∧
  (∀ b c, b < nb → c < nb → b ≠ c → w (4 * b) = 1 → w (4 * c) = 1 → w (4 * b + 2) = w (4 * c + 2) → w (4 * b + 1) ≠ w (4 * c + 1)) ∧
  (∀ m, m < nm → w (80 + 10 * m) = 0 ∨ w (80 + 10 * m) = 1) ∧
  (∀ m, m < nm → (∃ x, x ≤ 99 ∧ w (80 + 10 * m + 1) = nI x) ∧ (∃ x, x ≤ 9999 ∧ w (80 + 10 * m + 5) = nI x) ∧ (∃ x, x ≤ 9999 ∧ w (80 + 10 * m + 6) = nI x) ∧ (∃ x, x ≤ 15 ∧ w (80 + 10 * m + 7) = nI x) ∧ (∃ t, t < nt ∧ w (80 + 10 * m + 8) = nI t) ∧ (∃ x, x < 2 ^ 20 ∧ w (80 + 10 * m + 9) = nI x)) ∧
  (∀ m, m < nm → w (80 + 10 * m) = 1 → w (80 + 10 * m + 9) ≠ 0 ∧ ∀ x, w (80 + 10 * m + 9) = nI x → x < 2 ^ 20 → ∀ b, x.testBit b = true → b < nb ∧ w (4 * b) = 1)
def rWorld (Vc Vm : Mm) : Prop := ∃ nb nm nt, WRel Vc (Vm 1) nb nm nt ∧ WF (Vm 1) nb nm nt
def rClean (Vc : Mm) : Prop := (Vc 4 7 = 0 ∧ Vc 28 7 = 0 ∧ Vc 52 7 = 0) ∧ ∀ j, j < 50 → Vc 27 j = 0 ∧ Vc 51 j = 0 ∧ Vc 75 j = 0
/-- is one of a kind there -/
def thK (w : Nat → Int32) (κ id : Nat) : Prop := if κ = 0 then id < (w 580).toNatClampNeg ∧ w (4 * id) = 1 else if κ = 1 then id < (w 581).toNatClampNeg ∧ w (80 + 10 * id) = 1 else id < (w 582).toNatClampNeg ∧ 0 < cntT w (w 581).toNatClampNeg id
/-- the log, as the model has it: kinds, states, ids, what -/
def rLogInv (k : Nat) (Vm : Mm) : Prop := ∃ (n : Nat) (s d K St Id Wh : Nat → Nat), n ≤ 60 ∧ Vm 0 13 = nI n ∧
  (∀ κ, κ < 3 → Vm 1 (583 + κ) = nI (s κ) ∧ s κ ≤ 12 * k ∧ Vm 15 κ = nI (d κ) ∧ d κ ≤ s κ) ∧
  (∀ i, i < n → Vm 11 i = nI (K i) ∧ Vm 12 i = nI (St i) ∧ Vm 13 i = nI (Id i) ∧ Vm 14 i = nI (Wh i) ∧ K i < 3 ∧ 1 ≤ St i ∧ d (K i) ≤ St i ∧ St i ≤ s (K i) ∧ Id i < (Vm 1 (580 + K i)).toNatClampNeg ∧ 1 ≤ Wh i ∧ Wh i ≤ 3 ∧ (Wh i = 3 → ¬ thK (Vm 1) (K i) (Id i))) ∧
  (∀ i j, i < j → j < n → K i = K j → St i ≤ St j ∧ (Id i = Id j → St i < St j ∧ Wh i ≠ 3 ∧ Wh j ≠ 1)) ∧
  (∀ i j l, i < j → j < l → l < n → K i = K l → St i = St l → K j = K i ∧ St j = St i) ∧
  (∀ κ t, κ < 3 → d κ < t → t ≤ s κ → ∃ i, i < n ∧ K i = κ ∧ St i = t)
def RR (k : Nat) (Vc Vm : Mm) : Prop := rDraft Vc Vm ∧ rPut Vc Vm ∧ rOut Vc Vm ∧ rCrash Vc Vm ∧ rFil Vc Vm ∧ rLog Vc Vm ∧ rWorld Vc Vm ∧ rClean Vc ∧ rLogInv k Vm
/-! the relation where other cells have changed -/
theorem rDraft_fr {Vc Vm Vc' Vm' : Mm} (h : rDraft Vc Vm) (h1 : Vc' 1 = Vc 1) (h2 : Vm' 4 = Vm 4) : rDraft Vc' Vm' := by
  unfold rDraft; rw [h1, h2]; exact h
theorem callRel_fr {Vc Vm Vc' Vm' : Mm} {q : Nat} (h : callRel Vc Vm q) (h2 : Vc' (89 + 9 * q) = Vc (89 + 9 * q)) (h3 : Vc' (89 + 9 * q + 1) = Vc (89 + 9 * q + 1)) (h4 : Vm' 5 = Vm 5) (h5 : Vm' 6 = Vm 6) (h6 : Vm' 7 = Vm 7) : callRel Vc' Vm' q := by
  unfold callRel; rw [h2, h3, h4, h5, h6]; exact h
theorem rPut_fr {Vc Vm Vc' Vm' : Mm} (h : rPut Vc Vm) (h0 : Vc' 0 10 = Vc 0 10) (h1 : Vm' 0 4 = Vm 0 4) (h2 : ∀ q, q < 12 → Vc' (89 + 9 * q) = Vc (89 + 9 * q) ∧ Vc' (89 + 9 * q + 1) = Vc (89 + 9 * q + 1)) (h4 : Vm' 5 = Vm 5) (h5 : Vm' 6 = Vm 6) (h6 : Vm' 7 = Vm 7) : rPut Vc' Vm' := by
  obtain ⟨n, g1, g2, g3, g4⟩ := h
  exact ⟨n, g1, h0.trans g2, h1.trans g3, fun q hq => callRel_fr (g4 q hq) (h2 q (by omega)).1 (h2 q (by omega)).2 h4 h5 h6⟩
theorem outRel_fr {Vc Vm Vc' Vm' : Mm} {q : Nat} (h : outRel Vc Vm q) (h0 : Vc' (91 + 9 * q) 2 = Vc (91 + 9 * q) 2) (h1 : Vc' (91 + 9 * q + 6) = Vc (91 + 9 * q + 6)) (h2 : ∀ r, r < 4 → Vc' (91 + 9 * q + 2 + r) = Vc (91 + 9 * q + 2 + r)) (h3 : Vm' 8 q = Vm 8 q) (h4 : ∀ r, r < 4 → Vm' 9 (4 * q + r) = Vm 9 (4 * q + r)) (h5 : ∀ r, r < 4 → ∀ i, i < 50 → Vm' 10 (50 * (4 * q + r) + i) = Vm 10 (50 * (4 * q + r) + i)) : outRel Vc' Vm' q := by
  refine ⟨by rw [h0, h3]; exact h.1, fun r hr => ?_⟩
  obtain ⟨c, g1, g2, g3, g4, g5, g6⟩ := h.2 r hr
  refine ⟨c, g1, by rw [h1]; exact g2, by rw [h4 r hr]; exact g3, fun i hi => ?_, fun i j hij hj => ?_, fun i hi => ?_⟩
  · rw [h2 r hr, h5 r hr i (by omega)]; exact g4 i hi
  · rw [h5 r hr i (by omega), h5 r hr j (by omega)]; exact g5 i j hij hj
  · rw [h5 r hr i (by omega)]; exact g6 i hi
theorem rOut_fr {Vc Vm Vc' Vm' : Mm} (h : rOut Vc Vm) (h0 : Vc' 0 11 = Vc 0 11) (h1 : Vm' 0 9 = Vm 0 9) (h2 : ∀ q, q < 12 → Vc' (91 + 9 * q) 2 = Vc (91 + 9 * q) 2 ∧ Vc' (91 + 9 * q + 6) = Vc (91 + 9 * q + 6) ∧ ∀ r, r < 4 → Vc' (91 + 9 * q + 2 + r) = Vc (91 + 9 * q + 2 + r)) (h3 : Vm' 8 = Vm 8) (h4 : Vm' 9 = Vm 9) (h5 : Vm' 10 = Vm 10) : rOut Vc' Vm' := by
  obtain ⟨n, g1, g2, g3, g4⟩ := h
  exact ⟨n, g1, h0.trans g2, h1.trans g3, fun q hq => outRel_fr (g4 q hq) (h2 q (by omega)).1 (h2 q (by omega)).2.1 (h2 q (by omega)).2.2 (by rw [h3]) (by intros; rw [h4]) (by intros; rw [h5])⟩
theorem rCrash_fr {Vc Vm Vc' Vm' : Mm} (h : rCrash Vc Vm) (h0 : Vc' 0 12 = Vc 0 12) (h1 : Vm' 0 8 = Vm 0 8) : rCrash Vc' Vm' := by
  unfold rCrash; rw [h0, h1]; exact h
theorem rFil_fr {Vc Vm Vc' Vm' : Mm} (h : rFil Vc Vm) (h0 : Vc' 84 3 = Vc 84 3) (h1 : Vm' 0 24 = Vm 0 24) (h2 : Vc' 85 = Vc 85) (h3 : Vc' 86 = Vc 86) (h4 : Vc' 87 = Vc 87) (h5 : Vm' 19 = Vm 19) (h6 : Vm' 20 = Vm 20) (h7 : Vm' 21 = Vm 21) : rFil Vc' Vm' := by
  unfold rFil filRel; rw [h0, h1, h2, h3, h4, h5, h6, h7]; exact h
theorem rLog_fr {Vc Vm Vc' Vm' : Mm} (h : rLog Vc Vm) (h0 : Vc' 76 = Vc 76) (h1 : Vm' 0 13 = Vm 0 13) (h2 : Vc' 78 = Vc 78) (h3 : Vc' 79 = Vc 79) (h4 : Vc' 80 = Vc 80) (h5 : Vc' 81 = Vc 81) (h6 : Vc' 82 = Vc 82) (g1 : Vm' 11 = Vm 11) (g2 : Vm' 12 = Vm 12) (g3 : Vm' 13 = Vm 13) (g4 : Vm' 14 = Vm 14) (g5 : Vm' 15 = Vm 15) : rLog Vc' Vm' := by
  unfold rLog; rw [h0, h1, h2, h3, h4, h5, h6, g1, g2, g3, g4, g5]; exact h
theorem WRel_fr {Vc Vc' : Mm} {w : Nat → Int32} {nb nm nt : Nat} (h : WRel Vc w nb nm nt) (h4 : Vc' 4 3 = Vc 4 3 ∧ Vc' 4 4 = Vc 4 4 ∧ Vc' 4 6 = Vc 4 6) (h28 : Vc' 28 3 = Vc 28 3 ∧ Vc' 28 4 = Vc 28 4 ∧ Vc' 28 6 = Vc 28 6) (h52 : Vc' 52 3 = Vc 52 3 ∧ Vc' 52 4 = Vc 52 4 ∧ Vc' 52 6 = Vc 52 6)
    (hb : Vc' 15 = Vc 15 ∧ Vc' 6 = Vc 6 ∧ Vc' 7 = Vc 7 ∧ Vc' 8 = Vc 8) (hm : ∀ c, c < 10 → Vc' (30 + c) = Vc (30 + c)) (ht : Vc' 54 = Vc 54 ∧ Vc' 63 = Vc 63) : WRel Vc' w nb nm nt := by
  obtain ⟨a1, a2, a3, a4, a5, a6, a7, a8, a9, a10, a11⟩ := h
  have e39 : Vc' 39 = Vc 39 := hm 9 (by omega)
  refine ⟨a1, a2, by rw [h4.2.1, h28.2.1, h52.2.1]; exact a3, by rw [h4.1, h28.1, h52.1]; exact a4, by rw [h4.2.2, h28.2.2, h52.2.2]; exact a5, by rw [hb.1, hb.2.1, hb.2.2.1, hb.2.2.2]; exact a6, by rw [hb.1]; exact a7, fun m hm2 => ⟨by rw [e39]; exact (a8 m hm2).1, fun c hc => ?_⟩, by rw [e39]; exact a9, by rw [ht.1, ht.2]; exact a10, by rw [ht.1, ht.2]; exact a11⟩
  rw [hm c (by omega)]; exact (a8 m hm2).2 c hc
theorem rWorld_fr {Vc Vm Vc' Vm' : Mm} (h : rWorld Vc Vm) (h4 : Vc' 4 3 = Vc 4 3 ∧ Vc' 4 4 = Vc 4 4 ∧ Vc' 4 6 = Vc 4 6) (h28 : Vc' 28 3 = Vc 28 3 ∧ Vc' 28 4 = Vc 28 4 ∧ Vc' 28 6 = Vc 28 6) (h52 : Vc' 52 3 = Vc 52 3 ∧ Vc' 52 4 = Vc 52 4 ∧ Vc' 52 6 = Vc 52 6)
    (hb : Vc' 15 = Vc 15 ∧ Vc' 6 = Vc 6 ∧ Vc' 7 = Vc 7 ∧ Vc' 8 = Vc 8) (hm : ∀ c, c < 10 → Vc' (30 + c) = Vc (30 + c)) (ht : Vc' 54 = Vc 54 ∧ Vc' 63 = Vc 63) (h1 : Vm' 1 = Vm 1) : rWorld Vc' Vm' := by
  obtain ⟨nb, nm, nt, h2, h3⟩ := h
  exact ⟨nb, nm, nt, by rw [h1]; exact WRel_fr h2 h4 h28 h52 hb hm ht, by rw [h1]; exact h3⟩
theorem rClean_fr {Vc Vc' : Mm} (h : rClean Vc) (h4 : Vc' 4 7 = Vc 4 7 ∧ Vc' 28 7 = Vc 28 7 ∧ Vc' 52 7 = Vc 52 7) (h27 : Vc' 27 = Vc 27) (h51 : Vc' 51 = Vc 51) (h75 : Vc' 75 = Vc 75) : rClean Vc' := by
  unfold rClean; rw [h4.1, h4.2.1, h4.2.2, h27, h51, h75]; exact h
theorem rLogInv_fr {k k' : Nat} {Vm Vm' : Mm} (h : rLogInv k Vm) (hk : k ≤ k') (h0 : Vm' 0 13 = Vm 0 13) (h1 : Vm' 1 = Vm 1) (g1 : Vm' 11 = Vm 11) (g2 : Vm' 12 = Vm 12) (g3 : Vm' 13 = Vm 13) (g4 : Vm' 14 = Vm 14) (g5 : Vm' 15 = Vm 15) : rLogInv k' Vm' := by
  unfold rLogInv
  rw [h0, h1, g1, g2, g3, g4, g5]
  obtain ⟨n, s, d, K, St, Id, Wh, a1, a2, a3, a4⟩ := h
  exact ⟨n, s, d, K, St, Id, Wh, a1, a2, fun κ hκ => ⟨(a3 κ hκ).1, by have := (a3 κ hκ).2.1; omega, (a3 κ hκ).2.2⟩, a4⟩
