
/-! a mail more: what became of each -/
def tauM (nm t x κ i : Nat) : Nat := if κ = 1 then (if i = nm then 1 else 0) else if κ = 2 then (if i = t then x else 0) else 0
theorem whatK_b {w w' : Nat → Int32} {nb nm nt nm' nt' i : Nat} (hb : ∀ k, k < 80 → w' k = w k) (h20 : nb ≤ 20) : whatK w w' nb nm nt nb nm' nt' 0 i = 0 := by
  refine whatK_same ?_ (fun z k hk => ?_)
  · show decide (i < nb ∧ w (4 * i) = 1) = decide (i < nb ∧ w' (4 * i) = 1)
    by_cases e : i < nb
    · rw [hb _ (by omega)]
    · simp [e]
  · have hk' : k < 4 := hk
    have hib := (isTh_0.mp z).1
    exact decide_eq_false (fun z => z.2 (hb _ (by omega)))
theorem newMail_what {w w' : Nat → Int32} {nb nm nt nt' t : Nat} (hwn : WN w nb nm nt) (h50 : nm < 50) (htt : (nt' = nt ∧ t < nt ∧ 0 < cntT w nm t) ∨ (nt' = nt + 1 ∧ t = nt))
    (hw : ∀ k, k < 586 → k ≠ 581 → k ≠ 582 → (k < 80 + 10 * nm ∨ 90 + 10 * nm ≤ k) → w' k = w k) (v0 : w' (80 + 10 * nm) = 1) (v8 : w' (80 + 10 * nm + 8) = nI t)
    (hcnt : ∀ x, x < 50 → cntT w' (nm + 1) x = cntT w nm x + if x = t then 1 else 0) :
    (∀ κ i, κ < 3 → i < 50 → whatK w w' nb nm nt nb (nm + 1) nt' κ i = tauM nm t (if nt' = nt then 2 else 1) κ i) ∧ grow w w' nb nm nt nb (nm + 1) nt' := by
  have h20 := hwn.b20
  have h3 := hwn.tm
  have hnt : nt' ≤ nm + 1 ∧ t < nt' ∧ nt ≤ nt' := by rcases htt with ⟨a, b, -⟩ | ⟨a, b⟩ <;> omega
  have o0 : ∀ m, m < nm → w' (80 + 10 * m) = w (80 + 10 * m) := fun m hm => hw _ (by omega) (by omega) (by omega) (by omega)
  have oc : ∀ m c, m < nm → c < 10 → w' (80 + 10 * m + c) = w (80 + 10 * m + c) := fun m c hm hc => hw _ (by omega) (by omega) (by omega) (by omega)
  have hb : ∀ k, k < 80 → w' k = w k := fun k hk => hw k (by omega) (by omega) (by omega) (by omega)
  have hthM : ∀ x m, m < nm → thM w' x m = thM w x m := fun x m hm => by
    unfold thM; rw [o0 m hm, oc m 8 hm (by omega)]
  constructor
  · intro κ i hκ hi
    have hc : κ = 0 ∨ κ = 1 ∨ κ = 2 := by omega
    rcases hc with rfl | rfl | rfl
    · exact whatK_b hb h20
    · by_cases e : i = nm
      · subst e
        refine (whatK_new (fun z => ?_) (isTh_1.mpr ⟨by omega, v0⟩)).trans ?_
        · have := (isTh_1.mp z).1; omega
        · unfold tauM; simp
      · refine (whatK_same ?_ (fun z k hk => ?_)).trans ?_
        · show decide (i < nm ∧ w (80 + 10 * i) = 1) = decide (i < nm + 1 ∧ w' (80 + 10 * i) = 1)
          by_cases e2 : i < nm
          · rw [o0 i e2]; simp [e2, show i < nm + 1 by omega]
          · simp [e2, show ¬ i < nm + 1 by omega]
        · have hk' : k < 10 := hk
          have hib := (isTh_1.mp z).1
          exact decide_eq_false (fun z => z.2 (oc i k (by omega) hk'))
        · unfold tauM; simp [e]
    · by_cases e : i = t
      · subst e
        have his : isTh w' nb (nm + 1) nt' 2 i := isTh_2.mpr ⟨hnt.2.1, by rw [hcnt i hi, if_pos rfl]; omega⟩
        rcases htt with ⟨a, b, c⟩ | ⟨a, b⟩
        · refine (whatK_oth (k := nm) (isTh_2.mpr ⟨b, c⟩) his (show nm < nm + 1 by omega) ?_).trans ?_
          · show (thIn w' (nm + 1) i nm != thIn w nm i nm) = true
            unfold thIn thM
            rw [v0, v8]
            simp
          · unfold tauM; simp [a]
        · refine (whatK_new (fun z => ?_) his).trans ?_
          · have := (isTh_2.mp z).1; omega
          · unfold tauM; simp [a]
      · refine (whatK_same ?_ (fun z k hk => ?_)).trans ?_
        · show decide (i < nt ∧ 0 < cntT w nm i) = decide (i < nt' ∧ 0 < cntT w' (nm + 1) i)
          rw [hcnt i hi, if_neg e, Nat.add_zero]
          have : (i < nt) ↔ (i < nt') := by rcases htt with ⟨a, b, -⟩ | ⟨a, b⟩ <;> omega
          simp [this]
        · have hk' : k < nm + 1 := hk
          show (thIn w' (nm + 1) i k != thIn w nm i k) = false
          unfold thIn
          by_cases e2 : k = nm
          · subst e2
            have h8 : ¬ nI t = nI i := fun z => e ((nI_eq (by omega) (by omega)).mp z).symm
            unfold thM
            rw [v8]
            simp [h8]
          · rw [hthM i k (by omega)]
            simp [show k < nm by omega, show k < nm + 1 by omega]
        · unfold tauM; simp [e]
  · refine ⟨Nat.le_refl _, by omega, hnt.2.2, fun κ i hκ hi hth => ?_, fun κ hκ => hw _ (by omega) (by omega) (by omega) (by omega)⟩
    have hc : κ = 0 ∨ κ = 1 ∨ κ = 2 := by omega
    rcases hc with rfl | rfl | rfl
    · have hi' : i < nb := hi
      obtain ⟨t1, t2⟩ := isTh_0.mp hth
      rw [hb _ (by omega)] at t2
      exact isTh_0.mpr ⟨hi', t2⟩
    · have hi' : i < nm := hi
      obtain ⟨t1, t2⟩ := isTh_1.mp hth
      rw [o0 i hi'] at t2
      exact isTh_1.mpr ⟨hi', t2⟩
    · have hi' : i < nt := hi
      obtain ⟨t1, t2⟩ := isTh_2.mp hth
      rw [hcnt i (by omega)] at t2
      refine isTh_2.mpr ⟨hi', ?_⟩
      by_cases e : i = t
      · subst e
        rcases htt with ⟨a, b, c⟩ | ⟨a, b⟩
        · exact c
        · omega
      · rw [if_neg e] at t2; exact t2
theorem TT_mail {V V' : Mm} {nm t x : Nat} (hcl : rClean V) (h50 : nm < 50) (ht : t < 50) (hx : x ≠ 0) (h4 : V' 4 = V 4) (h27 : V' 27 = V 27) (h28 : V' 28 7 = 1) (h52 : V' 52 7 = 1) (u51 : V' 51 nm = 1) (o51 : ∀ i, i ≠ nm → V' 51 i = V 51 i) (u75 : V' 75 t = nI x) (o75 : ∀ i, i ≠ t → V' 75 i = V 75 i) : TT V' (tauM nm t x) := by
  intro κ hκ
  have hc := TT_clean hcl 0 (by omega)
  have hcs : κ = 0 ∨ κ = 1 ∨ κ = 2 := by omega
  rcases hcs with rfl | rfl | rfl
  · rw [show V' (oK 0) = V (oK 0) from h4, show V' (oK 0 + 23) = V (oK 0 + 23) from h27]
    exact hc
  · refine ⟨fun i hi => ?_, Or.inl ⟨h28, nm, h50, by unfold tauM; simp⟩⟩
    show V' 51 i = _
    by_cases e : i = nm
    · subst e; rw [u51]; unfold tauM; simp; rfl
    · rw [o51 i e, (hcl.2 i hi).2.1]; unfold tauM; simp [e]; rfl
  · refine ⟨fun i hi => ?_, Or.inl ⟨h52, t, ht, by unfold tauM; simp [hx]⟩⟩
    show V' 75 i = _
    by_cases e : i = t
    · subst e; rw [u75]; unfold tauM; simp
    · rw [o75 i e, (hcl.2 i hi).2.2]; unfold tauM; simp [e]; rfl
