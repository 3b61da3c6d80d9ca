
/-! DESTROY: one mail -/
theorem dsM {Vk V W : Mm} {w0 : Nat → Int32} {nb nm nt x : Nat} (hI : dI Vk w0 nb nm nt V W) (hx : x < 2147483648) : dsR Vk w0 (eX5_destroyMail (nI x) V) (eX6_destroyOne 1 (nI x) W) V W nb nm nt := by
  obtain ⟨hW, hF, hK, hT, hG, h8, hS⟩ := hI
  have hwn := WRel_WN hW
  have b20 := hwn.b20
  have b50 := hwn.m50
  have b3 := hwn.tm
  unfold eX5_destroyMail eX6_destroyOne
  rw [show eX2_isThere 28 (nI x) V = _ from isThere_K (κ := 1) hW (by omega) hx, show eX6_isThere 1 1 (nI x) W = _ from mThere_n (κ := 1) hwn (by omega) hx]
  by_cases hth : isTh (W 1) nb nm nt 1 x
  · obtain ⟨hx1, hx2⟩ := isTh_1.mp hth
    rw [b2i_T hth, Option.bind_some, Option.bind_some, if_neg (show ¬ (1 : Int32) = 0 by decide), if_neg (show ¬ (1 : Int32) = 0 by decide), if_pos rfl]
    have hmod : (if 80 + 10 * nI x < 0 ∨ 586 ≤ (80 + 10 * nI x).toNatClampNeg then none else some ((0 : Int32), wr W 1 ((80 + 10 * nI x).toNatClampNeg) 0)) = some (0, wr W 1 (80 + 10 * x) 0) := by
      simp (disch := omega) only [q0a, q0b, q0c, q0d, q0e, q0f, p0_l, p0_r, p0_s, q1a, q1b, q1c, q1d, q1e, q1f, p1_l, p1_r, p1_s, q2a, q2b, q2c, q2d, q2e, q2f, p2_l, p2_r, p2_s, q3a, q3b, q3c, q3d, q3e, q3f, p3_l, p3_r, p3_s, q4a, q4b, q4c, q4d, q4e, q4f, p4_l, p4_r, p4_s, p4_m, q5a, q5b, q5c, q5d, q5e, q5f, p5_l, p5_r, p5_s, p5_m, q6a, q6b, q6c, q6d, q6e, q6f, p6_l, p6_r, p6_s, q7a, q7b, q7c, q7d, q7e, q7f, p7_l, p7_r, p7_s, q8a, q8b, q8c, q8d, q8e, q8f, p8_l, p8_r, p8_s, q9a, q9b, q9c, q9d, q9e, q9f, p9_l, p9_r, p9_s, q10a, q10b, q10c, q10d, q10e, q10f, p10_l, p10_r, p10_s, p10_m, q11a, q11b, q11c, q11d, q11e, q11f, p11_l, p11_r, p11_s, q12a, q12b, q12c, q12d, q12e, q12f, p12_l, p12_r, p12_s, q15a, q15b, q15c, q15d, q15e, q15f, p15_l, p15_r, p15_s, q19a, q19b, q19c, q19d, q19e, q19f, p19_l, p19_r, p19_s, q20a, q20b, q20c, q20d, q20e, q20f, p20_l, p20_r, p20_s, q31a, q31b, q31c, q31d, q31e, q31f, p31_l, p31_r, p31_s, q40a, q40b, q40c, q40d, q40e, q40f, p40_l, p40_r, p40_s, q48a, q48b, q48c, q48d, q48e, q48f, p48_l, p48_r, p48_s, q50a, q50b, q50c, q50d, q50e, q50f, p50_l, p50_r, p50_s, p50_m, q52a, q52b, q52c, q52d, q52e, q52f, p52_l, p52_r, p52_s, q60a, q60b, q60c, q60d, q60e, q60f, p60_l, p60_r, p60_s, q63a, q63b, q63c, q63d, q63e, q63f, p63_l, p63_r, p63_s, q80a, q80b, q80c, q80d, q80e, q80f, p80_l, p80_r, p80_s, q99a, q99b, q99c, q99d, q99e, q99f, p99_l, p99_r, p99_s, q100a, q100b, q100c, q100d, q100e, q100f, p100_l, p100_r, p100_s, q120a, q120b, q120c, q120d, q120e, q120f, p120_l, p120_r, p120_s, q240a, q240b, q240c, q240d, q240e, q240f, p240_l, p240_r, p240_s, q243a, q243b, q243c, q243d, q243e, q243f, p243_l, p243_r, p243_s, q244a, q244b, q244c, q244d, q244e, q244f, p244_l, p244_r, p244_s, q580a, q580b, q580c, q580d, q580e, q580f, p580_l, p580_r, p580_s, q581a, q581b, q581c, q581d, q581e, q581f, p581_l, p581_r, p581_s, q582a, q582b, q582c, q582d, q582e, q582f, p582_l, p582_r, p582_s, q583a, q583b, q583c, q583d, q583e, q583f, p583_l, p583_r, p583_s, q584a, q584b, q584c, q584d, q584e, q584f, p584_l, p584_r, p584_s, q585a, q585b, q585c, q585d, q585e, q585f, p585_l, p585_r, p585_s, q586a, q586b, q586c, q586d, q586e, q586f, p586_l, p586_r, p586_s, q999a, q999b, q999c, q999d, q999e, q999f, p999_l, p999_r, p999_s, q1000a, q1000b, q1000c, q1000d, q1000e, q1000f, p1000_l, p1000_r, p1000_s, q2400a, q2400b, q2400c, q2400d, q2400e, q2400f, p2400_l, p2400_r, p2400_s, q9999a, q9999b, q9999c, q9999d, q9999e, q9999f, p9999_l, p9999_r, p9999_s, I00, I01, I10, I11, n_le, n_lt, n_eq, n_cl, n_add, n_ne9, n_ne1, if_true, if_false, Option.bind_some, if_pos, if_neg]
    rw [hmod]
    obtain ⟨t, ht, e8⟩ := (hF.2.2.2.2.2.1 x hx1).2.2.2.2.1
    have o0 : ∀ m, m ≠ x → wr W 1 (80 + 10 * x) 0 1 (80 + 10 * m) = W 1 (80 + 10 * m) := fun b hb => by rw [wr_in (by omega)]
    have ox : wr W 1 (80 + 10 * x) 0 1 (80 + 10 * x) = 0 := wr_at
    have oc : ∀ b c, 1 ≤ c → c < 10 → wr W 1 (80 + 10 * x) 0 1 (80 + 10 * b + c) = W 1 (80 + 10 * b + c) := fun b c h1 h2 => by rw [wr_in (by omega)]
    have okd : ∀ k, k < 80 → wr W 1 (80 + 10 * x) 0 1 k = W 1 k := fun k hk => by rw [wr_in (by omega)]
    have hthM : ∀ i m, m ≠ x → thM (wr W 1 (80 + 10 * x) 0 1) i m = thM (W 1) i m := fun i m hm => by
      unfold thM; rw [o0 m hm, oc m 8 (by omega) (by omega)]
    have hthx : ∀ i, thM (wr W 1 (80 + 10 * x) 0 1) i x = false := fun i => by
      unfold thM; rw [ox]; simp
    have hcnt : ∀ i, i < 50 → cntT (W 1) nm i = cntT (wr W 1 (80 + 10 * x) 0 1) nm i + if i = t then 1 else 0 := fun i hi => by
      by_cases e : i = t
      · subst e
        rw [if_pos rfl]
        exact cnt_rm (decide_eq_true ⟨hx2, e8⟩) (hthx i) (fun m hm => (hthM i m hm).symm) nm hx1
      · rw [if_neg e]
        refine cnt_congr (fun m hm => ?_)
        by_cases em : m = x
        · subst em
          rw [hthx i]
          unfold thM
          rw [e8]
          have : ¬ nI t = nI i := fun z => e ((nI_eq (by omega) (by omega)).mp z).symm
          simp [this]
        · exact (hthM i m em).symm
    have hct := hcnt t (by omega)
    rw [if_pos rfl] at hct
    have hcle : cntT (W 1) nm t ≤ 50 := Nat.le_trans (cnt_le _ _) b50
    have v37 : V 37 x = nI t := ((hW.2.2.2.2.2.2.2.1 x hx1).2 7 (by omega)).trans e8
    have v54 : V 54 t = nI (cntT (W 1) nm t) := (hW.2.2.2.2.2.2.2.2.2.1 t ht).1
    rw [remove_n (by omega), Option.bind_some]
    have hth0 : ∀ κ i, κ < 3 → i < 50 → (κ ≠ 1 ∨ i ≠ x) → (κ ≠ 2 ∨ i ≠ t) → isThb (wr W 1 (80 + 10 * x) 0 1) nb nm nt κ i = isThb (W 1) nb nm nt κ i := fun κ i hκ hi hne hne2 => by
      have hc : κ = 0 ∨ κ = 1 ∨ κ = 2 := by omega
      rcases hc with rfl | rfl | rfl
      · show decide (i < nb ∧ wr W 1 (80 + 10 * x) 0 1 (4 * i) = 1) = decide (i < nb ∧ W 1 (4 * i) = 1)
        by_cases e : i < nb
        · rw [okd _ (by omega)]
        · simp [e]
      · have hi2 : i ≠ x := by omega
        show decide (i < nm ∧ wr W 1 (80 + 10 * x) 0 1 (80 + 10 * i) = 1) = decide (i < nm ∧ W 1 (80 + 10 * i) = 1)
        rw [o0 i hi2]
      · have hi2 : i ≠ t := by omega
        show decide (i < nt ∧ 0 < cntT (wr W 1 (80 + 10 * x) 0 1) nm i) = decide (i < nt ∧ 0 < cntT (W 1) nm i)
        rw [hcnt i hi, if_neg hi2, Nat.add_zero]
    have hgone : ¬ isTh (wr W 1 (80 + 10 * x) 0 1) nb nm nt 1 x := fun z => by
      have := (isTh_1.mp z).2
      rw [ox] at this
      exact absurd this (by decide)
    have hwas : isTh w0 nb nm nt 1 x := hG 1 x (by omega) hth
    have hthr : isTh (W 1) nb nm nt 2 t := isTh_2.mpr ⟨ht, by omega⟩
    have hthr0 : isTh w0 nb nm nt 2 t := hG 2 t (by omega) hthr
    have hws : ∀ κ i, κ < 3 → i < 50 → (κ ≠ 1 ∨ i ≠ x) → (κ ≠ 2 ∨ i ≠ t) → whatK w0 (wr W 1 (80 + 10 * x) 0 1) nb nm nt nb nm nt κ i = whatK w0 (W 1) nb nm nt nb nm nt κ i := fun κ i hκ hi hne hne2 => by
      refine whatK_cg (hth0 κ i hκ hi hne hne2) (fun hth2 => ?_)
      have hc : κ = 0 ∨ κ = 1 ∨ κ = 2 := by omega
      rcases hc with rfl | rfl | rfl
      · have hib := (isTh_0.mp hth2).1
        exact othB_cg (by omega) (fun k hk => by
          have hk' : k < 4 := hk
          rw [show recI 0 i k = 4 * i + k from rfl, okd _ (by omega)])
      · have hi2 : i ≠ x := by omega
        exact othB_cg (by omega) (fun k hk => by
          have hk' : k < 10 := hk
          rw [show recI 1 i k = 80 + 10 * i + k from rfl, wr_in (by omega)])
      · have hi2 : i ≠ t := by omega
        have key : ∀ m, m < othN nm 2 → othp w0 (wr W 1 (80 + 10 * x) 0 1) nm nm 2 i m = othp w0 (W 1) nm nm 2 i m := fun m hm => by
          have hm' : m < nm := hm
          show (thIn (wr W 1 (80 + 10 * x) 0 1) nm i m != thIn w0 nm i m) = (thIn (W 1) nm i m != thIn w0 nm i m)
          unfold thIn
          by_cases em : m = x
          · subst em
            have h1 : thM (W 1) i m = false := by
              unfold thM
              rw [e8]
              have : ¬ nI t = nI i := fun z => hi2 ((nI_eq (by omega) (by omega)).mp z).symm
              simp [this]
            rw [hthx i, h1]
          · rw [hthM i m em]
        rw [Bool.eq_iff_iff]
        unfold othB
        rw [anyB_iff, anyB_iff]
        constructor
        · rintro ⟨k, hk, z⟩
          exact ⟨k, hk, by rw [← key k hk]; exact z⟩
        · rintro ⟨k, hk, z⟩
          exact ⟨k, hk, by rw [key k hk]; exact z⟩
    have hF' : WF (wr W 1 (80 + 10 * x) 0 1) nb nm nt := by
      refine WF_mail hF b20 okd (fun m hm => ?_) (fun m hm => ?_) (fun m hm e => ?_)
      · by_cases em : m = x
        · subst em; exact Or.inl ox
        · rw [o0 m em]; exact hF.2.2.2.2.1 m hm
      · rw [oc m 1 (by omega) (by omega), oc m 5 (by omega) (by omega), oc m 6 (by omega) (by omega), oc m 7 (by omega) (by omega), oc m 8 (by omega) (by omega), oc m 9 (by omega) (by omega)]
        exact hF.2.2.2.2.2.1 m hm
      · by_cases em : m = x
        · subst em; rw [ox] at e; exact absurd e (by decide)
        · rw [o0 m em] at e
          rw [oc m 9 (by omega) (by omega)]
          exact hF.2.2.2.2.2.2 m hm e
    -- the class's thread
    have hl : ∃ V' : Mm, eX5_leaveThread (nI x) (wr (wr (wr V (28 + 11) x 0) (28 + 23) x 3) 28 7 1) = some V' ∧ (∀ k, (k < 28 ∨ 75 < k) → V' k = V k) ∧ (∀ j, j ≠ 7 → V' 28 j = V 28 j ∧ V' 52 j = V 52 j) ∧ V' 28 7 = 1 ∧ V' 52 7 = 1 ∧ (∀ c, c < 9 → V' (30 + c) = V (30 + c)) ∧ V' 39 x = 0 ∧ (∀ i, i ≠ x → V' 39 i = V 39 i) ∧ V' 51 x = 3 ∧ (∀ i, i ≠ x → V' 51 i = V 51 i) ∧
        V' 54 t = nI (cntT (wr W 1 (80 + 10 * x) 0 1) nm t) ∧ (∀ i, i ≠ t → V' 54 i = V 54 i ∧ V' 63 i = V 63 i ∧ V' 75 i = V 75 i) ∧ V' 63 t = b2i (0 < cntT (wr W 1 (80 + 10 * x) 0 1) nm t) ∧ V' 75 t = nI (if cntT (wr W 1 (80 + 10 * x) 0 1) nm t = 0 then 3 else 2) ∧ (∀ κ c, κ < 3 → c < 10 → V' (oK κ + 13 + c) = V (oK κ + 13 + c)) := by
      have s1 : nI (cntT (W 1) nm t) - 1 = nI (cntT (wr W 1 (80 + 10 * x) 0 1) nm t) := by
        have : nI (cntT (W 1) nm t) - nI 1 = nI (cntT (W 1) nm t - 1) := n_sub (by omega)
        rw [show (1 : Int32) = nI 1 from rfl, this]
        congr 1
        omega
      unfold eX5_leaveThread
      simp only [value_7 (show x < 50 by omega), Option.bind_some, Nat.reduceAdd]
      simp (disch := omega) only [wr_ne, v37]
      simp only [value_0 (show t < 50 by omega), set_0 (show t < 50 by omega), Option.bind_some, Nat.reduceAdd]
      simp (disch := omega) only [wr_ne, v54, s1]
      by_cases e0 : cntT (wr W 1 (80 + 10 * x) 0 1) nm t = 0
      · rw [if_pos (by rw [e0]; rfl), remove_n (by omega), Option.bind_some]
        refine ⟨_, rfl, fun k hk => ?_, fun j hj => ⟨?_, ?_⟩, ?_, ?_, fun c hc => ?_, ?_, fun i hi => ?_, ?_, fun i hi => ?_, ?_, fun i hi => ⟨?_, ?_, ?_⟩, ?_, ?_, fun κ c hκ hc => ?_⟩
        · simp (disch := omega) only [wr_ne]
        · simp (disch := omega) only [wr_ne, wr_in]
        · simp (disch := omega) only [wr_ne, wr_in]
        · simp (disch := omega) only [wr_ne, wr_at]
        · simp (disch := omega) only [wr_at]
        · simp (disch := omega) only [wr_ne]
        · simp (disch := omega) only [wr_ne, wr_at]
        · simp (disch := omega) only [wr_ne, wr_in]
        · simp (disch := omega) only [wr_ne, wr_at]
        · simp (disch := omega) only [wr_ne, wr_in]
        · simp (disch := omega) only [wr_ne, wr_at]
        · simp (disch := omega) only [wr_ne, wr_in]
        · simp (disch := omega) only [wr_ne, wr_in]
        · simp (disch := omega) only [wr_ne, wr_in]
        · simp (disch := omega) only [wr_ne, wr_at]
          rw [b2i_F (by omega)]
        · simp (disch := omega) only [wr_ne, wr_at]
          rw [if_pos e0]; rfl
        · have h3 := oK_3 hκ
          simp (disch := omega) only [wr_ne]
      · rw [if_neg (show ¬ nI (cntT (wr W 1 (80 + 10 * x) 0 1) nm t) = 0 from fun z => e0 ((nI_eq (a := cntT (wr W 1 (80 + 10 * x) 0 1) nm t) (b := 0) (by omega) (by omega)).mp z)), touch_n (by omega), Option.bind_some]
        refine ⟨_, rfl, fun k hk => ?_, fun j hj => ⟨?_, ?_⟩, ?_, ?_, fun c hc => ?_, ?_, fun i hi => ?_, ?_, fun i hi => ?_, ?_, fun i hi => ⟨?_, ?_, ?_⟩, ?_, ?_, fun κ c hκ hc => ?_⟩
        · simp (disch := omega) only [wr_ne]
        · simp (disch := omega) only [wr_ne, wr_in]
        · simp (disch := omega) only [wr_ne, wr_in]
        · simp (disch := omega) only [wr_ne, wr_at]
        · simp (disch := omega) only [wr_at]
        · simp (disch := omega) only [wr_ne]
        · simp (disch := omega) only [wr_ne, wr_at]
        · simp (disch := omega) only [wr_ne, wr_in]
        · simp (disch := omega) only [wr_ne, wr_at]
        · simp (disch := omega) only [wr_ne, wr_in]
        · simp (disch := omega) only [wr_ne, wr_at]
        · simp (disch := omega) only [wr_ne, wr_in]
        · simp (disch := omega) only [wr_ne]
        · simp (disch := omega) only [wr_ne, wr_in]
        · simp (disch := omega) only [wr_ne]
          rw [(hW.2.2.2.2.2.2.2.2.2.1 t ht).2, b2i_T (by omega), b2i_T (by omega)]
        · simp (disch := omega) only [wr_ne, wr_at]
          rw [if_neg e0]; rfl
        · have h3 := oK_3 hκ
          simp (disch := omega) only [wr_ne]
    obtain ⟨V', l0, l1, l2, l3, l4, l5, l6, l7, l8, l9, l10, l11, l12, l13, l14⟩ := hl
    rw [l0, Option.bind_some]
    right
    have hW' : WRel V' (wr W 1 (80 + 10 * x) 0 1) nb nm nt := by
      refine WRel_mail hW okd (by rw [wr_in (by omega)]) (by rw [wr_in (by omega)]; exact hwn.em) (by rw [wr_in (by omega)]; exact hwn.et) (fun κ hκ => by rw [wr_in (by omega)]) b50 b3 (fun k a b => l1 k (by omega)) (l2 3 (by omega)).1 ((l2 4 (by omega)).1.trans hW.2.2.1.2.1) (l2 6 (by omega)).1 (l2 3 (by omega)).2 ((l2 4 (by omega)).2.trans hW.2.2.1.2.2) (l2 6 (by omega)).2 (fun m hm => ⟨?_, fun c hc => ?_⟩) (fun m hm hm2 => ?_) (fun i hi => ?_) (fun i hi hi2 => ?_)
      · by_cases em : m = x
        · subst em; rw [l6, ox]
        · rw [l7 m em, o0 m em]; exact (hW.2.2.2.2.2.2.2.1 m hm).1
      · rw [l5 c hc, show 80 + 10 * m + 1 + c = 80 + 10 * m + (1 + c) by omega, oc m (1 + c) (by omega) (by omega), ← show 80 + 10 * m + 1 + c = 80 + 10 * m + (1 + c) by omega]
        exact (hW.2.2.2.2.2.2.2.1 m hm).2 c hc
      · rw [l7 m (by omega)]; exact hW.2.2.2.2.2.2.2.2.1 m hm hm2
      · by_cases e : i = t
        · subst e; exact ⟨l10, l12⟩
        · rw [(l11 i e).1, (l11 i e).2.1]
          have := hcnt i (by omega)
          rw [if_neg e, Nat.add_zero] at this
          rw [← this]
          exact hW.2.2.2.2.2.2.2.2.2.1 i hi
      · have e : i ≠ t := by omega
        rw [(l11 i e).1, (l11 i e).2.1]
        exact hW.2.2.2.2.2.2.2.2.2.2 i hi hi2
    have hT1 : TT (wr (wr V 51 x 3) 28 7 1) (fun κ i => if κ = 1 ∧ i = x then 3 else whatK w0 (W 1) nb nm nt nb nm nt κ i) := by
      refine TT_set (κ := 1) (x := x) (s := 3) hT (by omega) (by omega) (by omega) ?_ (fun i hi => ?_) ?_ (fun κ' hκ' hne => ?_) (by rw [if_pos ⟨rfl, rfl⟩]) (fun κ' i hκ' hi hne => by rw [if_neg (by omega)])
      · show wr (wr V 51 x 3) 28 7 1 51 x = nI 3
        rw [wr_ne (by omega), wr_at]; rfl
      · show wr (wr V 51 x 3) 28 7 1 51 i = V 51 i
        rw [wr_ne (by omega), wr_in hi]
      · show wr (wr V 51 x 3) 28 7 1 28 7 = 1
        rw [wr_at]
      · have h3 : oK κ' = 4 ∨ oK κ' = 52 := by unfold oK; omega
        constructor
        · rw [wr_ne (by omega), wr_ne (by omega)]
        · rw [wr_ne (by omega), wr_ne (by omega)]
    refine ⟨V', _, rfl, rfl, ⟨hW', hF', keptOf_fr hK (fun κ j hκ hj => ?_) l14, TT_set (κ := 2) (x := t) (s := if cntT (wr W 1 (80 + 10 * x) 0 1) nm t = 0 then 3 else 2) hT1 (by omega) (by omega) (by split <;> omega) l13 (fun i hi => ?_) l4 (fun κ' hκ' hne => ?_) ?_ (fun κ' i hκ' hi hne => ?_), fun κ i hκ z => ?_, fun m hm2 => ?_, fun κ hκ => ?_⟩, fun k hk => l1 k (by omega), fun k hk => by rw [wr_ne hk]⟩
    · have h3 := oK_3 hκ
      rcases h3 with e | e | e
      · rw [e, l1 4 (by omega)]
      · rw [e]; exact (l2 j hj).1
      · rw [e]; exact (l2 j hj).2
    · show V' 75 i = wr (wr V 51 x 3) 28 7 1 75 i
      rw [wr_ne (by omega), wr_ne (by omega)]; exact (l11 i hi).2.2
    · have hc : κ' = 0 ∨ κ' = 1 := by omega
      rcases hc with rfl | rfl
      · constructor
        · show V' 27 = wr (wr V 51 x 3) 28 7 1 27
          rw [wr_ne (by omega), wr_ne (by omega)]; exact l1 27 (by omega)
        · show V' 4 7 = wr (wr V 51 x 3) 28 7 1 4 7
          rw [wr_ne (by omega), wr_ne (by omega), l1 4 (by omega)]
      · constructor
        · show V' 51 = wr (wr V 51 x 3) 28 7 1 51
          funext i
          rw [wr_ne (by omega)]
          by_cases e : i = x
          · subst e; rw [wr_at]; exact l8
          · rw [wr_in e]; exact l9 i e
        · show V' 28 7 = wr (wr V 51 x 3) 28 7 1 28 7
          rw [wr_at]; exact l3
    · by_cases e0 : cntT (wr W 1 (80 + 10 * x) 0 1) nm t = 0
      · rw [if_pos e0]
        exact whatK_gone hthr0 (fun z => by have := (isTh_2.mp z).2; omega)
      · rw [if_neg e0]
        refine whatK_oth (k := x) hthr0 (isTh_2.mpr ⟨ht, by omega⟩) hx1 ?_
        show (thIn (wr W 1 (80 + 10 * x) 0 1) nm t x != thIn w0 nm t x) = true
        unfold thIn
        rw [hthx t]
        have h1 : thM w0 t x = true := by
          unfold thM
          rw [← h8 x hx1, e8, (isTh_1.mp hwas).2]
          simp
        rw [h1]
        simp [hx1]
    · by_cases e : κ' = 1 ∧ i = x
      · obtain ⟨rfl, rfl⟩ := e
        rw [if_pos ⟨rfl, rfl⟩]
        exact whatK_gone hwas hgone
      · rw [if_neg e]
        exact hws κ' i hκ' hi (by omega) (by omega)
    · by_cases e : κ = 1 ∧ i = x
      · obtain ⟨rfl, rfl⟩ := e
        exact absurd z hgone
      · by_cases e2 : κ = 2 ∧ i = t
        · obtain ⟨rfl, rfl⟩ := e2
          exact hthr0
        · refine hG κ i hκ ?_
          have hi50 : i < 50 := by
            have h1 := isTh_ev z hκ
            have h2 := evK_le (κ := κ) hwn
            omega
          show isThb _ _ _ _ _ _ = true
          rw [← hth0 κ i hκ hi50 (by omega) (by omega)]; exact z
    · rw [oc m 8 (by omega) (by omega)]; exact h8 m hm2
    · rw [wr_in (by omega)]; exact hS κ hκ
  · rw [b2i_F hth]
    exact Or.inl ⟨-1, by decide, rfl, rfl⟩
