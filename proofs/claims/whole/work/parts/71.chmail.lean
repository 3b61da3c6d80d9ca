
/-! CHANGE of a mail -/
theorem WF_m {W : Mm} {nb nm nt x p : Nat} {y : Int32} (hF : WF (W 1) nb nm nt) (h20 : nb ≤ 20) (h50 : nm ≤ 50) (hx : x < nm) (hp : (p = 7 ∧ ∃ z, z ≤ 15 ∧ y = nI z) ∨ (p = 9 ∧ y ≠ 0 ∧ ∃ z, z < 2 ^ 20 ∧ y = nI z ∧ ∀ b, z.testBit b = true → b < nb ∧ W 1 (4 * b) = 1)) : WF (wr W 1 (80 + 10 * x + p) y 1) nb nm nt := by
  have hp2 : p = 7 ∨ p = 9 := by rcases hp with ⟨a, -⟩ | ⟨a, -⟩ <;> omega
  refine WF_mail hF h20 (fun k hk => by rw [wr_in (by omega)]) (fun m hm => ?_) (fun m hm => ?_) (fun m hm e => ?_)
  · rw [wr_in (by omega)]; exact hF.2.2.2.2.1 m hm
  · obtain ⟨r1, r2, r3, r4, r5, r6⟩ := hF.2.2.2.2.2.1 m hm
    rw [wr_in (show 80 + 10 * m + 1 ≠ _ by omega), wr_in (show 80 + 10 * m + 5 ≠ _ by omega), wr_in (show 80 + 10 * m + 6 ≠ _ by omega), wr_in (show 80 + 10 * m + 8 ≠ _ by omega)]
    refine ⟨r1, r2, r3, ?_, r5, ?_⟩
    · rcases hp with ⟨rfl, hz⟩ | ⟨rfl, -⟩
      · by_cases em : m = x
        · subst em; rw [wr_at]; exact hz
        · rw [wr_in (by omega)]; exact r4
      · rw [wr_in (by omega)]; exact r4
    · rcases hp with ⟨rfl, -⟩ | ⟨rfl, -, z, z1, z2, -⟩
      · rw [wr_in (by omega)]; exact r6
      · by_cases em : m = x
        · subst em; rw [wr_at]; exact ⟨z, z1, z2⟩
        · rw [wr_in (by omega)]; exact r6
  · rw [wr_in (by omega)] at e
    have old := hF.2.2.2.2.2.2 m hm e
    rcases hp with ⟨rfl, -⟩ | ⟨rfl, hy, z, z1, z2, z3⟩
    · rw [wr_in (by omega)]; exact old
    · by_cases em : m = x
      · subst em
        rw [wr_at]
        refine ⟨hy, fun a ha ha2 b hb => ?_⟩
        rw [z2] at ha
        have := (nI_eq (a := z) (b := a) (by omega) (by omega)).mp ha
        subst this
        exact z3 b hb
      · rw [wr_in (by omega)]; exact old
theorem i32_n (z : Int32) : z = nI z.toUInt32.toNat := by
  unfold nI
  apply Int32.toBitVec_inj.mp
  simp [Int32.toBitVec_ofNat]
theorem b85_0 {V : Mm} {x c p : Nat} {y : Int32} {B : Int32} (hx : x < 50) (hc : c = 6 ∧ p = 7) (hB : V 36 x = B) : (y = B → eX5_changeMail_b85 (nI x) 6 B y V = some (0, V)) ∧ (y ≠ B → eX5_changeMail_b85 (nI x) 6 B y V = some (0, chW 1 x 7 y V)) := by
  have h68 : ¬ (6 : Int32) = 8 := by decide
  unfold eX5_changeMail_b85
  rw [if_neg h68]
  constructor
  · intro e; rw [if_pos e]
  · intro e
    rw [if_neg e, set_6 hx, Option.bind_some, touch_n hx, Option.bind_some]
    rfl
theorem b85_8 {V : Mm} {x : Nat} {y : Int32} {B : Int32} (hx : x < 50) : (y = 0 → eX5_changeMail_b85 (nI x) 8 B y V = some (-3, V)) ∧ (y ≠ 0 → (y = B → eX5_changeMail_b85 (nI x) 8 B y V = some (0, V)) ∧ (y ≠ B → eX5_changeMail_b85 (nI x) 8 B y V = some (0, chW 1 x 9 y V))) := by
  unfold eX5_changeMail_b85
  rw [if_pos rfl]
  refine ⟨fun e => by rw [if_pos e], fun e => ⟨fun e2 => by rw [if_neg e, if_pos e2], fun e2 => ?_⟩⟩
  rw [if_neg e, if_neg e2, set_8 hx, Option.bind_some, touch_n hx, Option.bind_some]
  rfl
theorem chM_step {V W : Mm} {x u y nb nm nt : Nat} (hW : WRel V (W 1) nb nm nt) (hF : WF (W 1) nb nm nt) (hx : x < 2147483648) (hu : u ≤ 2) (hy : y < 2147483648) (hy0 : u = 0 → y ≤ 15) :
    chStep 1 (cfC 1 (nI x) (nI u) (nI y) V) (cfM 1 (nI x) (nI u) (nI y) W) V W x nb nm nt := by
  have hwn := WRel_WN hW
  have b20 := hwn.b20
  have b50 := hwn.m50
  unfold cfC cfM
  rw [if_neg (by decide), if_neg (by decide)]
  unfold eX5_changeMail eX6_changeMail
  rw [show eX2_isThere 28 (nI x) V = _ from isThere_K (κ := 1) hW (by omega) hx, mMail_n hwn hx]
  by_cases hth : x < nm ∧ W 1 (80 + 10 * x) = 1
  · have hx50 : x < 50 := by omega
    rw [b2i_T (isTh_1.mpr hth), b2i_T hth, Option.bind_some, Option.bind_some, if_neg (show ¬ (1 : Int32) = 0 by decide), if_neg (show ¬ (1 : Int32) = 0 by decide)]
    have hcol := (hW.2.2.2.2.2.2.2.1 x hth.1).2
    by_cases u0 : u = 0
    · subst u0
      rw [if_pos (show nI 0 = 0 from rfl), if_pos (show nI 0 = 0 from rfl), if_pos (show nI 0 = 0 from rfl)]
      right
      refine ⟨7, nI y, by omega, by decide, fun _ => by omega, isTh_1.mpr hth, WF_m hF b20 b50 hth.1 (Or.inl ⟨rfl, y, hy0 rfl, rfl⟩), ?_, ?_⟩
      · simp (disch := omega) only [q0a, q0b, q0c, q0d, q0e, q0f, p0_l, p0_r, p0_s, q1a, q1b, q1c, q1d, q1e, q1f, p1_l, p1_r, p1_s, q2a, q2b, q2c, q2d, q2e, q2f, p2_l, p2_r, p2_s, q3a, q3b, q3c, q3d, q3e, q3f, p3_l, p3_r, p3_s, q4a, q4b, q4c, q4d, q4e, q4f, p4_l, p4_r, p4_s, p4_m, q5a, q5b, q5c, q5d, q5e, q5f, p5_l, p5_r, p5_s, p5_m, q6a, q6b, q6c, q6d, q6e, q6f, p6_l, p6_r, p6_s, q7a, q7b, q7c, q7d, q7e, q7f, p7_l, p7_r, p7_s, q8a, q8b, q8c, q8d, q8e, q8f, p8_l, p8_r, p8_s, q9a, q9b, q9c, q9d, q9e, q9f, p9_l, p9_r, p9_s, q10a, q10b, q10c, q10d, q10e, q10f, p10_l, p10_r, p10_s, p10_m, q11a, q11b, q11c, q11d, q11e, q11f, p11_l, p11_r, p11_s, q12a, q12b, q12c, q12d, q12e, q12f, p12_l, p12_r, p12_s, q15a, q15b, q15c, q15d, q15e, q15f, p15_l, p15_r, p15_s, q19a, q19b, q19c, q19d, q19e, q19f, p19_l, p19_r, p19_s, q20a, q20b, q20c, q20d, q20e, q20f, p20_l, p20_r, p20_s, q31a, q31b, q31c, q31d, q31e, q31f, p31_l, p31_r, p31_s, q40a, q40b, q40c, q40d, q40e, q40f, p40_l, p40_r, p40_s, q48a, q48b, q48c, q48d, q48e, q48f, p48_l, p48_r, p48_s, q50a, q50b, q50c, q50d, q50e, q50f, p50_l, p50_r, p50_s, p50_m, q52a, q52b, q52c, q52d, q52e, q52f, p52_l, p52_r, p52_s, q60a, q60b, q60c, q60d, q60e, q60f, p60_l, p60_r, p60_s, q63a, q63b, q63c, q63d, q63e, q63f, p63_l, p63_r, p63_s, q80a, q80b, q80c, q80d, q80e, q80f, p80_l, p80_r, p80_s, q99a, q99b, q99c, q99d, q99e, q99f, p99_l, p99_r, p99_s, q100a, q100b, q100c, q100d, q100e, q100f, p100_l, p100_r, p100_s, q120a, q120b, q120c, q120d, q120e, q120f, p120_l, p120_r, p120_s, q240a, q240b, q240c, q240d, q240e, q240f, p240_l, p240_r, p240_s, q243a, q243b, q243c, q243d, q243e, q243f, p243_l, p243_r, p243_s, q244a, q244b, q244c, q244d, q244e, q244f, p244_l, p244_r, p244_s, q580a, q580b, q580c, q580d, q580e, q580f, p580_l, p580_r, p580_s, q581a, q581b, q581c, q581d, q581e, q581f, p581_l, p581_r, p581_s, q582a, q582b, q582c, q582d, q582e, q582f, p582_l, p582_r, p582_s, q583a, q583b, q583c, q583d, q583e, q583f, p583_l, p583_r, p583_s, q584a, q584b, q584c, q584d, q584e, q584f, p584_l, p584_r, p584_s, q585a, q585b, q585c, q585d, q585e, q585f, p585_l, p585_r, p585_s, q586a, q586b, q586c, q586d, q586e, q586f, p586_l, p586_r, p586_s, q999a, q999b, q999c, q999d, q999e, q999f, p999_l, p999_r, p999_s, q1000a, q1000b, q1000c, q1000d, q1000e, q1000f, p1000_l, p1000_r, p1000_s, q2400a, q2400b, q2400c, q2400d, q2400e, q2400f, p2400_l, p2400_r, p2400_s, q9999a, q9999b, q9999c, q9999d, q9999e, q9999f, p9999_l, p9999_r, p9999_s, I00, I01, I10, I11, n_le, n_lt, n_eq, n_cl, n_add, n_ne9, n_ne1, if_true, if_false, Option.bind_some, if_pos, if_neg]
        rfl
      · unfold eX5_changeMail_b39
        rw [value_6 hx50, Option.bind_some, if_pos (show nI 0 = 0 from rfl)]
        have h36 : V (28 + 8) x = W 1 (recI 1 x 7) := hcol 6 (by omega)
        have h36' : V 36 x = W 1 (recI 1 x 7) := h36
        rw [h36]
        obtain ⟨e1, e2⟩ := b85_0 (y := nI y) hx50 ⟨rfl, rfl⟩ h36'
        by_cases e : nI y = W 1 (recI 1 x 7)
        · exact Or.inl ⟨e, e1 e⟩
        · exact Or.inr ⟨e, e2 e⟩
    · have nu0 : ¬ nI u = 0 := fun z => u0 ((nI_eq (a := u) (b := 0) (by omega) (by omega)).mp z)
      rw [if_neg nu0, if_neg nu0, if_neg nu0, show eX2_isThere 4 (nI y) V = _ from isThere_K (κ := 0) hW (by omega) hy, mBox_n hwn hy]
      by_cases hbx : y < nb ∧ W 1 (4 * y) = 1
      · have hy20 : y < 20 := by omega
        rw [b2i_T (isTh_0.mpr hbx), b2i_T hbx, Option.bind_some, Option.bind_some, if_neg (show ¬ (1 : Int32) = 0 by decide), if_neg (show ¬ (1 : Int32) = 0 by decide)]
        obtain ⟨B1, B2⟩ := WF_bits hF hth.1
        have hbits := (hF.2.2.2.2.2.2 x hth.1 hth.2).2 _ B2 B1
        have h38 : V (28 + 10) x = nI (bitsOf (W 1) x) := (hcol 8 (by omega)).trans B2
        have hrec : W 1 (recI 1 x 9) = nI (bitsOf (W 1) x) := B2
        unfold eX5_changeMail_b39
        rw [value_8 hx50, Option.bind_some, if_neg nu0, h38, bitOf_n hy, Option.bind_some, Option.bind_some, if_pos hy20]
        by_cases u1 : u = 1
        · subst u1
          rw [if_pos (show nI 1 = 1 from rfl), if_pos (show nI 1 = 1 from rfl)]
          have hn : nI (bitsOf (W 1) x) ||| (1 : Int32) <<< (nI y &&& 31) = nI (bitsOf (W 1) x ||| 2 ^ y) := or_nI hy20
          have hlt : bitsOf (W 1) x ||| 2 ^ y < 2 ^ 20 := Nat.or_lt_two_pow B1 (two_lt hy20)
          simp (disch := omega) only [q0a, q0b, q0c, q0d, q0e, q0f, p0_l, p0_r, p0_s, q1a, q1b, q1c, q1d, q1e, q1f, p1_l, p1_r, p1_s, q2a, q2b, q2c, q2d, q2e, q2f, p2_l, p2_r, p2_s, q3a, q3b, q3c, q3d, q3e, q3f, p3_l, p3_r, p3_s, q4a, q4b, q4c, q4d, q4e, q4f, p4_l, p4_r, p4_s, p4_m, q5a, q5b, q5c, q5d, q5e, q5f, p5_l, p5_r, p5_s, p5_m, q6a, q6b, q6c, q6d, q6e, q6f, p6_l, p6_r, p6_s, q7a, q7b, q7c, q7d, q7e, q7f, p7_l, p7_r, p7_s, q8a, q8b, q8c, q8d, q8e, q8f, p8_l, p8_r, p8_s, q9a, q9b, q9c, q9d, q9e, q9f, p9_l, p9_r, p9_s, q10a, q10b, q10c, q10d, q10e, q10f, p10_l, p10_r, p10_s, p10_m, q11a, q11b, q11c, q11d, q11e, q11f, p11_l, p11_r, p11_s, q12a, q12b, q12c, q12d, q12e, q12f, p12_l, p12_r, p12_s, q15a, q15b, q15c, q15d, q15e, q15f, p15_l, p15_r, p15_s, q19a, q19b, q19c, q19d, q19e, q19f, p19_l, p19_r, p19_s, q20a, q20b, q20c, q20d, q20e, q20f, p20_l, p20_r, p20_s, q31a, q31b, q31c, q31d, q31e, q31f, p31_l, p31_r, p31_s, q40a, q40b, q40c, q40d, q40e, q40f, p40_l, p40_r, p40_s, q48a, q48b, q48c, q48d, q48e, q48f, p48_l, p48_r, p48_s, q50a, q50b, q50c, q50d, q50e, q50f, p50_l, p50_r, p50_s, p50_m, q52a, q52b, q52c, q52d, q52e, q52f, p52_l, p52_r, p52_s, q60a, q60b, q60c, q60d, q60e, q60f, p60_l, p60_r, p60_s, q63a, q63b, q63c, q63d, q63e, q63f, p63_l, p63_r, p63_s, q80a, q80b, q80c, q80d, q80e, q80f, p80_l, p80_r, p80_s, q99a, q99b, q99c, q99d, q99e, q99f, p99_l, p99_r, p99_s, q100a, q100b, q100c, q100d, q100e, q100f, p100_l, p100_r, p100_s, q120a, q120b, q120c, q120d, q120e, q120f, p120_l, p120_r, p120_s, q240a, q240b, q240c, q240d, q240e, q240f, p240_l, p240_r, p240_s, q243a, q243b, q243c, q243d, q243e, q243f, p243_l, p243_r, p243_s, q244a, q244b, q244c, q244d, q244e, q244f, p244_l, p244_r, p244_s, q580a, q580b, q580c, q580d, q580e, q580f, p580_l, p580_r, p580_s, q581a, q581b, q581c, q581d, q581e, q581f, p581_l, p581_r, p581_s, q582a, q582b, q582c, q582d, q582e, q582f, p582_l, p582_r, p582_s, q583a, q583b, q583c, q583d, q583e, q583f, p583_l, p583_r, p583_s, q584a, q584b, q584c, q584d, q584e, q584f, p584_l, p584_r, p584_s, q585a, q585b, q585c, q585d, q585e, q585f, p585_l, p585_r, p585_s, q586a, q586b, q586c, q586d, q586e, q586f, p586_l, p586_r, p586_s, q999a, q999b, q999c, q999d, q999e, q999f, p999_l, p999_r, p999_s, q1000a, q1000b, q1000c, q1000d, q1000e, q1000f, p1000_l, p1000_r, p1000_s, q2400a, q2400b, q2400c, q2400d, q2400e, q2400f, p2400_l, p2400_r, p2400_s, q9999a, q9999b, q9999c, q9999d, q9999e, q9999f, p9999_l, p9999_r, p9999_s, I00, I01, I10, I11, n_le, n_lt, n_eq, n_cl, n_add, n_ne9, n_ne1, if_true, if_false, Option.bind_some, if_pos, if_neg, B2]
          rw [hn]
          obtain ⟨e1, e2⟩ := b85_8 (V := V) (y := nI (bitsOf (W 1) x ||| 2 ^ y)) (B := nI (bitsOf (W 1) x)) hx50
          by_cases z0 : nI (bitsOf (W 1) x ||| 2 ^ y) = 0
          · left
            refine ⟨-3, 9, 0, by decide, by omega, by decide, Or.inl (e1 z0), ?_⟩
            rw [if_pos z0]
          · right
            refine ⟨9, nI (bitsOf (W 1) x ||| 2 ^ y), by omega, by decide, fun _ => by omega, isTh_1.mpr hth, WF_m hF b20 b50 hth.1 (Or.inr ⟨rfl, z0, _, hlt, rfl, fun b hb => ?_⟩), ?_, ?_⟩
            · rw [Nat.testBit_or, Bool.or_eq_true] at hb
              rcases hb with hb | hb
              · exact hbits b hb
              · rw [two_bit hb]; exact hbx
            · rw [if_neg z0]; rfl
            · rw [hrec]
              by_cases e : nI (bitsOf (W 1) x ||| 2 ^ y) = nI (bitsOf (W 1) x)
              · exact Or.inl ⟨e, (e2 z0).1 e⟩
              · exact Or.inr ⟨e, (e2 z0).2 e⟩
        · have nu1 : ¬ nI u = 1 := fun z => u1 ((nI_eq (a := u) (b := 1) (by omega) (by omega)).mp z)
          rw [if_neg nu1, if_neg nu1]
          have hn : nI (bitsOf (W 1) x) &&& ((1 : Int32) <<< (nI y &&& 31) ^^^ (-1)) = nI (bitsOf (W 1) x &&& ((1 : Int32) <<< (nI y &&& 31) ^^^ (-1)).toUInt32.toNat) := by
            rw [← n_and, ← i32_n]
          have hlt : bitsOf (W 1) x &&& ((1 : Int32) <<< (nI y &&& 31) ^^^ (-1)).toUInt32.toNat < 2 ^ 20 := Nat.lt_of_le_of_lt Nat.and_le_left B1
          simp (disch := omega) only [q0a, q0b, q0c, q0d, q0e, q0f, p0_l, p0_r, p0_s, q1a, q1b, q1c, q1d, q1e, q1f, p1_l, p1_r, p1_s, q2a, q2b, q2c, q2d, q2e, q2f, p2_l, p2_r, p2_s, q3a, q3b, q3c, q3d, q3e, q3f, p3_l, p3_r, p3_s, q4a, q4b, q4c, q4d, q4e, q4f, p4_l, p4_r, p4_s, p4_m, q5a, q5b, q5c, q5d, q5e, q5f, p5_l, p5_r, p5_s, p5_m, q6a, q6b, q6c, q6d, q6e, q6f, p6_l, p6_r, p6_s, q7a, q7b, q7c, q7d, q7e, q7f, p7_l, p7_r, p7_s, q8a, q8b, q8c, q8d, q8e, q8f, p8_l, p8_r, p8_s, q9a, q9b, q9c, q9d, q9e, q9f, p9_l, p9_r, p9_s, q10a, q10b, q10c, q10d, q10e, q10f, p10_l, p10_r, p10_s, p10_m, q11a, q11b, q11c, q11d, q11e, q11f, p11_l, p11_r, p11_s, q12a, q12b, q12c, q12d, q12e, q12f, p12_l, p12_r, p12_s, q15a, q15b, q15c, q15d, q15e, q15f, p15_l, p15_r, p15_s, q19a, q19b, q19c, q19d, q19e, q19f, p19_l, p19_r, p19_s, q20a, q20b, q20c, q20d, q20e, q20f, p20_l, p20_r, p20_s, q31a, q31b, q31c, q31d, q31e, q31f, p31_l, p31_r, p31_s, q40a, q40b, q40c, q40d, q40e, q40f, p40_l, p40_r, p40_s, q48a, q48b, q48c, q48d, q48e, q48f, p48_l, p48_r, p48_s, q50a, q50b, q50c, q50d, q50e, q50f, p50_l, p50_r, p50_s, p50_m, q52a, q52b, q52c, q52d, q52e, q52f, p52_l, p52_r, p52_s, q60a, q60b, q60c, q60d, q60e, q60f, p60_l, p60_r, p60_s, q63a, q63b, q63c, q63d, q63e, q63f, p63_l, p63_r, p63_s, q80a, q80b, q80c, q80d, q80e, q80f, p80_l, p80_r, p80_s, q99a, q99b, q99c, q99d, q99e, q99f, p99_l, p99_r, p99_s, q100a, q100b, q100c, q100d, q100e, q100f, p100_l, p100_r, p100_s, q120a, q120b, q120c, q120d, q120e, q120f, p120_l, p120_r, p120_s, q240a, q240b, q240c, q240d, q240e, q240f, p240_l, p240_r, p240_s, q243a, q243b, q243c, q243d, q243e, q243f, p243_l, p243_r, p243_s, q244a, q244b, q244c, q244d, q244e, q244f, p244_l, p244_r, p244_s, q580a, q580b, q580c, q580d, q580e, q580f, p580_l, p580_r, p580_s, q581a, q581b, q581c, q581d, q581e, q581f, p581_l, p581_r, p581_s, q582a, q582b, q582c, q582d, q582e, q582f, p582_l, p582_r, p582_s, q583a, q583b, q583c, q583d, q583e, q583f, p583_l, p583_r, p583_s, q584a, q584b, q584c, q584d, q584e, q584f, p584_l, p584_r, p584_s, q585a, q585b, q585c, q585d, q585e, q585f, p585_l, p585_r, p585_s, q586a, q586b, q586c, q586d, q586e, q586f, p586_l, p586_r, p586_s, q999a, q999b, q999c, q999d, q999e, q999f, p999_l, p999_r, p999_s, q1000a, q1000b, q1000c, q1000d, q1000e, q1000f, p1000_l, p1000_r, p1000_s, q2400a, q2400b, q2400c, q2400d, q2400e, q2400f, p2400_l, p2400_r, p2400_s, q9999a, q9999b, q9999c, q9999d, q9999e, q9999f, p9999_l, p9999_r, p9999_s, I00, I01, I10, I11, n_le, n_lt, n_eq, n_cl, n_add, n_ne9, n_ne1, if_true, if_false, Option.bind_some, if_pos, if_neg, B2]
          rw [hn]
          generalize hzz : ((1 : Int32) <<< (nI y &&& 31) ^^^ (-1)).toUInt32.toNat = zz at *
          obtain ⟨e1, e2⟩ := b85_8 (V := V) (y := nI (bitsOf (W 1) x &&& zz)) (B := nI (bitsOf (W 1) x)) hx50
          by_cases z0 : nI (bitsOf (W 1) x &&& zz) = 0
          · left
            refine ⟨-3, 9, 0, by decide, by omega, by decide, Or.inl (e1 z0), ?_⟩
            rw [if_pos z0]
          · right
            refine ⟨9, nI (bitsOf (W 1) x &&& zz), by omega, by decide, fun _ => by omega, isTh_1.mpr hth, WF_m hF b20 b50 hth.1 (Or.inr ⟨rfl, z0, _, hlt, rfl, fun b hb => ?_⟩), ?_, ?_⟩
            · rw [Nat.testBit_and, Bool.and_eq_true] at hb
              exact hbits b hb.1
            · rw [if_neg z0]; rfl
            · rw [hrec]
              by_cases e : nI (bitsOf (W 1) x &&& zz) = nI (bitsOf (W 1) x)
              · exact Or.inl ⟨e, (e2 z0).1 e⟩
              · exact Or.inr ⟨e, (e2 z0).2 e⟩
      · rw [b2i_F (fun z => hbx (isTh_0.mp z)), b2i_F hbx]
        exact Or.inl ⟨-1, 7, 0, by decide, by omega, by decide, Or.inl rfl, rfl⟩
  · rw [b2i_F (fun z => hth (isTh_1.mp z)), b2i_F hth]
    exact Or.inl ⟨-1, 7, 0, by decide, by omega, by decide, Or.inl rfl, rfl⟩
