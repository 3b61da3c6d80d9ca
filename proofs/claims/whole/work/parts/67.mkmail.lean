
/-! MAKE of a mail: the call -/
theorem mm_end {q nb nm nt nt' t b : Nat} {D : Nat → Int32} {Vc Vm V' M1 : Mm} (h : CS q Vc Vm nb nm nt) (h50 : nm < 50) (hD : mBnd D) (hb : b < nb) (hb1 : Vm 1 (4 * b) = 1)
    (htt : (nt' = nt ∧ t < nt ∧ 0 < cntT (Vm 1) nm t) ∨ (nt' = nt + 1 ∧ t = nt))
    (hM : ∀ k, k ≠ 1 → M1 k = Vm k) (hw : ∀ k, k < 586 → k ≠ 581 → k ≠ 582 → (k < 80 + 10 * nm ∨ 90 + 10 * nm ≤ k) → M1 1 k = Vm 1 k) (h581 : M1 1 581 = nI (nm + 1)) (h582 : M1 1 582 = nI nt') (v0 : M1 1 (80 + 10 * nm) = 1) (vc : ∀ c, c < 7 → M1 1 (80 + 10 * nm + 1 + c) = mCol D c) (v8 : M1 1 (80 + 10 * nm + 8) = nI t) (v9 : M1 1 (80 + 10 * nm + 9) = nI (2 ^ b))
    (hk0 : ∀ k, (k < 28 ∨ 75 < k) → V' k = Vc k) (c1 : V' 28 3 = Vc 28 3) (c2 : V' 28 4 = nI (nm + 1)) (c3 : V' 28 6 = Vc 28 6) (c7 : V' 28 7 = 1) (c4 : V' 52 3 = Vc 52 3) (c5 : V' 52 4 = nI nt') (c6 : V' 52 6 = Vc 52 6) (c8 : V' 52 7 = 1)
    (ho : ∀ c m, c < 10 → m ≠ nm → V' (30 + c) m = Vc (30 + c) m) (u0 : V' 39 nm = 1) (uc : ∀ c, c < 7 → V' (30 + c) nm = mCol D c) (u8 : V' 37 nm = nI t) (u9 : V' 38 nm = nI (2 ^ b))
    (ot : ∀ x, x ≠ t → V' 54 x = Vc 54 x ∧ V' 63 x = Vc 63 x) (t54 : V' 54 t = nI (cntT (Vm 1) nm t + 1)) (t63 : V' 63 t = 1)
    (u51 : V' 51 nm = 1) (o51 : ∀ i, i ≠ nm → V' 51 i = Vc 51 i) (u75 : V' 75 t = nI (if nt' = nt then 2 else 1)) (o75 : ∀ i, i ≠ t → V' 75 i = Vc 75 i) :
    ∃ (code : Int32) (V2 M2 : Mm), ((eX4_add (91 + 9 * q) 1 (nI nm) V').bind fun r18 => some ((0 : Int32), r18)) = some (code, V2) ∧ ((eX6_give (nI q) 1 (nI nm) M1).bind fun r => some ((0 : Int32), r)) = some (code, M2) ∧ loudR q Vc Vm nb nm nt code V2 M2 := by
  obtain ⟨hA, hC, hW, hF, hfil, hlog, hinv, hcl, hrow, h2⟩ := h
  obtain ⟨g1, g2, g3⟩ := id hA
  have hwn := WRel_WN hW
  have h3 := hwn.tm
  obtain ⟨⟨n1, n2⟩, hcnt⟩ := newMail hW hF h50 hD hb hb1 htt hw h581 h582 v0 vc v8 v9 (fun k a b => hk0 k (by omega)) c1 c2 c3 c4 c5 c6 ho u0 uc u8 u9 ot t54 t63
  obtain ⟨hwh, hgr⟩ := newMail_what hwn h50 htt hw v0 v8 hcnt
  have ht50 : t < 50 := by rcases htt with ⟨a, b, -⟩ | ⟨a, b⟩ <;> omega
  have hT : TT V' (tauM nm t (if nt' = nt then 2 else 1)) := TT_mail hcl h50 ht50 (by split <;> omega) (hk0 4 (by omega)) (hk0 27 (by omega)) c7 c8 u51 o51 u75 o75
  obtain ⟨V2, M2, a1, a2, a3, a4, a5, a6⟩ := give_n (rowsIn_fr hrow (fun k a b => hk0 k (by omega)) (hM 9 (by omega)) (hM 10 (by omega))) g1 (r := 1) (x := nm) (by omega) (by omega) (fun _ _ => by omega) (by omega) (fun z => z)
  have e1 : M2 1 = M1 1 := a6.1 1 (by omega) (by omega)
  refine ⟨0, V2, M2, ?_, ?_, ?_, ?_, Or.inl ⟨rfl, rowsIn_rel a4 (fun r _ => by split <;> omega), nb, nm + 1, nt', ?_, ?_, ?_, ?_⟩⟩
  · rw [show eX4_add (91 + 9 * q) 1 (nI nm) V' = _ from a1]; rfl
  · rw [show eX6_give (nI q) 1 (nI nm) M1 = _ from a2]; rfl
  · refine frC_tr ⟨fun k b1 b2 b3 b4 b5 => hk0 k (by omega), fun x _ => ?_⟩ (out_frC a5)
    rw [hk0 0 (by omega)]
  · exact frM_tr ⟨fun k _ b2 _ _ _ _ _ => hM k b2, fun x _ => by rw [hM 0 (by omega)], fun i _ => by rw [hM 9 (by omega)], fun i _ => by rw [hM 10 (by omega)]⟩ (out_frM a6)
  · rw [e1]; exact WRel_stay n1 (fun k b1 b2 => a5 k (by omega))
  · rw [e1]; exact n2
  · rw [e1]; exact hgr
  · rw [e1]; exact TT_congr (TT_stay hT (fun k b1 b2 => a5 k (by omega))) hwh
theorem full_1 {Vc : Mm} {w : Nat → Int32} {nb nm nt : Nat} (h : WRel Vc w nb nm nt) : eX2_isFull 28 Vc = some (b2i (nm = 50)) := by
  have h50 := (WRel_WN h).m50
  have h3 : Vc 28 3 = nI 50 := h.2.2.2.1.2.1
  have h4 : Vc 28 4 = nI nm := h.2.2.1.2.1
  unfold eX2_isFull
  rw [h3, h4]
  by_cases e : nm = 50
  · subst e; rw [b2i_T rfl]; simp (disch := omega) only [q0a, q0b, q0c, q0d, q0e, q0f, p0_l, p0_r, p0_s, q1a, q1b, q1c, q1d, q1e, q1f, p1_l, p1_r, p1_s, q2a, q2b, q2c, q2d, q2e, q2f, p2_l, p2_r, p2_s, q3a, q3b, q3c, q3d, q3e, q3f, p3_l, p3_r, p3_s, q4a, q4b, q4c, q4d, q4e, q4f, p4_l, p4_r, p4_s, p4_m, q5a, q5b, q5c, q5d, q5e, q5f, p5_l, p5_r, p5_s, p5_m, q6a, q6b, q6c, q6d, q6e, q6f, p6_l, p6_r, p6_s, q7a, q7b, q7c, q7d, q7e, q7f, p7_l, p7_r, p7_s, q8a, q8b, q8c, q8d, q8e, q8f, p8_l, p8_r, p8_s, q9a, q9b, q9c, q9d, q9e, q9f, p9_l, p9_r, p9_s, q10a, q10b, q10c, q10d, q10e, q10f, p10_l, p10_r, p10_s, p10_m, q11a, q11b, q11c, q11d, q11e, q11f, p11_l, p11_r, p11_s, q12a, q12b, q12c, q12d, q12e, q12f, p12_l, p12_r, p12_s, q15a, q15b, q15c, q15d, q15e, q15f, p15_l, p15_r, p15_s, q19a, q19b, q19c, q19d, q19e, q19f, p19_l, p19_r, p19_s, q20a, q20b, q20c, q20d, q20e, q20f, p20_l, p20_r, p20_s, q31a, q31b, q31c, q31d, q31e, q31f, p31_l, p31_r, p31_s, q40a, q40b, q40c, q40d, q40e, q40f, p40_l, p40_r, p40_s, q48a, q48b, q48c, q48d, q48e, q48f, p48_l, p48_r, p48_s, q50a, q50b, q50c, q50d, q50e, q50f, p50_l, p50_r, p50_s, p50_m, q52a, q52b, q52c, q52d, q52e, q52f, p52_l, p52_r, p52_s, q60a, q60b, q60c, q60d, q60e, q60f, p60_l, p60_r, p60_s, q63a, q63b, q63c, q63d, q63e, q63f, p63_l, p63_r, p63_s, q80a, q80b, q80c, q80d, q80e, q80f, p80_l, p80_r, p80_s, q99a, q99b, q99c, q99d, q99e, q99f, p99_l, p99_r, p99_s, q100a, q100b, q100c, q100d, q100e, q100f, p100_l, p100_r, p100_s, q120a, q120b, q120c, q120d, q120e, q120f, p120_l, p120_r, p120_s, q240a, q240b, q240c, q240d, q240e, q240f, p240_l, p240_r, p240_s, q243a, q243b, q243c, q243d, q243e, q243f, p243_l, p243_r, p243_s, q244a, q244b, q244c, q244d, q244e, q244f, p244_l, p244_r, p244_s, q580a, q580b, q580c, q580d, q580e, q580f, p580_l, p580_r, p580_s, q581a, q581b, q581c, q581d, q581e, q581f, p581_l, p581_r, p581_s, q582a, q582b, q582c, q582d, q582e, q582f, p582_l, p582_r, p582_s, q583a, q583b, q583c, q583d, q583e, q583f, p583_l, p583_r, p583_s, q584a, q584b, q584c, q584d, q584e, q584f, p584_l, p584_r, p584_s, q585a, q585b, q585c, q585d, q585e, q585f, p585_l, p585_r, p585_s, q586a, q586b, q586c, q586d, q586e, q586f, p586_l, p586_r, p586_s, q999a, q999b, q999c, q999d, q999e, q999f, p999_l, p999_r, p999_s, q1000a, q1000b, q1000c, q1000d, q1000e, q1000f, p1000_l, p1000_r, p1000_s, q2400a, q2400b, q2400c, q2400d, q2400e, q2400f, p2400_l, p2400_r, p2400_s, q9999a, q9999b, q9999c, q9999d, q9999e, q9999f, p9999_l, p9999_r, p9999_s, I00, I01, I10, I11, n_le, n_lt, n_eq, n_cl, n_add, n_ne9, n_ne1, if_true, if_false, Option.bind_some, if_pos, if_neg]
  · rw [b2i_F e]
    simp (disch := omega) only [q0a, q0b, q0c, q0d, q0e, q0f, p0_l, p0_r, p0_s, q1a, q1b, q1c, q1d, q1e, q1f, p1_l, p1_r, p1_s, q2a, q2b, q2c, q2d, q2e, q2f, p2_l, p2_r, p2_s, q3a, q3b, q3c, q3d, q3e, q3f, p3_l, p3_r, p3_s, q4a, q4b, q4c, q4d, q4e, q4f, p4_l, p4_r, p4_s, p4_m, q5a, q5b, q5c, q5d, q5e, q5f, p5_l, p5_r, p5_s, p5_m, q6a, q6b, q6c, q6d, q6e, q6f, p6_l, p6_r, p6_s, q7a, q7b, q7c, q7d, q7e, q7f, p7_l, p7_r, p7_s, q8a, q8b, q8c, q8d, q8e, q8f, p8_l, p8_r, p8_s, q9a, q9b, q9c, q9d, q9e, q9f, p9_l, p9_r, p9_s, q10a, q10b, q10c, q10d, q10e, q10f, p10_l, p10_r, p10_s, p10_m, q11a, q11b, q11c, q11d, q11e, q11f, p11_l, p11_r, p11_s, q12a, q12b, q12c, q12d, q12e, q12f, p12_l, p12_r, p12_s, q15a, q15b, q15c, q15d, q15e, q15f, p15_l, p15_r, p15_s, q19a, q19b, q19c, q19d, q19e, q19f, p19_l, p19_r, p19_s, q20a, q20b, q20c, q20d, q20e, q20f, p20_l, p20_r, p20_s, q31a, q31b, q31c, q31d, q31e, q31f, p31_l, p31_r, p31_s, q40a, q40b, q40c, q40d, q40e, q40f, p40_l, p40_r, p40_s, q48a, q48b, q48c, q48d, q48e, q48f, p48_l, p48_r, p48_s, q50a, q50b, q50c, q50d, q50e, q50f, p50_l, p50_r, p50_s, p50_m, q52a, q52b, q52c, q52d, q52e, q52f, p52_l, p52_r, p52_s, q60a, q60b, q60c, q60d, q60e, q60f, p60_l, p60_r, p60_s, q63a, q63b, q63c, q63d, q63e, q63f, p63_l, p63_r, p63_s, q80a, q80b, q80c, q80d, q80e, q80f, p80_l, p80_r, p80_s, q99a, q99b, q99c, q99d, q99e, q99f, p99_l, p99_r, p99_s, q100a, q100b, q100c, q100d, q100e, q100f, p100_l, p100_r, p100_s, q120a, q120b, q120c, q120d, q120e, q120f, p120_l, p120_r, p120_s, q240a, q240b, q240c, q240d, q240e, q240f, p240_l, p240_r, p240_s, q243a, q243b, q243c, q243d, q243e, q243f, p243_l, p243_r, p243_s, q244a, q244b, q244c, q244d, q244e, q244f, p244_l, p244_r, p244_s, q580a, q580b, q580c, q580d, q580e, q580f, p580_l, p580_r, p580_s, q581a, q581b, q581c, q581d, q581e, q581f, p581_l, p581_r, p581_s, q582a, q582b, q582c, q582d, q582e, q582f, p582_l, p582_r, p582_s, q583a, q583b, q583c, q583d, q583e, q583f, p583_l, p583_r, p583_s, q584a, q584b, q584c, q584d, q584e, q584f, p584_l, p584_r, p584_s, q585a, q585b, q585c, q585d, q585e, q585f, p585_l, p585_r, p585_s, q586a, q586b, q586c, q586d, q586e, q586f, p586_l, p586_r, p586_s, q999a, q999b, q999c, q999d, q999e, q999f, p999_l, p999_r, p999_s, q1000a, q1000b, q1000c, q1000d, q1000e, q1000f, p1000_l, p1000_r, p1000_s, q2400a, q2400b, q2400c, q2400d, q2400e, q2400f, p2400_l, p2400_r, p2400_s, q9999a, q9999b, q9999c, q9999d, q9999e, q9999f, p9999_l, p9999_r, p9999_s, I00, I01, I10, I11, n_le, n_lt, n_eq, n_cl, n_add, n_ne9, n_ne1, if_true, if_false, Option.bind_some, if_pos, if_neg]
theorem act_mail {q : Nat} {Vc : Mm} (h1 : Vc (89 + 9 * q) 1 = 3) (h2 : Vc (89 + 9 * q) 2 = 1) : eX5_act (89 + 9 * q) (91 + 9 * q) Vc = eX5_makeMail (89 + 9 * q) (91 + 9 * q) Vc := by
  unfold eX5_act
  rw [h1, h2, if_neg (by decide), if_neg (by decide), if_neg (by decide), if_pos rfl, if_neg (by decide), some_pr]
theorem dm_mail {q : Nat} {Vm : Mm} (hq : q < 12) (h21 : Vm 0 21 = nI q) (hk : Vm 6 (5 * q) = 1) : eX6_doMake Vm = eX6_makeMail Vm := by
  unfold eX6_doMake
  rw [show eX6_number 0 Vm = some (Vm 6 (5 * q)) from num_n (k := 0) hq h21 (by omega), hk]
  simp only [Option.bind_some]
  rw [show eX6_within 1 0 1 Vm = some 1 from rfl]
  simp only [Option.bind_some, I10, if_false]
  rw [some_pr]
theorem makeMail_call {q nb nm nt : Nat} {Vc Vm : Mm} (h : CS q Vc Vm nb nm nt) (ht : Vm 5 q = 3) (hk : Vm 6 (5 * q) = 1) : loud q Vc Vm nb nm nt := by
  obtain ⟨hA, hC, hW, hF, hfil, hlog, hinv, hcl, hrow, h2⟩ := id h
  obtain ⟨g1, g2, g3⟩ := id hA
  have hw := WRel_WN hW
  have b20 := hw.b20
  have b50 := hw.m50
  have b3 := hw.tm
  have hM : mkF q Vc Vm 1 := by rw [← hk]; exact mkF_n hC ht
  have hdo : eX6_doCall Vm = eX6_makeMail Vm := by rw [doMake_n g1 g2 ht, some_pr, dm_mail g1 g2 hk]
  have hac := act_mail hM.1 hM.2.1
  have f7 := hM.2.2.2.2.2.2
  rcases mm_check hA hM with ⟨r, r0, r1, r2⟩ | ⟨r1, hD, b, hb, hid, hmm⟩
  · exact ⟨r, Vc, Vm, callC_r r1 r0, by rw [hdo, r2], frC_rfl, frM_rfl, Or.inr ⟨r0, hW, hcl⟩⟩
  · unfold loud
    rw [callC_0 r1, hac, hdo, hmm]
    unfold eX5_makeMail mmGo
    rw [hid, Option.bind_some, show eX2_isThere 4 (nI b) Vc = _ from isThere_K (κ := 0) hW (by omega) hb, mBox_n hw hb]
    by_cases hth : b < nb ∧ Vm 1 (4 * b) = 1
    · rw [b2i_T (isTh_0.mpr hth), b2i_T hth, Option.bind_some, Option.bind_some, if_neg (show ¬ (1 : Int32) = 0 by decide), if_neg (show ¬ (1 : Int32) = 0 by decide), full_1 hW, Option.bind_some, hw.em]
      by_cases h50 : nm = 50
      · rw [b2i_T h50, if_neg (show ¬ (1 : Int32) = 0 by decide)]
        refine ⟨-4, Vc, Vm, rfl, ?_, frC_rfl, frM_rfl, Or.inr ⟨by decide, hW, hcl⟩⟩
        rw [if_pos (by rw [h50]; rfl)]
      · have hlt : nm < 50 := by omega
        have hn50 : ¬ nI nm = 50 := fun z => h50 ((nI_eq (a := nm) (b := 50) (by omega) (by omega)).mp z)
        rw [b2i_F h50, if_pos (show (0 : Int32) = 0 from rfl), if_neg hn50, add_K (show Vc 28 4 = nI nm from hW.2.2.1.2.1) hlt, Option.bind_some]
        have d4 : Vm 7 (10 * q + 4) ≠ -9 := by
          obtain ⟨x, x1, x2⟩ := hD.2.1
          rw [show Vm 7 (10 * q + 4) = nI x from x2, ne_eq, n_ne9 (by omega)]; exact id
        have d5 : Vm 7 (10 * q + 5) ≠ -9 := by
          obtain ⟨x, x1, x2⟩ := hD.2.2.1
          rw [show Vm 7 (10 * q + 5) = nI x from x2, ne_eq, n_ne9 (by omega)]; exact id
        have d6 : Vm 7 (10 * q + 6) ≠ -9 := by
          obtain ⟨x, x1, x2⟩ := hD.2.2.2.1
          rw [show Vm 7 (10 * q + 6) = nI x from x2, ne_eq, n_ne9 (by omega)]; exact id
        have hthr : eX6_makeMail_b167 fu (nI b) (-9) (nI nm - 1) Vm = mmFin (nI b) (upT (gaB (Vm 1) (Vm 7 (10 * q + 3)) (Vm 7 (10 * q + 4)) (nm9 (Vm 7 (10 * q + 5))) (nm9 (Vm 7 (10 * q + 6)))) (thW (Vm 1)) nm 0) Vm :=
          mthr_b hw g1 g2 d4 d5 d6 nm fu 0 (by omega) (by unfold fu; omega)
        rw [hthr]
        obtain ⟨W, e1, e2, e3, e4⟩ := cols_b (a1 := 89 + 9 * q) (a2 := 91 + 9 * q) (bi := nI b) (D := fun j => Vm 7 (10 * q + j)) (V0 := wr (wr (wr (wr Vc 28 4 (nI (nm + 1))) (28 + 11) nm 1) (28 + 23) nm 1) 28 7 1) hlt (by omega)
          (fun j hj => by rw [wr_ne (by omega), wr_ne (by omega), wr_ne (by omega), wr_ne (by omega)]; exact f7 j hj) 7 fu 0 _ (by omega) (by unfold fu; omega) (fun _ _ => rfl) (fun _ _ _ => rfl) (fun x hx => absurd hx (by omega))
        rw [show eX5_makeMail_b47 fu (89 + 9 * q) (91 + 9 * q) (nI b) (nI nm) 0 _ = _ from e1]
        have oW : ∀ k, (k < 28 ∨ 75 < k) → W k = Vc k := fun k hk => by
          rw [e2 k (by omega), wr_ne (by omega), wr_ne (by omega), wr_ne (by omega), wr_ne (by omega)]
        have oW52 : ∀ k, 52 ≤ k → W k = Vc k := fun k hk => by
          rw [e2 k (by omega), wr_ne (by omega), wr_ne (by omega), wr_ne (by omega), wr_ne (by omega)]
        have o28 : ∀ j, j ≠ 4 → j ≠ 7 → W 28 j = Vc 28 j := fun j a c => by
          rw [e2 28 (by omega), wr_in c, wr_ne (by omega), wr_ne (by omega), wr_in a]
        have w284 : W 28 4 = nI (nm + 1) := by
          rw [e2 28 (by omega), wr_in (by omega), wr_ne (by omega), wr_ne (by omega), wr_at]
        have w287 : W 28 7 = 1 := by rw [e2 28 (by omega), wr_at]
        have w39 : W 39 nm = 1 := by rw [e2 39 (by omega), wr_ne (by omega), wr_ne (by omega), wr_at]
        have w51 : W 51 nm = 1 := by rw [e2 51 (by omega), wr_ne (by omega), wr_at]
        have oWm : ∀ k m, k ≠ 28 → m ≠ nm → W k m = Vc k m := fun k m a c => by
          rw [e3 k m c, wr_ne a]
          by_cases k1 : k = 51
          · subst k1; rw [wr_in c, wr_ne (by omega), wr_ne (by omega)]
          · rw [wr_ne k1]
            by_cases k2 : k = 39
            · subst k2; rw [wr_in c, wr_ne (by omega)]
            · rw [wr_ne k2, wr_ne a]
        have hx9 : upT (gaB (Vm 1) (Vm 7 (10 * q + 3)) (Vm 7 (10 * q + 4)) (nm9 (Vm 7 (10 * q + 5))) (nm9 (Vm 7 (10 * q + 6)))) (thW (Vm 1)) nm 0 = -9 ∨ ∃ t, t < nt ∧ 0 < cntT (Vm 1) nm t ∧ upT (gaB (Vm 1) (Vm 7 (10 * q + 3)) (Vm 7 (10 * q + 4)) (nm9 (Vm 7 (10 * q + 5))) (nm9 (Vm 7 (10 * q + 6)))) (thW (Vm 1)) nm 0 = nI t := by
          rcases upT_cases (p := gaB (Vm 1) (Vm 7 (10 * q + 3)) (Vm 7 (10 * q + 4)) (nm9 (Vm 7 (10 * q + 5))) (nm9 (Vm 7 (10 * q + 6)))) (v := thW (Vm 1)) nm 0 with e | ⟨j, j1, j2, j3, j4⟩
          · exact Or.inl e
          · right
            have hj : j < nm := by omega
            obtain ⟨t, t1, t2⟩ := (hF.2.2.2.2.2.1 j hj).2.2.2.2.1
            have h1 : Vm 1 (80 + 10 * j) = 1 := by
              unfold gaB at j3
              simp at j3
              exact j3.1.1
            exact ⟨t, t1, cntT_pos hj h1 t2, by rw [j4]; exact t2⟩
        have htf : eX5_threadFor (nI nm) (wr W 38 nm ((1 : Int32) <<< (nI b &&& 31))) = some (upT (gaB (Vm 1) (Vm 7 (10 * q + 3)) (Vm 7 (10 * q + 4)) (nm9 (Vm 7 (10 * q + 5))) (nm9 (Vm 7 (10 * q + 6)))) (thW (Vm 1)) nm 0) := by
          refine thrFor_b hlt (fun j hj => ?_) ⟨?_, ?_, ?_, ?_⟩ nm fu 0 (by omega) (by unfold fu; omega)
          · have q0 := (hW.2.2.2.2.2.2.2.1 j hj).1
            have qc := (hW.2.2.2.2.2.2.2.1 j hj).2
            rw [wr_ne (by omega), wr_ne (by omega), wr_ne (by omega), wr_ne (by omega), wr_ne (by omega), wr_ne (by omega), oWm 39 j (by omega) (by omega), oWm 30 j (by omega) (by omega), oWm 31 j (by omega) (by omega), oWm 32 j (by omega) (by omega), oWm 33 j (by omega) (by omega), oWm 37 j (by omega) (by omega)]
            exact ⟨q0, qc 0 (by omega), qc 1 (by omega), qc 2 (by omega), qc 3 (by omega), qc 7 (by omega)⟩
          · rw [wr_ne (by omega)]; exact e4 0 (by omega)
          · rw [wr_ne (by omega)]; exact e4 1 (by omega)
          · rw [wr_ne (by omega)]; exact e4 2 (by omega)
          · rw [wr_ne (by omega)]; exact e4 3 (by omega)
        generalize hxx : upT (gaB (Vm 1) (Vm 7 (10 * q + 3)) (Vm 7 (10 * q + 4)) (nm9 (Vm 7 (10 * q + 5))) (nm9 (Vm 7 (10 * q + 6)))) (thW (Vm 1)) nm 0 = x at *
        have h38 : ∀ k m, k ≠ 38 → (wr W 38 nm ((1 : Int32) <<< (nI b &&& 31))) k m = W k m := fun k m a => by rw [wr_ne a]
        have h38m : ∀ m, m ≠ nm → (wr W 38 nm ((1 : Int32) <<< (nI b &&& 31))) 38 m = W 38 m := fun m a => by rw [wr_in a]
        have h38n : (wr W 38 nm ((1 : Int32) <<< (nI b &&& 31))) 38 nm = nI (2 ^ b) := by rw [wr_at, n_shl20 (by omega)]
        unfold mFin
        rw [bitOf_n hb, Option.bind_some, if_pos (show b < 20 by omega), set_8 hlt, Option.bind_some]
        show ∃ code Vc' Vm', ((eX5_comeToThread (nI nm) (wr W 38 nm ((1 : Int32) <<< (nI b &&& 31)))).bind fun r16 => (eX4_add (91 + 9 * q) 1 (nI nm) r16).bind fun r18 => some (0, r18)) = some (code, Vc') ∧ _
        generalize hW1 : wr W 38 nm ((1 : Int32) <<< (nI b &&& 31)) = W1 at *
        unfold eX5_comeToThread mmFin
        rw [htf, Option.bind_some]
        have dD : ∀ (U : Mm), U 0 = Vm 0 → U 7 = Vm 7 → ∀ k : Nat, k < 10 → eX6_drafted (nI k) U = some (Vm 7 (10 * q + k)) := fun U u0 u7 k hk => by
          rw [← u7]; exact drafted_n g1 (by rw [u0]; exact g2) hk
        rcases hx9 with ex | ⟨t, t1, t2, ex⟩
        · rw [ex, if_pos rfl, if_pos rfl, add_K (show W1 52 4 = nI nt by rw [h38 _ _ (by omega), oW52 52 (by omega)]; exact hW.2.2.1.2.2) (by omega), Option.bind_some, hw.et]
          have z54 : W1 54 nt = 0 := by rw [h38 _ _ (by omega), oW52 54 (by omega)]; exact (hW.2.2.2.2.2.2.2.2.2.2 nt (Nat.le_refl _) (by omega)).2
          have hz : cntT (Vm 1) nm nt = 0 := cntT_none hF b50 b3
          simp only [value_0 (show nt < 50 by omega), set_0 (show nt < 50 by omega), set_7 hlt, Option.bind_some, Nat.reduceAdd]
          simp (disch := omega) only [wr_ne, z54]
          rw [b240_n (U := wr Vm 1 582 (nI nt + 1)) (q := q) (D := fun j => Vm 7 (10 * q + j)) hlt (dD _ (by rw [wr_ne (by omega)]) (by rw [wr_ne (by omega)])) (by rw [wr_ne (by omega)]; exact g2) (by rw [wr_in (by omega)]; exact hw.em)]
          obtain ⟨k1, k2, k3, k4⟩ := mkM_e (U := wr Vm 1 582 (nI nt + 1)) (D := fun j => Vm 7 (10 * q + j)) (x := nI nt) (y := (1 : Int32) <<< (nI b &&& 31)) hlt
          refine mm_end h hlt hD hth.1 hth.2 (nt' := nt + 1) (t := nt) (Or.inr ⟨rfl, rfl⟩) (fun k a => by rw [mkM_1 a, wr_ne a]) (fun k _ a c d => by rw [mkM_o a d, wr_in c]) k1 (by rw [mkM_o (by omega) (by omega), wr_at]; exact n_add nt 1) k2 (fun c hc => mkM_c hc) k3 (k4.trans (n_shl20 (by omega)))
            (fun k a => ?_) ?_ ?_ ?_ ?_ ?_ ?_ ?_ ?_ (fun c m a d => ?_) ?_ (fun c a => ?_) ?_ ?_ (fun x a => ⟨?_, ?_⟩) ?_ ?_ ?_ (fun i a => ?_) ?_ (fun i a => ?_)
          · simp (disch := omega) only [wr_ne]
            rw [← hW1, wr_ne (by omega)]; exact oW k a
          · simp (disch := omega) only [wr_ne]
            rw [h38 _ _ (by omega)]; exact o28 3 (by omega) (by omega)
          · simp (disch := omega) only [wr_ne]
            rw [h38 _ _ (by omega)]; exact w284
          · simp (disch := omega) only [wr_ne]
            rw [h38 _ _ (by omega)]; exact o28 6 (by omega) (by omega)
          · simp (disch := omega) only [wr_ne]
            rw [h38 _ _ (by omega)]; exact w287
          · simp (disch := omega) only [wr_ne, wr_in]
            rw [h38 _ _ (by omega), oW52 52 (by omega)]
          · simp (disch := omega) only [wr_ne, wr_in, wr_at]
          · simp (disch := omega) only [wr_ne, wr_in]
            rw [h38 _ _ (by omega), oW52 52 (by omega)]
          · simp (disch := omega) only [wr_ne, wr_at]
          · by_cases e7 : c = 7
            · subst e7
              simp (disch := omega) only [wr_ne, wr_in, Nat.reduceAdd]
              rw [h38 _ _ (by omega)]; exact oWm 37 m (by omega) d
            · by_cases e8 : c = 8
              · subst e8
                simp (disch := omega) only [wr_ne, Nat.reduceAdd]
                rw [h38m m d]; exact oWm 38 m (by omega) d
              · simp (disch := omega) only [wr_ne]
                rw [h38 _ _ (by omega)]; exact oWm (30 + c) m (by omega) d
          · simp (disch := omega) only [wr_ne]
            rw [h38 _ _ (by omega)]; exact w39
          · simp (disch := omega) only [wr_ne]
            rw [h38 _ _ (by omega)]; exact e4 c a
          · rw [wr_at]
          · simp (disch := omega) only [wr_ne]
            exact h38n
          · simp (disch := omega) only [wr_ne, wr_in]
            rw [h38 _ _ (by omega), oW52 54 (by omega)]
          · simp (disch := omega) only [wr_ne, wr_in]
            rw [h38 _ _ (by omega), oW52 63 (by omega)]
          · simp (disch := omega) only [wr_ne, wr_at]
            rw [hz]; rfl
          · simp (disch := omega) only [wr_ne, wr_at]
          · simp (disch := omega) only [wr_ne]
            rw [h38 _ _ (by omega)]; exact w51
          · simp (disch := omega) only [wr_ne]
            rw [h38 _ _ (by omega)]; exact oWm 51 i (by omega) a
          · simp (disch := omega) only [wr_ne, wr_at]
            rw [if_neg (by omega)]; rfl
          · simp (disch := omega) only [wr_ne, wr_in]
            rw [h38 _ _ (by omega), oW52 75 (by omega)]
        · have n9 : ¬ nI t = -9 := by rw [n_ne9 (by omega)]; exact id
          rw [ex, if_neg n9, if_neg n9]
          have z54 : W1 54 t = nI (cntT (Vm 1) nm t) := by rw [h38 _ _ (by omega), oW52 54 (by omega)]; exact (hW.2.2.2.2.2.2.2.2.2.1 t t1).1
          have z63 : W1 63 t = 1 := by rw [h38 _ _ (by omega), oW52 63 (by omega), (hW.2.2.2.2.2.2.2.2.2.1 t t1).2]; exact b2i_T t2
          simp only [touch_n (show t < 50 by omega), value_0 (show t < 50 by omega), set_0 (show t < 50 by omega), set_7 hlt, Option.bind_some, Nat.reduceAdd]
          simp (disch := omega) only [wr_ne, z54]
          rw [b240_n (U := Vm) (q := q) (D := fun j => Vm 7 (10 * q + j)) hlt (dD _ rfl rfl) g2 hw.em]
          obtain ⟨k1, k2, k3, k4⟩ := mkM_e (U := Vm) (D := fun j => Vm 7 (10 * q + j)) (x := nI t) (y := (1 : Int32) <<< (nI b &&& 31)) hlt
          refine mm_end h hlt hD hth.1 hth.2 (nt' := nt) (t := t) (Or.inl ⟨rfl, t1, t2⟩) (fun k a => mkM_1 a) (fun k _ a c d => mkM_o a d) k1 (by rw [mkM_o (by omega) (by omega)]; exact hw.et) k2 (fun c hc => mkM_c hc) k3 (k4.trans (n_shl20 (by omega)))
            (fun k a => ?_) ?_ ?_ ?_ ?_ ?_ ?_ ?_ ?_ (fun c m a d => ?_) ?_ (fun c a => ?_) ?_ ?_ (fun x a => ⟨?_, ?_⟩) ?_ ?_ ?_ (fun i a => ?_) ?_ (fun i a => ?_)
          · simp (disch := omega) only [wr_ne]
            rw [← hW1, wr_ne (by omega)]; exact oW k a
          · simp (disch := omega) only [wr_ne]
            rw [h38 _ _ (by omega)]; exact o28 3 (by omega) (by omega)
          · simp (disch := omega) only [wr_ne]
            rw [h38 _ _ (by omega)]; exact w284
          · simp (disch := omega) only [wr_ne]
            rw [h38 _ _ (by omega)]; exact o28 6 (by omega) (by omega)
          · simp (disch := omega) only [wr_ne]
            rw [h38 _ _ (by omega)]; exact w287
          · simp (disch := omega) only [wr_ne, wr_in]
            rw [h38 _ _ (by omega), oW52 52 (by omega)]
          · simp (disch := omega) only [wr_ne, wr_in]
            rw [h38 _ _ (by omega), oW52 52 (by omega)]; exact hW.2.2.1.2.2
          · simp (disch := omega) only [wr_ne, wr_in]
            rw [h38 _ _ (by omega), oW52 52 (by omega)]
          · simp (disch := omega) only [wr_ne, wr_at]
          · by_cases e7 : c = 7
            · subst e7
              simp (disch := omega) only [wr_ne, wr_in, Nat.reduceAdd]
              rw [h38 _ _ (by omega)]; exact oWm 37 m (by omega) d
            · by_cases e8 : c = 8
              · subst e8
                simp (disch := omega) only [wr_ne, Nat.reduceAdd]
                rw [h38m m d]; exact oWm 38 m (by omega) d
              · simp (disch := omega) only [wr_ne]
                rw [h38 _ _ (by omega)]; exact oWm (30 + c) m (by omega) d
          · simp (disch := omega) only [wr_ne]
            rw [h38 _ _ (by omega)]; exact w39
          · simp (disch := omega) only [wr_ne]
            rw [h38 _ _ (by omega)]; exact e4 c a
          · rw [wr_at]
          · simp (disch := omega) only [wr_ne]
            exact h38n
          · simp (disch := omega) only [wr_ne, wr_in]
            rw [h38 _ _ (by omega), oW52 54 (by omega)]
          · simp (disch := omega) only [wr_ne]
            rw [h38 _ _ (by omega), oW52 63 (by omega)]
          · simp (disch := omega) only [wr_ne, wr_at]
            exact n_add _ 1
          · simp (disch := omega) only [wr_ne]
            exact z63
          · simp (disch := omega) only [wr_ne]
            rw [h38 _ _ (by omega)]; exact w51
          · simp (disch := omega) only [wr_ne]
            rw [h38 _ _ (by omega)]; exact oWm 51 i (by omega) a
          · simp (disch := omega) only [wr_ne, wr_at]
            rw [if_pos trivial]; rfl
          · simp (disch := omega) only [wr_ne, wr_in]
            rw [h38 _ _ (by omega), oW52 75 (by omega)]
    · rw [b2i_F (fun z => hth (isTh_0.mp z)), b2i_F hth]
      exact ⟨-1, Vc, Vm, rfl, rfl, frC_rfl, frM_rfl, Or.inr ⟨by decide, hW, hcl⟩⟩
theorem make_call {q nb nm nt : Nat} {Vc Vm : Mm} (h : CS q Vc Vm nb nm nt) (ht : Vm 5 q = 3) : loud q Vc Vm nb nm nt := by
  by_cases h0 : Vm 6 (5 * q) = 0
  · exact makeBox_call h ht h0
  · by_cases h1 : Vm 6 (5 * q) = 1
    · exact makeMail_call h ht h1
    · exact mk_bad h ht h0 h1
