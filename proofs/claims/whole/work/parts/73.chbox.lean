
/-! CHANGE of a box -/
theorem WF_bx {W : Mm} {nb nm nt x p : Nat} {y : Int32} {d : Nat → Nat} (hF : WF (W 1) nb nm nt) (h20 : nb ≤ 20) (h50 : nm ≤ 50) (hx : x < nb) (h1 : 1 ≤ p) (hp : p < 4) (hpar : parOK (wr W 1 (4 * x + p) y 1) nb) (hd : dpt (wr W 1 (4 * x + p) y 1) nb d)
    (hn : ¬ nmdB (W 1) nb (nI x) (wr W 1 (4 * x + p) y 1 (4 * x + 1)) (wr W 1 (4 * x + p) y 1 (4 * x + 2)) = true) : WF (wr W 1 (4 * x + p) y 1) nb nm nt := by
  have o0 : ∀ b, wr W 1 (4 * x + p) y 1 (4 * b) = W 1 (4 * b) := fun b => by rw [wr_in (by omega)]
  have oc : ∀ b c, b ≠ x → c < 4 → wr W 1 (4 * x + p) y 1 (4 * b + c) = W 1 (4 * b + c) := fun b c hb hc => by rw [wr_in (by omega)]
  have key : ∀ c, c < nb → c ≠ x → W 1 (4 * c) = 1 → wr W 1 (4 * x + p) y 1 (4 * x + 2) = W 1 (4 * c + 2) → wr W 1 (4 * x + p) y 1 (4 * x + 1) ≠ W 1 (4 * c + 1) := fun c hc hcx k1 k2 k3 =>
    hn (nmdB_iff.mpr ⟨c, hc, fun z => hcx ((nI_eq (by omega) (by omega)).mp z), k1, k3.symm, k2.symm⟩)
  refine WF_box hF h50 (fun k a b => by rw [wr_in (by omega)]) (fun b hb => by rw [o0 b]; exact hF.1 b hb) hpar ⟨d, hd⟩ (fun b c hb hc hbc e1 e2 e3 => ?_) (fun b m hb e1 _ _ _ => ⟨hb, by rw [o0 b]; exact e1⟩)
  rw [o0] at e1 e2
  by_cases eb : b = x
  · subst eb
    have ec : c ≠ b := fun z => hbc z.symm
    rw [oc c 2 ec (by omega)] at e3
    rw [oc c 1 ec (by omega)]
    exact key c hc ec e2 e3
  · by_cases ec : c = x
    · subst ec
      rw [oc b 2 eb (by omega)] at e3
      rw [oc b 1 eb (by omega)]
      exact fun z => key b hb eb e1 e3.symm z.symm
    · rw [oc b 2 eb (by omega), oc c 2 ec (by omega)] at e3
      rw [oc b 1 eb (by omega), oc c 1 ec (by omega)]
      exact hF.2.2.2.1 b c hb hc hbc e1 e2 e3
theorem b35_n {V W : Mm} {nb nm nt x c : Nat} {y : Int32} (hW : WRel V (W 1) nb nm nt) (hx : x < nb) (hc : c < 3) (hpar : parOK (wr W 1 (4 * x + (c + 1)) y 1) nb) :
    (y = W 1 (4 * x + (c + 1)) → eX5_changeBox_b35 (nI x) (nI c) y V = some (0, V)) ∧
    (y ≠ W 1 (4 * x + (c + 1)) → eX5_changeBox_b35 (nI x) (nI c) y V = some (if nmdB (W 1) nb (nI x) (wr W 1 (4 * x + (c + 1)) y 1 (4 * x + 1)) (wr W 1 (4 * x + (c + 1)) y 1 (4 * x + 2)) = true ∨ tdB (wr W 1 (4 * x + (c + 1)) y 1) nb = true then -3 else 0, chW 0 x (c + 1) y V)) := by
  have hwn := WRel_WN hW
  have h20 := hwn.b20
  obtain ⟨q1, q2, q3⟩ := boxCol hW hx
  have hcol : V (4 + 2 + c) x = W 1 (4 * x + (c + 1)) := by
    have : c = 0 ∨ c = 1 ∨ c = 2 := by omega
    rcases this with rfl | rfl | rfl
    · exact q1
    · exact q2
    · exact q3
  unfold eX5_changeBox_b35
  rw [value_n (by omega) (by omega), Option.bind_some, hcol]
  constructor
  · intro e; rw [if_pos e.symm]
  · intro e
    have hW1 := WRel_chW (x := x) (p := c + 1) (y := y) hW (show 0 < 2 by omega) hx (by omega) (show c + 1 < 4 by omega) (fun z => absurd z (by omega))
    obtain ⟨r1, r2, r3⟩ := boxCol hW1 hx
    rw [if_neg (fun z => e z.symm), set_n (by omega) (by omega), Option.bind_some, touch_n (by omega), Option.bind_some]
    have hV1 : wr (wr (wr V (4 + 2 + c) x y) (4 + 23) x 2) 4 7 1 = chW 0 x (c + 1) y V := by
      unfold chW
      rw [show oK 0 = 4 from rfl, show 4 + 1 + (c + 1) = 4 + 2 + c by omega]
    rw [hV1, value_0 (show x < 50 by omega), Option.bind_some, value_1 (show x < 50 by omega), Option.bind_some]
    rw [show chW 0 x (c + 1) y V (4 + 2) x = _ from r1, show chW 0 x (c + 1) y V (4 + 3) x = _ from r2, name_n hW1, Option.bind_some, tooDeep_n hW1 hpar, Option.bind_some]
    rw [show recI 0 x (c + 1) = 4 * x + (c + 1) from rfl]
    have hcg := nmdB_congr (w := wr W 1 (4 * x + (c + 1)) y 1) (v := W 1) (nb := nb) (but := nI x) (name := wr W 1 (4 * x + (c + 1)) y 1 (4 * x + 1)) (par := wr W 1 (4 * x + (c + 1)) y 1 (4 * x + 2)) (fun z hz hzx => by
      have : z ≠ x := fun e => hzx (by rw [e])
      exact ⟨by rw [wr_in (by omega)], by rw [wr_in (by omega)], by rw [wr_in (by omega)]⟩)
    by_cases hn : nmdB (W 1) nb (nI x) (wr W 1 (4 * x + (c + 1)) y 1 (4 * x + 1)) (wr W 1 (4 * x + (c + 1)) y 1 (4 * x + 2)) = true
    · rw [b2i_T (hcg.mpr hn), if_neg (show ¬ (1 : Int32) = 0 by decide), if_pos (Or.inl hn)]
    · rw [b2i_F (fun z => hn (hcg.mp z)), if_pos (show (0 : Int32) = 0 from rfl)]
      by_cases ht : tdB (wr W 1 (4 * x + (c + 1)) y 1) nb = true
      · rw [b2i_T ht, if_neg (show ¬ (1 : Int32) = 0 by decide), if_pos (Or.inr ht)]
      · rw [b2i_F ht, if_pos (show (0 : Int32) = 0 from rfl), if_neg (fun z => by rcases z with z | z <;> contradiction)]
theorem wr_id2 {V : Mm} {c k : Nat} {y : Int32} (h : V c k = y) : wr V c k y = V := by rw [← h, wr_id]
theorem b178_n {W : Mm} {x u : Nat} {v par name : Int32} (hx : x < 20) (hu : u ≤ 2) : eX6_changeBox_b178 (nI x) (nI u) v par name W = some (0, if u = 2 then wr (wr (wr W 1 (4 * x + 1) name) 1 (4 * x + 2) par) 1 (4 * x + 3) v else wr (wr W 1 (4 * x + 1) name) 1 (4 * x + 2) par) := by
  unfold eX6_changeBox_b178
  by_cases e : u = 2
  · subst e
    simp (disch := omega) only [q0a, q0b, q0c, q0d, q0e, q0f, p0_l, p0_r, p0_s, q1a, q1b, q1c, q1d, q1e, q1f, p1_l, p1_r, p1_s, q2a, q2b, q2c, q2d, q2e, q2f, p2_l, p2_r, p2_s, q3a, q3b, q3c, q3d, q3e, q3f, p3_l, p3_r, p3_s, q4a, q4b, q4c, q4d, q4e, q4f, p4_l, p4_r, p4_s, p4_m, q5a, q5b, q5c, q5d, q5e, q5f, p5_l, p5_r, p5_s, p5_m, q6a, q6b, q6c, q6d, q6e, q6f, p6_l, p6_r, p6_s, q7a, q7b, q7c, q7d, q7e, q7f, p7_l, p7_r, p7_s, q8a, q8b, q8c, q8d, q8e, q8f, p8_l, p8_r, p8_s, q9a, q9b, q9c, q9d, q9e, q9f, p9_l, p9_r, p9_s, q10a, q10b, q10c, q10d, q10e, q10f, p10_l, p10_r, p10_s, p10_m, q11a, q11b, q11c, q11d, q11e, q11f, p11_l, p11_r, p11_s, q12a, q12b, q12c, q12d, q12e, q12f, p12_l, p12_r, p12_s, q15a, q15b, q15c, q15d, q15e, q15f, p15_l, p15_r, p15_s, q19a, q19b, q19c, q19d, q19e, q19f, p19_l, p19_r, p19_s, q20a, q20b, q20c, q20d, q20e, q20f, p20_l, p20_r, p20_s, q31a, q31b, q31c, q31d, q31e, q31f, p31_l, p31_r, p31_s, q40a, q40b, q40c, q40d, q40e, q40f, p40_l, p40_r, p40_s, q48a, q48b, q48c, q48d, q48e, q48f, p48_l, p48_r, p48_s, q50a, q50b, q50c, q50d, q50e, q50f, p50_l, p50_r, p50_s, p50_m, q52a, q52b, q52c, q52d, q52e, q52f, p52_l, p52_r, p52_s, q60a, q60b, q60c, q60d, q60e, q60f, p60_l, p60_r, p60_s, q63a, q63b, q63c, q63d, q63e, q63f, p63_l, p63_r, p63_s, q80a, q80b, q80c, q80d, q80e, q80f, p80_l, p80_r, p80_s, q99a, q99b, q99c, q99d, q99e, q99f, p99_l, p99_r, p99_s, q100a, q100b, q100c, q100d, q100e, q100f, p100_l, p100_r, p100_s, q120a, q120b, q120c, q120d, q120e, q120f, p120_l, p120_r, p120_s, q240a, q240b, q240c, q240d, q240e, q240f, p240_l, p240_r, p240_s, q243a, q243b, q243c, q243d, q243e, q243f, p243_l, p243_r, p243_s, q244a, q244b, q244c, q244d, q244e, q244f, p244_l, p244_r, p244_s, q580a, q580b, q580c, q580d, q580e, q580f, p580_l, p580_r, p580_s, q581a, q581b, q581c, q581d, q581e, q581f, p581_l, p581_r, p581_s, q582a, q582b, q582c, q582d, q582e, q582f, p582_l, p582_r, p582_s, q583a, q583b, q583c, q583d, q583e, q583f, p583_l, p583_r, p583_s, q584a, q584b, q584c, q584d, q584e, q584f, p584_l, p584_r, p584_s, q585a, q585b, q585c, q585d, q585e, q585f, p585_l, p585_r, p585_s, q586a, q586b, q586c, q586d, q586e, q586f, p586_l, p586_r, p586_s, q999a, q999b, q999c, q999d, q999e, q999f, p999_l, p999_r, p999_s, q1000a, q1000b, q1000c, q1000d, q1000e, q1000f, p1000_l, p1000_r, p1000_s, q2400a, q2400b, q2400c, q2400d, q2400e, q2400f, p2400_l, p2400_r, p2400_s, q9999a, q9999b, q9999c, q9999d, q9999e, q9999f, p9999_l, p9999_r, p9999_s, I00, I01, I10, I11, n_le, n_lt, n_eq, n_cl, n_add, n_ne9, n_ne1, if_true, if_false, Option.bind_some, if_pos, if_neg]
  · simp (disch := omega) only [q0a, q0b, q0c, q0d, q0e, q0f, p0_l, p0_r, p0_s, q1a, q1b, q1c, q1d, q1e, q1f, p1_l, p1_r, p1_s, q2a, q2b, q2c, q2d, q2e, q2f, p2_l, p2_r, p2_s, q3a, q3b, q3c, q3d, q3e, q3f, p3_l, p3_r, p3_s, q4a, q4b, q4c, q4d, q4e, q4f, p4_l, p4_r, p4_s, p4_m, q5a, q5b, q5c, q5d, q5e, q5f, p5_l, p5_r, p5_s, p5_m, q6a, q6b, q6c, q6d, q6e, q6f, p6_l, p6_r, p6_s, q7a, q7b, q7c, q7d, q7e, q7f, p7_l, p7_r, p7_s, q8a, q8b, q8c, q8d, q8e, q8f, p8_l, p8_r, p8_s, q9a, q9b, q9c, q9d, q9e, q9f, p9_l, p9_r, p9_s, q10a, q10b, q10c, q10d, q10e, q10f, p10_l, p10_r, p10_s, p10_m, q11a, q11b, q11c, q11d, q11e, q11f, p11_l, p11_r, p11_s, q12a, q12b, q12c, q12d, q12e, q12f, p12_l, p12_r, p12_s, q15a, q15b, q15c, q15d, q15e, q15f, p15_l, p15_r, p15_s, q19a, q19b, q19c, q19d, q19e, q19f, p19_l, p19_r, p19_s, q20a, q20b, q20c, q20d, q20e, q20f, p20_l, p20_r, p20_s, q31a, q31b, q31c, q31d, q31e, q31f, p31_l, p31_r, p31_s, q40a, q40b, q40c, q40d, q40e, q40f, p40_l, p40_r, p40_s, q48a, q48b, q48c, q48d, q48e, q48f, p48_l, p48_r, p48_s, q50a, q50b, q50c, q50d, q50e, q50f, p50_l, p50_r, p50_s, p50_m, q52a, q52b, q52c, q52d, q52e, q52f, p52_l, p52_r, p52_s, q60a, q60b, q60c, q60d, q60e, q60f, p60_l, p60_r, p60_s, q63a, q63b, q63c, q63d, q63e, q63f, p63_l, p63_r, p63_s, q80a, q80b, q80c, q80d, q80e, q80f, p80_l, p80_r, p80_s, q99a, q99b, q99c, q99d, q99e, q99f, p99_l, p99_r, p99_s, q100a, q100b, q100c, q100d, q100e, q100f, p100_l, p100_r, p100_s, q120a, q120b, q120c, q120d, q120e, q120f, p120_l, p120_r, p120_s, q240a, q240b, q240c, q240d, q240e, q240f, p240_l, p240_r, p240_s, q243a, q243b, q243c, q243d, q243e, q243f, p243_l, p243_r, p243_s, q244a, q244b, q244c, q244d, q244e, q244f, p244_l, p244_r, p244_s, q580a, q580b, q580c, q580d, q580e, q580f, p580_l, p580_r, p580_s, q581a, q581b, q581c, q581d, q581e, q581f, p581_l, p581_r, p581_s, q582a, q582b, q582c, q582d, q582e, q582f, p582_l, p582_r, p582_s, q583a, q583b, q583c, q583d, q583e, q583f, p583_l, p583_r, p583_s, q584a, q584b, q584c, q584d, q584e, q584f, p584_l, p584_r, p584_s, q585a, q585b, q585c, q585d, q585e, q585f, p585_l, p585_r, p585_s, q586a, q586b, q586c, q586d, q586e, q586f, p586_l, p586_r, p586_s, q999a, q999b, q999c, q999d, q999e, q999f, p999_l, p999_r, p999_s, q1000a, q1000b, q1000c, q1000d, q1000e, q1000f, p1000_l, p1000_r, p1000_s, q2400a, q2400b, q2400c, q2400d, q2400e, q2400f, p2400_l, p2400_r, p2400_s, q9999a, q9999b, q9999c, q9999d, q9999e, q9999f, p9999_l, p9999_r, p9999_s, I00, I01, I10, I11, n_le, n_lt, n_eq, n_cl, n_add, n_ne9, n_ne1, if_true, if_false, Option.bind_some, if_pos, if_neg]
theorem own_name {w : Nat → Int32} {nb nm nt x : Nat} (hF : WF w nb nm nt) (h20 : nb ≤ 20) (hx : x < nb) (h1 : w (4 * x) = 1) : ¬ nmdB w nb (nI x) (w (4 * x + 1)) (w (4 * x + 2)) = true := by
  intro z
  obtain ⟨b, hb, e1, e2, e3, e4⟩ := nmdB_iff.mp z
  exact hF.2.2.2.1 b x hb hx (fun z => e1 (by rw [z])) e2 h1 e4 e3
theorem chB_0 {V W : Mm} {x nb nm nt : Nat} {v : Int32} (hW : WRel V (W 1) nb nm nt) (hF : WF (W 1) nb nm nt) (hx : x < nb) (h1 : W 1 (4 * x) = 1) : chStep 0 (eX5_changeBox_b35 (nI x) 0 v V) (eX6_changeBox_b154 (nI x) 0 v (W 1 (4 * x + 2)) v W) V W x nb nm nt := by
  have hwn := WRel_WN hW
  have h20 := hwn.b20
  have h50 := hwn.m50
  obtain ⟨d, hd⟩ := hF.2.2.1
  have o0 : ∀ b, wr W 1 (4 * x + 1) v 1 (4 * b) = W 1 (4 * b) := fun b => by rw [wr_in (by omega)]
  have o2 : ∀ b, wr W 1 (4 * x + 1) v 1 (4 * b + 2) = W 1 (4 * b + 2) := fun b => by rw [wr_in (by omega)]
  have hpar : parOK (wr W 1 (4 * x + 1) v 1) nb := fun b hb e => by
    rw [o0] at e; rw [o2]
    rcases hF.2.1 b hb e with z | ⟨q, a, c, f⟩
    · exact Or.inl z
    · exact Or.inr ⟨q, a, c, by rw [o0]; exact f⟩
  have hd' : dpt (wr W 1 (4 * x + 1) v 1) nb d := fun b hb e => by
    rw [o0] at e; rw [o2]; exact hd b hb e
  have n1 : wr W 1 (4 * x + (0 + 1)) v 1 (4 * x + 1) = v := wr_at
  have n2 : wr W 1 (4 * x + (0 + 1)) v 1 (4 * x + 2) = W 1 (4 * x + 2) := o2 x
  obtain ⟨c1, c2⟩ := b35_n (c := 0) hW hx (by omega) hpar
  rw [n1, n2] at c2
  have ht := td_dpt h20 hpar hd'
  have hm : eX6_changeBox_b154 (nI x) 0 v (W 1 (4 * x + 2)) v W = if nmdB (W 1) nb (nI x) v (W 1 (4 * x + 2)) = true then some (-3, W) else some (0, wr W 1 (4 * x + 1) v) := by
    have h2 : ¬ (2 : Int32) ≤ 0 := by decide
    unfold eX6_changeBox_b154
    rw [if_neg h2, mnamed_n hwn, Option.bind_some]
    by_cases hn : nmdB (W 1) nb (nI x) v (W 1 (4 * x + 2)) = true
    · rw [b2i_T hn, if_neg (show ¬ (1 : Int32) = 0 by decide), if_pos hn]
    · rw [b2i_F hn, if_pos (show (0 : Int32) = 0 from rfl), if_neg hn, show eX6_changeBox_b178 (nI x) 0 v (W 1 (4 * x + 2)) v W = _ from b178_n (u := 0) (by omega) (by omega), if_neg (by omega), wr_id2 (by rw [wr_in (by omega)])]
  rw [hm]
  by_cases hn : nmdB (W 1) nb (nI x) v (W 1 (4 * x + 2)) = true
  · rw [if_pos hn]
    left
    refine ⟨-3, 1, v, by decide, by omega, by decide, Or.inr ?_, rfl⟩
    have e : v ≠ W 1 (4 * x + (0 + 1)) := fun z => by
      rw [z] at hn
      exact own_name hF h20 hx h1 hn
    rw [show eX5_changeBox_b35 (nI x) 0 v V = _ from c2 e, if_pos (Or.inl hn)]
  · rw [if_neg hn]
    right
    refine ⟨1, v, by omega, by decide, fun z => absurd z (by omega), isTh_0.mpr ⟨hx, h1⟩, WF_bx hF h20 h50 hx (by omega) (by omega) hpar hd' (by rw [show wr W 1 (4 * x + 1) v 1 (4 * x + 1) = v from wr_at, o2 x]; exact hn), rfl, ?_⟩
    by_cases e : v = W 1 (4 * x + (0 + 1))
    · exact Or.inl ⟨e, c1 e⟩
    · refine Or.inr ⟨e, ?_⟩
      rw [show eX5_changeBox_b35 (nI x) 0 v V = _ from c2 e, if_neg (fun z => by rcases z with z | z <;> contradiction)]
theorem chB_2 {V W : Mm} {x nb nm nt : Nat} {v : Int32} (hW : WRel V (W 1) nb nm nt) (hF : WF (W 1) nb nm nt) (hx : x < nb) (h1 : W 1 (4 * x) = 1) : chStep 0 (eX5_changeBox_b35 (nI x) 2 v V) (eX6_changeBox_b154 (nI x) 2 v (W 1 (4 * x + 2)) (W 1 (4 * x + 1)) W) V W x nb nm nt := by
  have hwn := WRel_WN hW
  have h20 := hwn.b20
  have h50 := hwn.m50
  obtain ⟨d, hd⟩ := hF.2.2.1
  have o0 : ∀ b, wr W 1 (4 * x + 3) v 1 (4 * b) = W 1 (4 * b) := fun b => by rw [wr_in (by omega)]
  have o1 : ∀ b, wr W 1 (4 * x + 3) v 1 (4 * b + 1) = W 1 (4 * b + 1) := fun b => by rw [wr_in (by omega)]
  have o2 : ∀ b, wr W 1 (4 * x + 3) v 1 (4 * b + 2) = W 1 (4 * b + 2) := fun b => by rw [wr_in (by omega)]
  have hpar : parOK (wr W 1 (4 * x + 3) v 1) nb := fun b hb e => by
    rw [o0] at e; rw [o2]
    rcases hF.2.1 b hb e with z | ⟨q, a, c, f⟩
    · exact Or.inl z
    · exact Or.inr ⟨q, a, c, by rw [o0]; exact f⟩
  have hd' : dpt (wr W 1 (4 * x + 3) v 1) nb d := fun b hb e => by
    rw [o0] at e; rw [o2]; exact hd b hb e
  obtain ⟨c1, c2⟩ := b35_n (c := 2) hW hx (by omega) hpar
  rw [show wr W 1 (4 * x + (2 + 1)) v 1 (4 * x + 1) = _ from o1 x, show wr W 1 (4 * x + (2 + 1)) v 1 (4 * x + 2) = _ from o2 x] at c2
  have ht := td_dpt h20 hpar hd'
  have hn := own_name hF h20 hx h1
  have hm : eX6_changeBox_b154 (nI x) 2 v (W 1 (4 * x + 2)) (W 1 (4 * x + 1)) W = some (0, wr W 1 (4 * x + 3) v) := by
    have h2 : (2 : Int32) ≤ 2 := by decide
    unfold eX6_changeBox_b154
    rw [if_pos h2, show eX6_changeBox_b178 (nI x) 2 v (W 1 (4 * x + 2)) (W 1 (4 * x + 1)) W = _ from b178_n (u := 2) (by omega) (by omega), if_pos rfl, wr_id2 (V := W) rfl, wr_id2 (V := W) rfl]
  rw [hm]
  right
  refine ⟨3, v, by omega, by decide, fun z => absurd z (by omega), isTh_0.mpr ⟨hx, h1⟩, WF_bx hF h20 h50 hx (by omega) (by omega) hpar hd' (by rw [o1 x, o2 x]; exact hn), rfl, ?_⟩
  by_cases e : v = W 1 (4 * x + (2 + 1))
  · exact Or.inl ⟨e, c1 e⟩
  · refine Or.inr ⟨e, ?_⟩
    rw [show eX5_changeBox_b35 (nI x) 2 v V = _ from c2 e, if_neg (fun z => by rcases z with z | z <;> contradiction)]
/-- the parent of x becomes v -/
def toP (w : Nat → Int32) (nb : Nat) (S : Nat → Bool) (d : Nat → Nat) (v : Int32) (sv : Bool) (dv : Nat) : Prop := (v = -9 ∧ sv = false ∧ dv = 0) ∨ ∃ p, p < nb ∧ v = nI p ∧ w (4 * p) = 1 ∧ sv = S p ∧ dv = d p
theorem moved {W : Mm} {nb nm nt x dv : Nat} {v : Int32} {d : Nat → Nat} {S : Nat → Bool} {sv : Bool} (hF : WF (W 1) nb nm nt) (h20 : nb ≤ 20) (hx : x < nb) (h1 : W 1 (4 * x) = 1) (hd : dpt (W 1) nb d) (hS : subOK (W 1) nb x S) (hv : toP (W 1) nb S d v sv dv) :
    parOK (wr W 1 (4 * x + 2) v 1) nb ∧ ((sv = true ∨ 4 < 1 + dv + um (W 1) S d x nb) → tdB (wr W 1 (4 * x + 2) v 1) nb = true) ∧ (¬ (sv = true ∨ 4 < 1 + dv + um (W 1) S d x nb) → ∃ d', dpt (wr W 1 (4 * x + 2) v 1) nb d') := by
  have hp := hF.2.1
  have o0 : ∀ b, wr W 1 (4 * x + 2) v 1 (4 * b) = W 1 (4 * b) := fun b => by rw [wr_in (by omega)]
  have o2 : ∀ b, b ≠ x → wr W 1 (4 * x + 2) v 1 (4 * b + 2) = W 1 (4 * b + 2) := fun b hb => by rw [wr_in (by omega)]
  have ox : wr W 1 (4 * x + 2) v 1 (4 * x + 2) = v := wr_at
  have hpar : parOK (wr W 1 (4 * x + 2) v 1) nb := fun b hb e => by
    rw [o0] at e
    by_cases eb : b = x
    · subst eb
      rw [ox]
      rcases hv with ⟨a, -⟩ | ⟨p, a, b2, c, -⟩
      · exact Or.inl a
      · exact Or.inr ⟨p, a, b2, by rw [o0]; exact c⟩
    · rw [o2 b eb]
      rcases hp b hb e with z | ⟨q, a, c, f⟩
      · exact Or.inl z
      · exact Or.inr ⟨q, a, c, by rw [o0]; exact f⟩
  refine ⟨hpar, ?_, ?_⟩
  · by_cases hsv : sv = true
    · intro _
      rcases hv with ⟨-, a, -⟩ | ⟨p, a, b, c, e, -⟩
      · rw [a] at hsv; cases hsv
      · have hSp : S p = true := by rw [← e]; exact hsv
        have loop : ∀ r y, y < nb → W 1 (4 * y) = 1 → S y = true → chl (wr W 1 (4 * x + 2) v 1) r (nI y) = r := by
          intro r
          induction r with
          | zero => intro y _ _ _; rfl
          | succ r ih =>
            intro y hy hy1 hys
            have h9 : ¬ nI y = -9 := by rw [n_ne9 (by omega)]; exact id
            rw [chl, if_neg h9, n_cl (by omega)]
            by_cases ey : y = x
            · subst ey
              have hi := ih p a c hSp
              rw [← b] at hi
              rw [ox, hi]; omega
            · rw [o2 y ey]
              obtain ⟨s1, s2⟩ := hS.2 y hy hy1 ey
              rcases hp y hy hy1 with z | ⟨q, q1, q2, q3⟩
              · rw [s1 z] at hys; cases hys
              · rw [q2, ih q q1 q3 (by rw [← s2 q q1 q2]; exact hys)]; omega
        exact anyB_iff.mpr ⟨x, hx, decide_eq_true ⟨by rw [o0]; exact h1, by rw [loop 5 x hx h1 hS.1]; omega⟩⟩
    · intro hh
      have h4 : 4 < 1 + dv + um (W 1) S d x nb := by
        rcases hh with z | z
        · exact absurd z hsv
        · exact z
      have hd0 : dpt0 (wr W 1 (4 * x + 2) v 1) nb (fun y => if S y = true then d y - d x + 1 + dv else d y) := by
        intro b hb e
        rw [o0] at e
        dsimp only
        by_cases eb : b = x
        · subst eb
          rw [ox, if_pos hS.1]
          refine ⟨by omega, fun z => ?_, fun q hq z => ?_⟩
          · rcases hv with ⟨-, -, a⟩ | ⟨p, a, b2, -⟩
            · omega
            · rw [b2, n_ne9 (by omega)] at z; exact z.elim
          · rcases hv with ⟨a, -⟩ | ⟨p, a, b2, c, e2, e3⟩
            · rw [a] at z
              have z2 := z.symm
              rw [n_ne9 (by omega)] at z2
              exact z2.elim
            · rw [b2] at z
              have : p = q := (nI_eq (by omega) (by omega)).mp z
              subst this
              rw [if_neg (by rw [← e2]; exact hsv), e3]; omega
        · rw [o2 b eb]
          obtain ⟨s1, s2⟩ := hS.2 b hb e eb
          obtain ⟨d1, d2, d3, d4⟩ := hd b hb e
          refine ⟨?_, fun z => ?_, fun q hq z => ?_⟩
          · split <;> omega
          · rw [s1 z, if_neg (by decide)]; exact d3 z
          · rw [s2 q hq z, d4 q hq z]
            by_cases sq : S q = true
            · rw [if_pos sq, if_pos sq]
              have hq1 : W 1 (4 * q) = 1 := by
                rcases hp b hb e with y | ⟨q2, a, c, f⟩
                · rw [y] at z
                  have z2 := z.symm
                  rw [n_ne9 (by omega)] at z2
                  exact z2.elim
                · rw [c] at z
                  have := (nI_eq (by omega) (by omega)).mp z
                  subst this
                  exact f
              have := (sub_d hp hd hS (d q) q hq hq1 rfl sq).1
              omega
            · rw [if_neg sq, if_neg sq]
      rcases um_ex (w := W 1) (S := S) (d := d) (x := x) nb with z | ⟨y, y1, y2, y3, y4⟩
      · refine anyB_iff.mpr ⟨x, hx, decide_eq_true ⟨by rw [o0]; exact h1, ?_⟩⟩
        rw [chl_d h20 hpar hd0 5 x hx (by rw [o0]; exact h1)]
        rw [if_pos hS.1]; omega
      · refine anyB_iff.mpr ⟨y, y1, decide_eq_true ⟨by rw [o0]; exact y2, ?_⟩⟩
        rw [chl_d h20 hpar hd0 5 y y1 (by rw [o0]; exact y2)]
        rw [if_pos y3]; omega
  · intro hh
    have hsv : ¬ sv = true := fun z => hh (Or.inl z)
    have h4 : 1 + dv + um (W 1) S d x nb ≤ 4 := by
      rcases Nat.lt_or_ge 4 (1 + dv + um (W 1) S d x nb) with z | z
      · exact absurd (Or.inr z) hh
      · exact z
    refine ⟨fun y => if S y = true then d y - d x + 1 + dv else d y, fun b hb e => ?_⟩
    rw [o0] at e
    dsimp only
    have hle : (if S b = true then d b - d x + 1 + dv else d b) ≤ 4 := by
      by_cases sb : S b = true
      · rw [if_pos sb]
        have := um_ge (w := W 1) (S := S) (d := d) (x := x) nb b hb e sb
        omega
      · rw [if_neg sb]; exact (hd b hb e).2.1
    by_cases eb : b = x
    · subst eb
      rw [ox]
      rw [if_pos hS.1] at hle ⊢
      refine ⟨by omega, hle, fun z => ?_, fun q hq z => ?_⟩
      · rcases hv with ⟨-, -, a⟩ | ⟨p, a, b2, -⟩
        · omega
        · rw [b2, n_ne9 (by omega)] at z; exact z.elim
      · rcases hv with ⟨a, -⟩ | ⟨p, a, b2, c, e2, e3⟩
        · rw [a] at z
          have z2 := z.symm
          rw [n_ne9 (by omega)] at z2
          exact z2.elim
        · rw [b2] at z
          have : p = q := (nI_eq (by omega) (by omega)).mp z
          subst this
          rw [if_neg (by rw [← e2]; exact hsv), e3]; omega
    · rw [o2 b eb]
      obtain ⟨s1, s2⟩ := hS.2 b hb e eb
      obtain ⟨d1, d2, d3, d4⟩ := hd b hb e
      refine ⟨?_, hle, fun z => ?_, fun q hq z => ?_⟩
      · split <;> omega
      · rw [s1 z, if_neg (by decide)]; exact d3 z
      · rw [s2 q hq z, d4 q hq z]
        by_cases sq : S q = true
        · rw [if_pos sq, if_pos sq]
          have hq1 : W 1 (4 * q) = 1 := by
            rcases hp b hb e with y | ⟨q2, a, c, f⟩
            · rw [y] at z
              have z2 := z.symm
              rw [n_ne9 (by omega)] at z2
              exact z2.elim
            · rw [c] at z
              have := (nI_eq (by omega) (by omega)).mp z
              subst this
              exact f
          have := (sub_d hp hd hS (d q) q hq hq1 rfl sq).1
          omega
        · rw [if_neg sq, if_neg sq]
theorem fin_n {W : Mm} {nb nm nt x dv : Nat} {v name : Int32} {d : Nat → Nat} {S : Nat → Bool} {sv : Bool} (hw : WN (W 1) nb nm nt) (hp : parOK (W 1) nb) (hd : dpt (W 1) nb d) (hS : subOK (W 1) nb x S) (hx : x < nb) (hv : toP (W 1) nb S d v sv dv) (hdv : dv ≤ 4) :
    eX6_changeBox_b82 fu (nI x) 1 v v name v W = if sv = true ∨ 4 < 1 + dv + um (W 1) S d x nb then some (-3, W) else eX6_changeBox_b154 (nI x) 1 v v name W := by
  have h20 := hw.b20
  have hum := um_le (w := W 1) (S := S) (x := x) hd nb (Nat.le_refl _)
  have hfin : finM (nI x) 1 v v name W = if 4 < 1 + dv + um (W 1) S d x nb then some (-3, W) else eX6_changeBox_b154 (nI x) 1 v v name W := by
    unfold finM
    rw [under_n hw hp hd hS hx]
    rcases hv with ⟨a, -, b⟩ | ⟨p, a, b, c, -, e⟩
    · rw [if_pos a, Option.bind_some, show ((1 : Int32) + 0) = nI 1 from rfl, n_add, b]
      by_cases g : 4 < 1 + 0 + um (W 1) S d x nb
      · rw [if_pos g, if_neg (by rw [show (4 : Int32) = nI 4 from rfl, n_le (by omega) (by omega)]; omega)]
      · rw [if_neg g, if_pos (by rw [show (4 : Int32) = nI 4 from rfl, n_le (by omega) (by omega)]; omega)]
    · have h9 : ¬ v = -9 := by rw [b, n_ne9 (by omega)]; exact id
      rw [if_neg h9]
      rw [show eX6_deep 1 v W = some (nI (d p)) by rw [b]; exact depth_mn hw hp hd a c, Option.bind_some, Option.bind_some, show (1 : Int32) = nI 1 from rfl, n_add, n_add, ← e]
      by_cases g : 4 < 1 + dv + um (W 1) S d x nb
      · rw [if_pos g, if_neg (by rw [show (4 : Int32) = nI 4 from rfl, n_le (by omega) (by omega)]; omega)]
      · rw [if_neg g, if_pos (by rw [show (4 : Int32) = nI 4 from rfl, n_le (by omega) (by omega)]; omega)]
  rcases id hv with ⟨a, b, c⟩ | ⟨p, a, b, c, e, e2⟩
  · have : eX6_changeBox_b82 fu (nI x) 1 v v name v W = finM (nI x) 1 v v name W := by
      show eX6_changeBox_b82 (2999 + 1) (nI x) 1 v v name v W = _
      rw [eX6_changeBox_b82, if_pos a]
      rfl
    rw [this, hfin, b]
    by_cases g : 4 < 1 + dv + um (W 1) S d x nb
    · rw [if_pos g, if_pos (Or.inr g)]
    · rw [if_neg g, if_neg (fun z => by rcases z with z | z <;> contradiction)]
  · have : eX6_changeBox_b82 fu (nI x) 1 v v name v W = if S p = true then some (-3, W) else finM (nI x) 1 v v name W := by
      have hh := way_m (u := 1) (v := v) (par := v) (name := name) hw hp hd hS hx (d p) p fu a c rfl (by have := (hd p a c).2.1; unfold fu; omega)
      rw [← b] at hh
      exact hh
    rw [this, hfin, ← e]
    by_cases g : sv = true
    · rw [if_pos g, if_pos (Or.inl g)]
    · rw [if_neg g]
      by_cases g2 : 4 < 1 + dv + um (W 1) S d x nb
      · rw [if_pos g2, if_pos (Or.inr g2)]
      · rw [if_neg g2, if_neg (fun z => by rcases z with z | z <;> contradiction)]
theorem chB_1 {V W : Mm} {x nb nm nt : Nat} {v : Int32} (hW : WRel V (W 1) nb nm nt) (hF : WF (W 1) nb nm nt) (hx : x < nb) (h1 : W 1 (4 * x) = 1) (hv : v = -9 ∨ ∃ p, p < nb ∧ v = nI p ∧ W 1 (4 * p) = 1) : chStep 0 (eX5_changeBox_b35 (nI x) 1 v V) (eX6_changeBox_b82 fu (nI x) 1 v v (W 1 (4 * x + 1)) v W) V W x nb nm nt := by
  have hwn := WRel_WN hW
  have h20 := hwn.b20
  have h50 := hwn.m50
  obtain ⟨d, hd⟩ := hF.2.2.1
  obtain ⟨S, hS⟩ := sub_ex (x := x) h20 hF.2.1 hd
  have hP : ∃ sv dv, toP (W 1) nb S d v sv dv ∧ dv ≤ 4 := by
    rcases hv with e | ⟨p, a, b, c⟩
    · exact ⟨false, 0, Or.inl ⟨e, rfl, rfl⟩, by omega⟩
    · exact ⟨S p, d p, Or.inr ⟨p, a, b, c, rfl, rfl⟩, (hd p a c).2.1⟩
  obtain ⟨sv, dv, hto, hdv⟩ := hP
  obtain ⟨hpar, hbad, hgood⟩ := moved hF h20 hx h1 hd hS hto
  have n1 : wr W 1 (4 * x + (1 + 1)) v 1 (4 * x + 1) = W 1 (4 * x + 1) := by rw [wr_in (by omega)]
  have n2 : wr W 1 (4 * x + (1 + 1)) v 1 (4 * x + 2) = v := wr_at
  obtain ⟨c1, c2⟩ := b35_n (c := 1) hW hx (by omega) hpar
  rw [n1, n2] at c2
  rw [fin_n hwn hF.2.1 hd hS hx hto hdv]
  have h154 : eX6_changeBox_b154 (nI x) 1 v v (W 1 (4 * x + 1)) W = if nmdB (W 1) nb (nI x) (W 1 (4 * x + 1)) v = true then some (-3, W) else some (0, wr W 1 (4 * x + 2) v) := by
    have h2 : ¬ (2 : Int32) ≤ 1 := by decide
    unfold eX6_changeBox_b154
    rw [if_neg h2, mnamed_n hwn, Option.bind_some]
    by_cases hn : nmdB (W 1) nb (nI x) (W 1 (4 * x + 1)) v = true
    · rw [b2i_T hn, if_neg (show ¬ (1 : Int32) = 0 by decide), if_pos hn]
    · rw [b2i_F hn, if_pos (show (0 : Int32) = 0 from rfl), if_neg hn, show eX6_changeBox_b178 (nI x) 1 v v (W 1 (4 * x + 1)) W = _ from b178_n (u := 1) (by omega) (by omega), if_neg (by omega), wr_id2 (V := W) rfl]
  rw [h154]
  by_cases e : v = W 1 (4 * x + (1 + 1))
  · -- nothing other
    have hsame : wr W 1 (4 * x + 2) v = W := wr_id2 e.symm
    have hok : ¬ (sv = true ∨ 4 < 1 + dv + um (W 1) S d x nb) := fun z => by
      have := hbad z
      rw [hsame] at this
      exact td_dpt h20 hF.2.1 hd this
    have hn : ¬ nmdB (W 1) nb (nI x) (W 1 (4 * x + 1)) v = true := by rw [e]; exact own_name hF h20 hx h1
    rw [if_neg hok, if_neg hn]
    right
    exact ⟨2, v, by omega, by decide, fun z => absurd z (by omega), isTh_0.mpr ⟨hx, h1⟩, by rw [show recI 0 x 2 = 4 * x + 2 from rfl, hsame]; exact hF, rfl, Or.inl ⟨e, c1 e⟩⟩
  · have e2 := c2 e
    by_cases hok : sv = true ∨ 4 < 1 + dv + um (W 1) S d x nb
    · rw [if_pos hok]
      left
      refine ⟨-3, 2, v, by decide, by omega, by decide, Or.inr ?_, rfl⟩
      rw [show eX5_changeBox_b35 (nI x) 1 v V = _ from e2, if_pos (Or.inr (hbad hok))]
    · rw [if_neg hok]
      obtain ⟨d', hd'⟩ := hgood hok
      have ht := td_dpt h20 hpar hd'
      by_cases hn : nmdB (W 1) nb (nI x) (W 1 (4 * x + 1)) v = true
      · rw [if_pos hn]
        left
        refine ⟨-3, 2, v, by decide, by omega, by decide, Or.inr ?_, rfl⟩
        rw [show eX5_changeBox_b35 (nI x) 1 v V = _ from e2, if_pos (Or.inl hn)]
      · rw [if_neg hn]
        right
        refine ⟨2, v, by omega, by decide, fun z => absurd z (by omega), isTh_0.mpr ⟨hx, h1⟩, WF_bx hF h20 h50 hx (by omega) (by omega) hpar hd' (by rw [show wr W 1 (4 * x + 2) v 1 (4 * x + 1) = _ from n1, show wr W 1 (4 * x + 2) v 1 (4 * x + 2) = _ from n2]; exact hn), rfl, Or.inr ⟨e, ?_⟩⟩
        rw [show eX5_changeBox_b35 (nI x) 1 v V = _ from e2, if_neg (fun z => by rcases z with z | z <;> contradiction)]
theorem chB_step {V W : Mm} {x u nb nm nt : Nat} {v : Int32} (hW : WRel V (W 1) nb nm nt) (hF : WF (W 1) nb nm nt) (hx : x < 2147483648) (hu : u ≤ 2) (hv : u = 1 → v = -9 ∨ ∃ p, p < 2147483648 ∧ v = nI p) :
    chStep 0 (cfC 0 (nI x) (nI u) v V) (cfM 0 (nI x) (nI u) v W) V W x nb nm nt := by
  have hwn := WRel_WN hW
  have h20 := hwn.b20
  unfold cfC cfM
  rw [if_pos rfl, if_pos rfl]
  unfold eX5_changeBox eX6_changeBox
  rw [show eX2_isThere 4 (nI x) V = _ from isThere_K (κ := 0) hW (by omega) hx, mBox_n hwn hx]
  by_cases hth : x < nb ∧ W 1 (4 * x) = 1
  · have p1 : eX6_boxPart 1 (nI x) 1 W = some (W 1 (4 * x + 1)) := boxPart_n (c := 1) (by omega) (by omega)
    have p2 : eX6_boxPart 1 (nI x) 2 W = some (W 1 (4 * x + 2)) := boxPart_n (c := 2) (by omega) (by omega)
    rw [b2i_T (isTh_0.mpr hth), b2i_T hth, Option.bind_some, Option.bind_some, if_neg (show ¬ (1 : Int32) = 0 by decide), if_neg (show ¬ (1 : Int32) = 0 by decide), p2, Option.bind_some, p1, Option.bind_some]
    have hus : u = 0 ∨ u = 1 ∨ u = 2 := by omega
    rcases hus with rfl | rfl | rfl
    · rw [if_neg (show ¬ nI 0 = 1 by decide), if_pos (show nI 0 = 0 from rfl)]
      exact chB_0 hW hF hth.1 hth.2
    · rw [if_pos (show nI 1 = 1 from rfl), if_neg (show ¬ nI 1 = 0 by decide), if_pos (show nI 1 = 1 from rfl)]
      rcases hv rfl with e | ⟨p, hp, e⟩
      · rw [if_pos e, if_pos e]
        exact chB_1 hW hF hth.1 hth.2 (Or.inl e)
      · have h9 : ¬ v = -9 := by rw [e, n_ne9 (by omega)]; exact id
        rw [if_neg h9, if_neg h9]
        have ec : eX2_isThere 4 v V = some (b2i (isTh (W 1) nb nm nt 0 p)) := by rw [e]; exact isThere_K (κ := 0) hW (by omega) hp
        have em : eX6_isBox 1 v W = some (b2i (p < nb ∧ W 1 (4 * p) = 1)) := by rw [e]; exact mBox_n hwn hp
        rw [ec, em]
        by_cases hb : p < nb ∧ W 1 (4 * p) = 1
        · rw [b2i_T (isTh_0.mpr hb), b2i_T hb, Option.bind_some, Option.bind_some, if_neg (show ¬ (1 : Int32) = 0 by decide), if_neg (show ¬ (1 : Int32) = 0 by decide)]
          exact chB_1 hW hF hth.1 hth.2 (Or.inr ⟨p, hb.1, e, hb.2⟩)
        · rw [b2i_F (fun z => hb (isTh_0.mp z)), b2i_F hb]
          exact Or.inl ⟨-1, 1, 0, by decide, by omega, by decide, Or.inl rfl, rfl⟩
    · rw [if_neg (show ¬ nI 2 = 1 by decide), if_neg (show ¬ nI 2 = 0 by decide), if_neg (show ¬ nI 2 = 1 by decide)]
      exact chB_2 hW hF hth.1 hth.2
  · rw [b2i_F (fun z => hth (isTh_0.mp z)), b2i_F hth]
    exact Or.inl ⟨-1, 1, 0, by decide, by omega, by decide, Or.inl rfl, rfl⟩
