theorem in_gw (ws : List Cond) (ps : List Nat) (hp : ws = ps.filterMap (fun i => lw_tbl[i]?)) (h : ws.all goodWord = true) : ∀ w ∈ ws, w ∈ gw := by
  intro w hw
  have h1 := List.all_eq_true.mp h w hw
  rw [hp] at hw
  obtain ⟨i, -, hi⟩ := List.mem_filterMap.mp hw
  exact gw_of (List.mem_of_getElem? hi) h1
theorem inG0 : ∀ w ∈ u_ws RX0 TX0 12, w ∈ gw := in_gw _ [251, 253, 255, 257, 259, 261, 263, 265, 267, 269, 271, 273] (by decide +kernel) (by decide +kernel)
theorem inG1 : ∀ w ∈ u_ws RX1 TX1 4, w ∈ gw := in_gw _ [215, 217, 219, 221] (by decide +kernel) (by decide +kernel)
theorem inG2 : ∀ w ∈ u_ws RX2 TX2 8, w ∈ gw := in_gw _ [159, 161, 163, 165, 167, 169, 171, 173] (by decide +kernel) (by decide +kernel)
theorem inG3 : ∀ w ∈ u_ws RX3 TX3 5, w ∈ gw := in_gw _ [190, 192, 194, 196, 198] (by decide +kernel) (by decide +kernel)
theorem inG4 : ∀ w ∈ u_ws RX4 TX4 3, w ∈ gw := in_gw _ [285, 287, 289] (by decide +kernel) (by decide +kernel)
theorem inG5 : ∀ w ∈ u_ws RX5 TX5 13, w ∈ gw := in_gw _ [305, 307, 309, 311, 313, 315, 317, 319, 321, 323, 325, 327, 329] (by decide +kernel) (by decide +kernel)
theorem inG6 : ∀ w ∈ u_ws RX6 TX6 29, w ∈ gw := in_gw _ [774, 776, 778, 780, 782, 784, 786, 788, 790, 792, 794, 796, 798, 800, 802, 804, 806, 808, 810, 812, 814, 816, 818, 820, 822, 824, 826, 828, 830] (by decide +kernel) (by decide +kernel)
theorem w292 : Cond.fieldLink RX5 9 (TX5 0).1 (TX5 0).2.1 (TX5 0).2.2.1 ∈ gw := gw_of (List.mem_of_getElem? (i := 292) (by decide +kernel)) rfl
theorem fX5_9 : FL RX5 9 5 0 := ⟨RX5, TX5, tyX5, 13, rfl, rfl, by decide, inG5, tyX5_ok, nmX5, rfl, rfl, (fun h => absurd h (by decide)), (fun h => absurd h (by decide)), (fun _ _ => ⟨rfl, rfl⟩), Or.inl w292⟩
theorem w293 : Cond.fieldLink RX5 15 (TX5 1).1 (TX5 1).2.1 (TX5 1).2.2.1 ∈ gw := gw_of (List.mem_of_getElem? (i := 293) (by decide +kernel)) rfl
theorem fX5_15 : FL RX5 15 5 1 := ⟨RX5, TX5, tyX5, 13, rfl, rfl, by decide, inG5, tyX5_ok, nmX5, rfl, rfl, (fun h => absurd h (by decide)), (fun h => absurd h (by decide)), (fun _ _ => ⟨rfl, rfl⟩), Or.inl w293⟩
theorem w294 : Cond.fieldLink RX5 21 (TX5 2).1 (TX5 2).2.1 (TX5 2).2.2.1 ∈ gw := gw_of (List.mem_of_getElem? (i := 294) (by decide +kernel)) rfl
theorem fX5_21 : FL RX5 21 5 2 := ⟨RX5, TX5, tyX5, 13, rfl, rfl, by decide, inG5, tyX5_ok, nmX5, rfl, rfl, (fun h => absurd h (by decide)), (fun h => absurd h (by decide)), (fun _ _ => ⟨rfl, rfl⟩), Or.inl w294⟩
theorem w295 : Cond.fieldLink RX5 30 (TX5 3).1 (TX5 3).2.1 (TX5 3).2.2.1 ∈ gw := gw_of (List.mem_of_getElem? (i := 295) (by decide +kernel)) rfl
theorem fX5_30 : FL RX5 30 5 3 := ⟨RX5, TX5, tyX5, 13, rfl, rfl, by decide, inG5, tyX5_ok, nmX5, rfl, rfl, (fun h => absurd h (by decide)), (fun h => absurd h (by decide)), (fun _ _ => ⟨rfl, rfl⟩), Or.inl w295⟩
theorem w296 : Cond.fieldLink RX5 34 (TX5 4).1 (TX5 4).2.1 (TX5 4).2.2.1 ∈ gw := gw_of (List.mem_of_getElem? (i := 296) (by decide +kernel)) rfl
theorem fX5_34 : FL RX5 34 5 4 := ⟨RX5, TX5, tyX5, 13, rfl, rfl, by decide, inG5, tyX5_ok, nmX5, rfl, rfl, (fun h => absurd h (by decide)), (fun h => absurd h (by decide)), (fun _ _ => ⟨rfl, rfl⟩), Or.inl w296⟩
theorem w297 : Cond.fieldLink RX5 37 (TX5 5).1 (TX5 5).2.1 (TX5 5).2.2.1 ∈ gw := gw_of (List.mem_of_getElem? (i := 297) (by decide +kernel)) rfl
theorem fX5_37 : FL RX5 37 5 5 := ⟨RX5, TX5, tyX5, 13, rfl, rfl, by decide, inG5, tyX5_ok, nmX5, rfl, rfl, (fun h => absurd h (by decide)), (fun h => absurd h (by decide)), (fun _ _ => ⟨rfl, rfl⟩), Or.inl w297⟩
theorem w298 : Cond.fieldLink RX5 43 (TX5 6).1 (TX5 6).2.1 (TX5 6).2.2.1 ∈ gw := gw_of (List.mem_of_getElem? (i := 298) (by decide +kernel)) rfl
theorem fX5_43 : FL RX5 43 5 6 := ⟨RX5, TX5, tyX5, 13, rfl, rfl, by decide, inG5, tyX5_ok, nmX5, rfl, rfl, (fun h => absurd h (by decide)), (fun h => absurd h (by decide)), (fun _ _ => ⟨rfl, rfl⟩), Or.inl w298⟩
theorem w299 : Cond.fieldLink RX5 50 (TX5 7).1 (TX5 7).2.1 (TX5 7).2.2.1 ∈ gw := gw_of (List.mem_of_getElem? (i := 299) (by decide +kernel)) rfl
theorem fX5_50 : FL RX5 50 5 7 := ⟨RX5, TX5, tyX5, 13, rfl, rfl, by decide, inG5, tyX5_ok, nmX5, rfl, rfl, (fun h => absurd h (by decide)), (fun h => absurd h (by decide)), (fun _ _ => ⟨rfl, rfl⟩), Or.inl w299⟩
theorem w300 : Cond.fieldLink RX5 54 (TX5 8).1 (TX5 8).2.1 (TX5 8).2.2.1 ∈ gw := gw_of (List.mem_of_getElem? (i := 300) (by decide +kernel)) rfl
theorem fX5_54 : FL RX5 54 5 8 := ⟨RX5, TX5, tyX5, 13, rfl, rfl, by decide, inG5, tyX5_ok, nmX5, rfl, rfl, (fun h => absurd h (by decide)), (fun h => absurd h (by decide)), (fun _ _ => ⟨rfl, rfl⟩), Or.inl w300⟩
theorem w302 : Cond.fieldLink RX5 63 (TX5 10).1 (TX5 10).2.1 (TX5 10).2.2.1 ∈ gw := gw_of (List.mem_of_getElem? (i := 302) (by decide +kernel)) rfl
theorem fX5_63 : FL RX5 63 5 10 := ⟨RX5, TX5, tyX5, 13, rfl, rfl, by decide, inG5, tyX5_ok, nmX5, rfl, rfl, (fun _ => rfl), (fun h => absurd h (by decide)), (fun h => absurd h (by decide)), Or.inl w302⟩
theorem w244 : Cond.fieldLinkNest RX5 71 (TX0 7).1 (TX0 7).2.1 (TX0 7).2.2.1 "MailCore" ∈ nw := nw_of (List.mem_of_getElem? (i := 244) (by decide +kernel)) rfl
theorem fX5_71 : FL RX5 71 0 7 := ⟨RX0, TX0, tyX0, 12, rfl, rfl, by decide, inG0, tyX0_ok, nmX0, rfl, rfl, (fun _ => rfl), (fun h => absurd h (by decide)), (fun h => absurd h (by decide)), Or.inr ⟨_, w244⟩⟩
theorem w245 : Cond.fieldLinkNest RX5 74 (TX0 8).1 (TX0 8).2.1 (TX0 8).2.2.1 "MailCore" ∈ nw := nw_of (List.mem_of_getElem? (i := 245) (by decide +kernel)) rfl
theorem fX5_74 : FL RX5 74 0 8 := ⟨RX0, TX0, tyX0, 12, rfl, rfl, by decide, inG0, tyX0_ok, nmX0, rfl, rfl, (fun _ => rfl), (fun h => absurd h (by decide)), (fun h => absurd h (by decide)), Or.inr ⟨_, w245⟩⟩
theorem w246 : Cond.fieldLinkNest RX5 77 (TX0 9).1 (TX0 9).2.1 (TX0 9).2.2.1 "MailCore" ∈ nw := nw_of (List.mem_of_getElem? (i := 246) (by decide +kernel)) rfl
theorem fX5_77 : FL RX5 77 0 9 := ⟨RX0, TX0, tyX0, 12, rfl, rfl, by decide, inG0, tyX0_ok, nmX0, rfl, rfl, (fun _ => rfl), (fun h => absurd h (by decide)), (fun h => absurd h (by decide)), Or.inr ⟨_, w246⟩⟩
theorem w247 : Cond.fieldLinkNest RX5 80 (TX0 10).1 (TX0 10).2.1 (TX0 10).2.2.1 "MailCore" ∈ nw := nw_of (List.mem_of_getElem? (i := 247) (by decide +kernel)) rfl
theorem fX5_80 : FL RX5 80 0 10 := ⟨RX0, TX0, tyX0, 12, rfl, rfl, by decide, inG0, tyX0_ok, nmX0, rfl, rfl, (fun _ => rfl), (fun h => absurd h (by decide)), (fun h => absurd h (by decide)), Or.inr ⟨_, w247⟩⟩
theorem w250 : Cond.fieldLinkNest RX5 83 (TX0 11).1 (TX0 11).2.1 (TX0 11).2.2.1 "MailCore" ∈ nw := nw_of (List.mem_of_getElem? (i := 250) (by decide +kernel)) rfl
theorem fX5_83 : FL RX5 83 0 11 := ⟨RX0, TX0, tyX0, 12, rfl, rfl, by decide, inG0, tyX0_ok, nmX0, rfl, rfl, (fun _ => rfl), (fun h => absurd h (by decide)), (fun h => absurd h (by decide)), Or.inr ⟨_, w250⟩⟩
theorem w243 : Cond.fieldLinkNest RX5 86 (TX0 6).1 (TX0 6).2.1 (TX0 6).2.2.1 "MailCore" ∈ nw := nw_of (List.mem_of_getElem? (i := 243) (by decide +kernel)) rfl
theorem fX5_86 : FL RX5 86 0 6 := ⟨RX0, TX0, tyX0, 12, rfl, rfl, by decide, inG0, tyX0_ok, nmX0, rfl, rfl, (fun _ => rfl), (fun h => absurd h (by decide)), (fun h => absurd h (by decide)), Or.inr ⟨_, w243⟩⟩
theorem w230 : Cond.fieldLinkNest RX5 89 (TX0 0).1 (TX0 0).2.1 (TX0 0).2.2.1 "MailCore" ∈ nw := nw_of (List.mem_of_getElem? (i := 230) (by decide +kernel)) rfl
theorem fX5_89 : FL RX5 89 0 0 := ⟨RX0, TX0, tyX0, 12, rfl, rfl, by decide, inG0, tyX0_ok, nmX0, rfl, rfl, (fun h => absurd h (by decide)), (fun h => absurd h (by decide)), (fun _ _ => ⟨rfl, rfl⟩), Or.inr ⟨_, w230⟩⟩
theorem w304 : Cond.fieldLink RX5 96 (TX5 12).1 (TX5 12).2.1 (TX5 12).2.2.1 ∈ gw := gw_of (List.mem_of_getElem? (i := 304) (by decide +kernel)) rfl
theorem fX5_96 : FL RX5 96 5 12 := ⟨RX5, TX5, tyX5, 13, rfl, rfl, by decide, inG5, tyX5_ok, nmX5, rfl, rfl, (fun h => absurd h (by decide)), (fun _ => rfl), (fun h => absurd h (by decide)), Or.inl w304⟩
theorem w303 : Cond.fieldLink RX5 100 (TX5 11).1 (TX5 11).2.1 (TX5 11).2.2.1 ∈ gw := gw_of (List.mem_of_getElem? (i := 303) (by decide +kernel)) rfl
theorem fX5_100 : FL RX5 100 5 11 := ⟨RX5, TX5, tyX5, 13, rfl, rfl, by decide, inG5, tyX5_ok, nmX5, rfl, rfl, (fun _ => rfl), (fun h => absurd h (by decide)), (fun h => absurd h (by decide)), Or.inl w303⟩
theorem w284 : Cond.fieldLinkNest RX5 117 (TX4 2).1 (TX4 2).2.1 (TX4 2).2.2.1 "MailCore" ∈ nw := nw_of (List.mem_of_getElem? (i := 284) (by decide +kernel)) rfl
theorem fX5_117 : FL RX5 117 4 2 := ⟨RX4, TX4, tyX4, 3, rfl, rfl, by decide, inG4, tyX4_ok, nmX4, rfl, rfl, (fun _ => rfl), (fun h => absurd h (by decide)), (fun h => absurd h (by decide)), Or.inr ⟨_, w284⟩⟩
theorem w156 : Cond.fieldLinkNest RX5 136 (TX2 6).1 (TX2 6).2.1 (TX2 6).2.2.1 "MailCore" ∈ nw := nw_of (List.mem_of_getElem? (i := 156) (by decide +kernel)) rfl
theorem fX5_136 : FL RX5 136 2 6 := ⟨RX2, TX2, tyX2, 8, rfl, rfl, by decide, inG2, tyX2_ok, nmX2, rfl, rfl, (fun _ => rfl), (fun h => absurd h (by decide)), (fun h => absurd h (by decide)), Or.inr ⟨_, w156⟩⟩
theorem w189 : Cond.fieldLinkNest RX5 143 (TX3 4).1 (TX3 4).2.1 (TX3 4).2.2.1 "MailCore" ∈ nw := nw_of (List.mem_of_getElem? (i := 189) (by decide +kernel)) rfl
theorem fX5_143 : FL RX5 143 3 4 := ⟨RX3, TX3, tyX3, 5, rfl, rfl, by decide, inG3, tyX3_ok, nmX3, rfl, rfl, (fun _ => rfl), (fun h => absurd h (by decide)), (fun h => absurd h (by decide)), Or.inr ⟨_, w189⟩⟩
theorem w214 : Cond.fieldLinkNest RX5 145 (TX1 3).1 (TX1 3).2.1 (TX1 3).2.2.1 "MailCore" ∈ nw := nw_of (List.mem_of_getElem? (i := 214) (by decide +kernel)) rfl
theorem fX5_145 : FL RX5 145 1 3 := ⟨RX1, TX1, tyX1, 4, rfl, rfl, by decide, inG1, tyX1_ok, nmX1, rfl, rfl, (fun _ => rfl), (fun h => absurd h (by decide)), (fun h => absurd h (by decide)), Or.inr ⟨_, w214⟩⟩
theorem w154 : Cond.fieldLinkNest RX5 146 (TX2 4).1 (TX2 4).2.1 (TX2 4).2.2.1 "MailCore" ∈ nw := nw_of (List.mem_of_getElem? (i := 154) (by decide +kernel)) rfl
theorem fX5_146 : FL RX5 146 2 4 := ⟨RX2, TX2, tyX2, 8, rfl, rfl, by decide, inG2, tyX2_ok, nmX2, rfl, rfl, (fun _ => rfl), (fun h => absurd h (by decide)), (fun h => absurd h (by decide)), Or.inr ⟨_, w154⟩⟩
theorem w237 : Cond.fieldLinkNest RX5 185 (TX0 3).1 (TX0 3).2.1 (TX0 3).2.2.1 "MailCore" ∈ nw := nw_of (List.mem_of_getElem? (i := 237) (by decide +kernel)) rfl
theorem fX5_185 : FL RX5 185 0 3 := ⟨RX0, TX0, tyX0, 12, rfl, rfl, by decide, inG0, tyX0_ok, nmX0, rfl, rfl, (fun _ => rfl), (fun h => absurd h (by decide)), (fun h => absurd h (by decide)), Or.inr ⟨_, w237⟩⟩
theorem w239 : Cond.fieldLinkNest RX5 188 (TX0 4).1 (TX0 4).2.1 (TX0 4).2.2.1 "MailCore" ∈ nw := nw_of (List.mem_of_getElem? (i := 239) (by decide +kernel)) rfl
theorem fX5_188 : FL RX5 188 0 4 := ⟨RX0, TX0, tyX0, 12, rfl, rfl, by decide, inG0, tyX0_ok, nmX0, rfl, rfl, (fun _ => rfl), (fun h => absurd h (by decide)), (fun h => absurd h (by decide)), Or.inr ⟨_, w239⟩⟩
theorem w241 : Cond.fieldLinkNest RX5 191 (TX0 5).1 (TX0 5).2.1 (TX0 5).2.2.1 "MailCore" ∈ nw := nw_of (List.mem_of_getElem? (i := 241) (by decide +kernel)) rfl
theorem fX5_191 : FL RX5 191 0 5 := ⟨RX0, TX0, tyX0, 12, rfl, rfl, by decide, inG0, tyX0_ok, nmX0, rfl, rfl, (fun _ => rfl), (fun h => absurd h (by decide)), (fun h => absurd h (by decide)), Or.inr ⟨_, w241⟩⟩
theorem w232 : Cond.fieldLinkNest RX5 198 (TX0 1).1 (TX0 1).2.1 (TX0 1).2.2.1 "MailCore" ∈ nw := nw_of (List.mem_of_getElem? (i := 232) (by decide +kernel)) rfl
theorem fX5_198 : FL RX5 198 0 1 := ⟨RX0, TX0, tyX0, 12, rfl, rfl, by decide, inG0, tyX0_ok, nmX0, rfl, rfl, (fun _ => rfl), (fun h => absurd h (by decide)), (fun h => absurd h (by decide)), Or.inr ⟨_, w232⟩⟩
theorem w235 : Cond.fieldLinkNest RX5 201 (TX0 2).1 (TX0 2).2.1 (TX0 2).2.2.1 "MailCore" ∈ nw := nw_of (List.mem_of_getElem? (i := 235) (by decide +kernel)) rfl
theorem fX5_201 : FL RX5 201 0 2 := ⟨RX0, TX0, tyX0, 12, rfl, rfl, by decide, inG0, tyX0_ok, nmX0, rfl, rfl, (fun _ => rfl), (fun h => absurd h (by decide)), (fun h => absurd h (by decide)), Or.inr ⟨_, w235⟩⟩
theorem w301 : Cond.fieldLink RX5 237 (TX5 9).1 (TX5 9).2.1 (TX5 9).2.2.1 ∈ gw := gw_of (List.mem_of_getElem? (i := 301) (by decide +kernel)) rfl
theorem fX5_237 : FL RX5 237 5 9 := ⟨RX5, TX5, tyX5, 13, rfl, rfl, by decide, inG5, tyX5_ok, nmX5, rfl, rfl, (fun _ => rfl), (fun h => absurd h (by decide)), (fun h => absurd h (by decide)), Or.inl w301⟩
theorem w158 : Cond.fieldLinkNest RX5 277 (TX2 7).1 (TX2 7).2.1 (TX2 7).2.2.1 "MailCore" ∈ nw := nw_of (List.mem_of_getElem? (i := 158) (by decide +kernel)) rfl
theorem fX5_277 : FL RX5 277 2 7 := ⟨RX2, TX2, tyX2, 8, rfl, rfl, by decide, inG2, tyX2_ok, nmX2, rfl, rfl, (fun h => absurd h (by decide)), (fun _ => rfl), (fun h => absurd h (by decide)), Or.inr ⟨_, w158⟩⟩
theorem w151 : Cond.fieldLinkNest RX5 283 (TX2 2).1 (TX2 2).2.1 (TX2 2).2.2.1 "MailCore" ∈ nw := nw_of (List.mem_of_getElem? (i := 151) (by decide +kernel)) rfl
theorem fX5_283 : FL RX5 283 2 2 := ⟨RX2, TX2, tyX2, 8, rfl, rfl, by decide, inG2, tyX2_ok, nmX2, rfl, rfl, (fun h => absurd h (by decide)), (fun h => absurd h (by decide)), (fun _ _ => ⟨rfl, rfl⟩), Or.inr ⟨_, w151⟩⟩
theorem w148 : Cond.fieldLinkNest RX5 356 (TX2 0).1 (TX2 0).2.1 (TX2 0).2.2.1 "MailCore" ∈ nw := nw_of (List.mem_of_getElem? (i := 148) (by decide +kernel)) rfl
theorem fX5_356 : FL RX5 356 2 0 := ⟨RX2, TX2, tyX2, 8, rfl, rfl, by decide, inG2, tyX2_ok, nmX2, rfl, rfl, (fun h => absurd h (by decide)), (fun h => absurd h (by decide)), (fun _ _ => ⟨rfl, rfl⟩), Or.inr ⟨_, w148⟩⟩
theorem w210 : Cond.fieldLinkNest RX5 372 (TX1 1).1 (TX1 1).2.1 (TX1 1).2.2.1 "MailCore" ∈ nw := nw_of (List.mem_of_getElem? (i := 210) (by decide +kernel)) rfl
theorem fX5_372 : FL RX5 372 1 1 := ⟨RX1, TX1, tyX1, 4, rfl, rfl, by decide, inG1, tyX1_ok, nmX1, rfl, rfl, (fun h => absurd h (by decide)), (fun h => absurd h (by decide)), (fun _ _ => ⟨rfl, rfl⟩), Or.inr ⟨_, w210⟩⟩
theorem w212 : Cond.fieldLinkNest RX5 375 (TX1 2).1 (TX1 2).2.1 (TX1 2).2.2.1 "MailCore" ∈ nw := nw_of (List.mem_of_getElem? (i := 212) (by decide +kernel)) rfl
theorem fX5_375 : FL RX5 375 1 2 := ⟨RX1, TX1, tyX1, 4, rfl, rfl, by decide, inG1, tyX1_ok, nmX1, rfl, rfl, (fun h => absurd h (by decide)), (fun h => absurd h (by decide)), (fun _ _ => ⟨rfl, rfl⟩), Or.inr ⟨_, w212⟩⟩
theorem w208 : Cond.fieldLinkNest RX5 378 (TX1 0).1 (TX1 0).2.1 (TX1 0).2.2.1 "MailCore" ∈ nw := nw_of (List.mem_of_getElem? (i := 208) (by decide +kernel)) rfl
theorem fX5_378 : FL RX5 378 1 0 := ⟨RX1, TX1, tyX1, 4, rfl, rfl, by decide, inG1, tyX1_ok, nmX1, rfl, rfl, (fun h => absurd h (by decide)), (fun h => absurd h (by decide)), (fun _ _ => ⟨rfl, rfl⟩), Or.inr ⟨_, w208⟩⟩
theorem w229 : Cond.fieldLink RX0 9 (TX0 0).1 (TX0 0).2.1 (TX0 0).2.2.1 ∈ gw := gw_of (List.mem_of_getElem? (i := 229) (by decide +kernel)) rfl
theorem fX0_9 : FL RX0 9 0 0 := ⟨RX0, TX0, tyX0, 12, rfl, rfl, by decide, inG0, tyX0_ok, nmX0, rfl, rfl, (fun h => absurd h (by decide)), (fun h => absurd h (by decide)), (fun _ _ => ⟨rfl, rfl⟩), Or.inl w229⟩
theorem w231 : Cond.fieldLink RX0 15 (TX0 1).1 (TX0 1).2.1 (TX0 1).2.2.1 ∈ gw := gw_of (List.mem_of_getElem? (i := 231) (by decide +kernel)) rfl
theorem fX0_15 : FL RX0 15 0 1 := ⟨RX0, TX0, tyX0, 12, rfl, rfl, by decide, inG0, tyX0_ok, nmX0, rfl, rfl, (fun _ => rfl), (fun h => absurd h (by decide)), (fun h => absurd h (by decide)), Or.inl w231⟩
theorem w233 : Cond.fieldLink RX0 19 (TX0 2).1 (TX0 2).2.1 (TX0 2).2.2.1 ∈ gw := gw_of (List.mem_of_getElem? (i := 233) (by decide +kernel)) rfl
theorem fX0_19 : FL RX0 19 0 2 := ⟨RX0, TX0, tyX0, 12, rfl, rfl, by decide, inG0, tyX0_ok, nmX0, rfl, rfl, (fun _ => rfl), (fun h => absurd h (by decide)), (fun h => absurd h (by decide)), Or.inl w233⟩
theorem w236 : Cond.fieldLink RX0 22 (TX0 3).1 (TX0 3).2.1 (TX0 3).2.2.1 ∈ gw := gw_of (List.mem_of_getElem? (i := 236) (by decide +kernel)) rfl
theorem fX0_22 : FL RX0 22 0 3 := ⟨RX0, TX0, tyX0, 12, rfl, rfl, by decide, inG0, tyX0_ok, nmX0, rfl, rfl, (fun _ => rfl), (fun h => absurd h (by decide)), (fun h => absurd h (by decide)), Or.inl w236⟩
theorem w238 : Cond.fieldLink RX0 25 (TX0 4).1 (TX0 4).2.1 (TX0 4).2.2.1 ∈ gw := gw_of (List.mem_of_getElem? (i := 238) (by decide +kernel)) rfl
theorem fX0_25 : FL RX0 25 0 4 := ⟨RX0, TX0, tyX0, 12, rfl, rfl, by decide, inG0, tyX0_ok, nmX0, rfl, rfl, (fun _ => rfl), (fun h => absurd h (by decide)), (fun h => absurd h (by decide)), Or.inl w238⟩
theorem w240 : Cond.fieldLink RX0 28 (TX0 5).1 (TX0 5).2.1 (TX0 5).2.2.1 ∈ gw := gw_of (List.mem_of_getElem? (i := 240) (by decide +kernel)) rfl
theorem fX0_28 : FL RX0 28 0 5 := ⟨RX0, TX0, tyX0, 12, rfl, rfl, by decide, inG0, tyX0_ok, nmX0, rfl, rfl, (fun _ => rfl), (fun h => absurd h (by decide)), (fun h => absurd h (by decide)), Or.inl w240⟩
theorem w242 : Cond.fieldLink RX0 31 (TX0 6).1 (TX0 6).2.1 (TX0 6).2.2.1 ∈ gw := gw_of (List.mem_of_getElem? (i := 242) (by decide +kernel)) rfl
theorem fX0_31 : FL RX0 31 0 6 := ⟨RX0, TX0, tyX0, 12, rfl, rfl, by decide, inG0, tyX0_ok, nmX0, rfl, rfl, (fun _ => rfl), (fun h => absurd h (by decide)), (fun h => absurd h (by decide)), Or.inl w242⟩
theorem w207 : Cond.fieldLink RX1 9 (TX1 0).1 (TX1 0).2.1 (TX1 0).2.2.1 ∈ gw := gw_of (List.mem_of_getElem? (i := 207) (by decide +kernel)) rfl
theorem fX1_9 : FL RX1 9 1 0 := ⟨RX1, TX1, tyX1, 4, rfl, rfl, by decide, inG1, tyX1_ok, nmX1, rfl, rfl, (fun h => absurd h (by decide)), (fun h => absurd h (by decide)), (fun _ _ => ⟨rfl, rfl⟩), Or.inl w207⟩
theorem w209 : Cond.fieldLink RX1 15 (TX1 1).1 (TX1 1).2.1 (TX1 1).2.2.1 ∈ gw := gw_of (List.mem_of_getElem? (i := 209) (by decide +kernel)) rfl
theorem fX1_15 : FL RX1 15 1 1 := ⟨RX1, TX1, tyX1, 4, rfl, rfl, by decide, inG1, tyX1_ok, nmX1, rfl, rfl, (fun h => absurd h (by decide)), (fun h => absurd h (by decide)), (fun _ _ => ⟨rfl, rfl⟩), Or.inl w209⟩
theorem w211 : Cond.fieldLink RX1 18 (TX1 2).1 (TX1 2).2.1 (TX1 2).2.2.1 ∈ gw := gw_of (List.mem_of_getElem? (i := 211) (by decide +kernel)) rfl
theorem fX1_18 : FL RX1 18 1 2 := ⟨RX1, TX1, tyX1, 4, rfl, rfl, by decide, inG1, tyX1_ok, nmX1, rfl, rfl, (fun h => absurd h (by decide)), (fun h => absurd h (by decide)), (fun _ _ => ⟨rfl, rfl⟩), Or.inl w211⟩
theorem w213 : Cond.fieldLink RX1 21 (TX1 3).1 (TX1 3).2.1 (TX1 3).2.2.1 ∈ gw := gw_of (List.mem_of_getElem? (i := 213) (by decide +kernel)) rfl
theorem fX1_21 : FL RX1 21 1 3 := ⟨RX1, TX1, tyX1, 4, rfl, rfl, by decide, inG1, tyX1_ok, nmX1, rfl, rfl, (fun _ => rfl), (fun h => absurd h (by decide)), (fun h => absurd h (by decide)), Or.inl w213⟩
theorem w147 : Cond.fieldLink RX2 11 (TX2 0).1 (TX2 0).2.1 (TX2 0).2.2.1 ∈ gw := gw_of (List.mem_of_getElem? (i := 147) (by decide +kernel)) rfl
theorem fX2_11 : FL RX2 11 2 0 := ⟨RX2, TX2, tyX2, 8, rfl, rfl, by decide, inG2, tyX2_ok, nmX2, rfl, rfl, (fun h => absurd h (by decide)), (fun h => absurd h (by decide)), (fun _ _ => ⟨rfl, rfl⟩), Or.inl w147⟩
theorem w149 : Cond.fieldLink RX2 16 (TX2 1).1 (TX2 1).2.1 (TX2 1).2.2.1 ∈ gw := gw_of (List.mem_of_getElem? (i := 149) (by decide +kernel)) rfl
theorem fX2_16 : FL RX2 16 2 1 := ⟨RX2, TX2, tyX2, 8, rfl, rfl, by decide, inG2, tyX2_ok, nmX2, rfl, rfl, (fun h => absurd h (by decide)), (fun h => absurd h (by decide)), (fun _ _ => ⟨rfl, rfl⟩), Or.inl w149⟩
theorem w150 : Cond.fieldLink RX2 19 (TX2 2).1 (TX2 2).2.1 (TX2 2).2.2.1 ∈ gw := gw_of (List.mem_of_getElem? (i := 150) (by decide +kernel)) rfl
theorem fX2_19 : FL RX2 19 2 2 := ⟨RX2, TX2, tyX2, 8, rfl, rfl, by decide, inG2, tyX2_ok, nmX2, rfl, rfl, (fun h => absurd h (by decide)), (fun h => absurd h (by decide)), (fun _ _ => ⟨rfl, rfl⟩), Or.inl w150⟩
theorem w152 : Cond.fieldLink RX2 23 (TX2 3).1 (TX2 3).2.1 (TX2 3).2.2.1 ∈ gw := gw_of (List.mem_of_getElem? (i := 152) (by decide +kernel)) rfl
theorem fX2_23 : FL RX2 23 2 3 := ⟨RX2, TX2, tyX2, 8, rfl, rfl, by decide, inG2, tyX2_ok, nmX2, rfl, rfl, (fun _ => rfl), (fun h => absurd h (by decide)), (fun h => absurd h (by decide)), Or.inl w152⟩
theorem w153 : Cond.fieldLink RX2 27 (TX2 4).1 (TX2 4).2.1 (TX2 4).2.2.1 ∈ gw := gw_of (List.mem_of_getElem? (i := 153) (by decide +kernel)) rfl
theorem fX2_27 : FL RX2 27 2 4 := ⟨RX2, TX2, tyX2, 8, rfl, rfl, by decide, inG2, tyX2_ok, nmX2, rfl, rfl, (fun _ => rfl), (fun h => absurd h (by decide)), (fun h => absurd h (by decide)), Or.inl w153⟩
theorem w157 : Cond.fieldLink RX2 38 (TX2 7).1 (TX2 7).2.1 (TX2 7).2.2.1 ∈ gw := gw_of (List.mem_of_getElem? (i := 157) (by decide +kernel)) rfl
theorem fX2_38 : FL RX2 38 2 7 := ⟨RX2, TX2, tyX2, 8, rfl, rfl, by decide, inG2, tyX2_ok, nmX2, rfl, rfl, (fun h => absurd h (by decide)), (fun _ => rfl), (fun h => absurd h (by decide)), Or.inl w157⟩
theorem w155 : Cond.fieldLink RX2 59 (TX2 5).1 (TX2 5).2.1 (TX2 5).2.2.1 ∈ gw := gw_of (List.mem_of_getElem? (i := 155) (by decide +kernel)) rfl
theorem fX2_59 : FL RX2 59 2 5 := ⟨RX2, TX2, tyX2, 8, rfl, rfl, by decide, inG2, tyX2_ok, nmX2, rfl, rfl, (fun _ => rfl), (fun h => absurd h (by decide)), (fun h => absurd h (by decide)), Or.inl w155⟩
theorem w184 : Cond.fieldLink RX3 11 (TX3 0).1 (TX3 0).2.1 (TX3 0).2.2.1 ∈ gw := gw_of (List.mem_of_getElem? (i := 184) (by decide +kernel)) rfl
theorem fX3_11 : FL RX3 11 3 0 := ⟨RX3, TX3, tyX3, 5, rfl, rfl, by decide, inG3, tyX3_ok, nmX3, rfl, rfl, (fun h => absurd h (by decide)), (fun h => absurd h (by decide)), (fun _ _ => ⟨rfl, rfl⟩), Or.inl w184⟩
theorem w185 : Cond.fieldLink RX3 16 (TX3 1).1 (TX3 1).2.1 (TX3 1).2.2.1 ∈ gw := gw_of (List.mem_of_getElem? (i := 185) (by decide +kernel)) rfl
theorem fX3_16 : FL RX3 16 3 1 := ⟨RX3, TX3, tyX3, 5, rfl, rfl, by decide, inG3, tyX3_ok, nmX3, rfl, rfl, (fun h => absurd h (by decide)), (fun h => absurd h (by decide)), (fun _ _ => ⟨rfl, rfl⟩), Or.inl w185⟩
theorem w186 : Cond.fieldLink RX3 20 (TX3 2).1 (TX3 2).2.1 (TX3 2).2.2.1 ∈ gw := gw_of (List.mem_of_getElem? (i := 186) (by decide +kernel)) rfl
theorem fX3_20 : FL RX3 20 3 2 := ⟨RX3, TX3, tyX3, 5, rfl, rfl, by decide, inG3, tyX3_ok, nmX3, rfl, rfl, (fun h => absurd h (by decide)), (fun h => absurd h (by decide)), (fun _ _ => ⟨rfl, rfl⟩), Or.inl w186⟩
theorem w187 : Cond.fieldLink RX3 23 (TX3 3).1 (TX3 3).2.1 (TX3 3).2.2.1 ∈ gw := gw_of (List.mem_of_getElem? (i := 187) (by decide +kernel)) rfl
theorem fX3_23 : FL RX3 23 3 3 := ⟨RX3, TX3, tyX3, 5, rfl, rfl, by decide, inG3, tyX3_ok, nmX3, rfl, rfl, (fun _ => rfl), (fun h => absurd h (by decide)), (fun h => absurd h (by decide)), Or.inl w187⟩
theorem w188 : Cond.fieldLink RX3 27 (TX3 4).1 (TX3 4).2.1 (TX3 4).2.2.1 ∈ gw := gw_of (List.mem_of_getElem? (i := 188) (by decide +kernel)) rfl
theorem fX3_27 : FL RX3 27 3 4 := ⟨RX3, TX3, tyX3, 5, rfl, rfl, by decide, inG3, tyX3_ok, nmX3, rfl, rfl, (fun _ => rfl), (fun h => absurd h (by decide)), (fun h => absurd h (by decide)), Or.inl w188⟩
theorem w234 : Cond.fieldLinkNest RX3 41 (TX0 2).1 (TX0 2).2.1 (TX0 2).2.2.1 "MailCore" ∈ nw := nw_of (List.mem_of_getElem? (i := 234) (by decide +kernel)) rfl
theorem fX3_41 : FL RX3 41 0 2 := ⟨RX0, TX0, tyX0, 12, rfl, rfl, by decide, inG0, tyX0_ok, nmX0, rfl, rfl, (fun _ => rfl), (fun h => absurd h (by decide)), (fun h => absurd h (by decide)), Or.inr ⟨_, w234⟩⟩
theorem w249 : Cond.fieldLinkNest RX3 46 (TX0 11).1 (TX0 11).2.1 (TX0 11).2.2.1 "MailCore" ∈ nw := nw_of (List.mem_of_getElem? (i := 249) (by decide +kernel)) rfl
theorem fX3_46 : FL RX3 46 0 11 := ⟨RX0, TX0, tyX0, 12, rfl, rfl, by decide, inG0, tyX0_ok, nmX0, rfl, rfl, (fun _ => rfl), (fun h => absurd h (by decide)), (fun h => absurd h (by decide)), Or.inr ⟨_, w249⟩⟩
theorem w248 : Cond.fieldLinkNest RX3 49 (TX0 10).1 (TX0 10).2.1 (TX0 10).2.2.1 "MailCore" ∈ nw := nw_of (List.mem_of_getElem? (i := 248) (by decide +kernel)) rfl
theorem fX3_49 : FL RX3 49 0 10 := ⟨RX0, TX0, tyX0, 12, rfl, rfl, by decide, inG0, tyX0_ok, nmX0, rfl, rfl, (fun _ => rfl), (fun h => absurd h (by decide)), (fun h => absurd h (by decide)), Or.inr ⟨_, w248⟩⟩
theorem w282 : Cond.fieldLink RX4 11 (TX4 0).1 (TX4 0).2.1 (TX4 0).2.2.1 ∈ gw := gw_of (List.mem_of_getElem? (i := 282) (by decide +kernel)) rfl
theorem fX4_11 : FL RX4 11 4 0 := ⟨RX4, TX4, tyX4, 3, rfl, rfl, by decide, inG4, tyX4_ok, nmX4, rfl, rfl, (fun h => absurd h (by decide)), (fun h => absurd h (by decide)), (fun _ _ => ⟨rfl, rfl⟩), Or.inl w282⟩
theorem w283 : Cond.fieldLink RX4 16 (TX4 1).1 (TX4 1).2.1 (TX4 1).2.2.1 ∈ gw := gw_of (List.mem_of_getElem? (i := 283) (by decide +kernel)) rfl
theorem fX4_16 : FL RX4 16 4 1 := ⟨RX4, TX4, tyX4, 3, rfl, rfl, by decide, inG4, tyX4_ok, nmX4, rfl, rfl, (fun h => absurd h (by decide)), (fun h => absurd h (by decide)), (fun _ _ => ⟨rfl, rfl⟩), Or.inl w283⟩
theorem w745 : Cond.fieldLink RX6 7 (TX6 0).1 (TX6 0).2.1 (TX6 0).2.2.1 ∈ gw := gw_of (List.mem_of_getElem? (i := 745) (by decide +kernel)) rfl
theorem fX6_7 : FL RX6 7 6 0 := ⟨RX6, TX6, tyX6, 29, rfl, rfl, by decide, inG6, tyX6_ok, nmX6, rfl, rfl, (fun h => absurd h (by decide)), (fun h => absurd h (by decide)), (fun _ _ => ⟨rfl, rfl⟩), Or.inl w745⟩
theorem w746 : Cond.fieldLink RX6 13 (TX6 1).1 (TX6 1).2.1 (TX6 1).2.2.1 ∈ gw := gw_of (List.mem_of_getElem? (i := 746) (by decide +kernel)) rfl
theorem fX6_13 : FL RX6 13 6 1 := ⟨RX6, TX6, tyX6, 29, rfl, rfl, by decide, inG6, tyX6_ok, nmX6, rfl, rfl, (fun h => absurd h (by decide)), (fun h => absurd h (by decide)), (fun _ _ => ⟨rfl, rfl⟩), Or.inl w746⟩
theorem w747 : Cond.fieldLink RX6 16 (TX6 2).1 (TX6 2).2.1 (TX6 2).2.2.1 ∈ gw := gw_of (List.mem_of_getElem? (i := 747) (by decide +kernel)) rfl
theorem fX6_16 : FL RX6 16 6 2 := ⟨RX6, TX6, tyX6, 29, rfl, rfl, by decide, inG6, tyX6_ok, nmX6, rfl, rfl, (fun h => absurd h (by decide)), (fun h => absurd h (by decide)), (fun _ _ => ⟨rfl, rfl⟩), Or.inl w747⟩
theorem w748 : Cond.fieldLink RX6 19 (TX6 3).1 (TX6 3).2.1 (TX6 3).2.2.1 ∈ gw := gw_of (List.mem_of_getElem? (i := 748) (by decide +kernel)) rfl
theorem fX6_19 : FL RX6 19 6 3 := ⟨RX6, TX6, tyX6, 29, rfl, rfl, by decide, inG6, tyX6_ok, nmX6, rfl, rfl, (fun h => absurd h (by decide)), (fun h => absurd h (by decide)), (fun _ _ => ⟨rfl, rfl⟩), Or.inl w748⟩
theorem w750 : Cond.fieldLink RX6 22 (TX6 5).1 (TX6 5).2.1 (TX6 5).2.2.1 ∈ gw := gw_of (List.mem_of_getElem? (i := 750) (by decide +kernel)) rfl
theorem fX6_22 : FL RX6 22 6 5 := ⟨RX6, TX6, tyX6, 29, rfl, rfl, by decide, inG6, tyX6_ok, nmX6, rfl, rfl, (fun h => absurd h (by decide)), (fun h => absurd h (by decide)), (fun _ _ => ⟨rfl, rfl⟩), Or.inl w750⟩
theorem w751 : Cond.fieldLink RX6 25 (TX6 6).1 (TX6 6).2.1 (TX6 6).2.2.1 ∈ gw := gw_of (List.mem_of_getElem? (i := 751) (by decide +kernel)) rfl
theorem fX6_25 : FL RX6 25 6 6 := ⟨RX6, TX6, tyX6, 29, rfl, rfl, by decide, inG6, tyX6_ok, nmX6, rfl, rfl, (fun h => absurd h (by decide)), (fun h => absurd h (by decide)), (fun _ _ => ⟨rfl, rfl⟩), Or.inl w751⟩
theorem w752 : Cond.fieldLink RX6 28 (TX6 7).1 (TX6 7).2.1 (TX6 7).2.2.1 ∈ gw := gw_of (List.mem_of_getElem? (i := 752) (by decide +kernel)) rfl
theorem fX6_28 : FL RX6 28 6 7 := ⟨RX6, TX6, tyX6, 29, rfl, rfl, by decide, inG6, tyX6_ok, nmX6, rfl, rfl, (fun h => absurd h (by decide)), (fun h => absurd h (by decide)), (fun _ _ => ⟨rfl, rfl⟩), Or.inl w752⟩
theorem w753 : Cond.fieldLink RX6 31 (TX6 8).1 (TX6 8).2.1 (TX6 8).2.2.1 ∈ gw := gw_of (List.mem_of_getElem? (i := 753) (by decide +kernel)) rfl
theorem fX6_31 : FL RX6 31 6 8 := ⟨RX6, TX6, tyX6, 29, rfl, rfl, by decide, inG6, tyX6_ok, nmX6, rfl, rfl, (fun _ => rfl), (fun h => absurd h (by decide)), (fun h => absurd h (by decide)), Or.inl w753⟩
theorem w755 : Cond.fieldLink RX6 35 (TX6 10).1 (TX6 10).2.1 (TX6 10).2.2.1 ∈ gw := gw_of (List.mem_of_getElem? (i := 755) (by decide +kernel)) rfl
theorem fX6_35 : FL RX6 35 6 10 := ⟨RX6, TX6, tyX6, 29, rfl, rfl, by decide, inG6, tyX6_ok, nmX6, rfl, rfl, (fun h => absurd h (by decide)), (fun h => absurd h (by decide)), (fun _ _ => ⟨rfl, rfl⟩), Or.inl w755⟩
theorem w756 : Cond.fieldLink RX6 38 (TX6 11).1 (TX6 11).2.1 (TX6 11).2.2.1 ∈ gw := gw_of (List.mem_of_getElem? (i := 756) (by decide +kernel)) rfl
theorem fX6_38 : FL RX6 38 6 11 := ⟨RX6, TX6, tyX6, 29, rfl, rfl, by decide, inG6, tyX6_ok, nmX6, rfl, rfl, (fun h => absurd h (by decide)), (fun h => absurd h (by decide)), (fun _ _ => ⟨rfl, rfl⟩), Or.inl w756⟩
theorem w757 : Cond.fieldLink RX6 41 (TX6 12).1 (TX6 12).2.1 (TX6 12).2.2.1 ∈ gw := gw_of (List.mem_of_getElem? (i := 757) (by decide +kernel)) rfl
theorem fX6_41 : FL RX6 41 6 12 := ⟨RX6, TX6, tyX6, 29, rfl, rfl, by decide, inG6, tyX6_ok, nmX6, rfl, rfl, (fun h => absurd h (by decide)), (fun h => absurd h (by decide)), (fun _ _ => ⟨rfl, rfl⟩), Or.inl w757⟩
theorem w759 : Cond.fieldLink RX6 44 (TX6 14).1 (TX6 14).2.1 (TX6 14).2.2.1 ∈ gw := gw_of (List.mem_of_getElem? (i := 759) (by decide +kernel)) rfl
theorem fX6_44 : FL RX6 44 6 14 := ⟨RX6, TX6, tyX6, 29, rfl, rfl, by decide, inG6, tyX6_ok, nmX6, rfl, rfl, (fun h => absurd h (by decide)), (fun h => absurd h (by decide)), (fun _ _ => ⟨rfl, rfl⟩), Or.inl w759⟩
theorem w760 : Cond.fieldLink RX6 47 (TX6 15).1 (TX6 15).2.1 (TX6 15).2.2.1 ∈ gw := gw_of (List.mem_of_getElem? (i := 760) (by decide +kernel)) rfl
theorem fX6_47 : FL RX6 47 6 15 := ⟨RX6, TX6, tyX6, 29, rfl, rfl, by decide, inG6, tyX6_ok, nmX6, rfl, rfl, (fun h => absurd h (by decide)), (fun h => absurd h (by decide)), (fun _ _ => ⟨rfl, rfl⟩), Or.inl w760⟩
theorem w761 : Cond.fieldLink RX6 50 (TX6 16).1 (TX6 16).2.1 (TX6 16).2.2.1 ∈ gw := gw_of (List.mem_of_getElem? (i := 761) (by decide +kernel)) rfl
theorem fX6_50 : FL RX6 50 6 16 := ⟨RX6, TX6, tyX6, 29, rfl, rfl, by decide, inG6, tyX6_ok, nmX6, rfl, rfl, (fun h => absurd h (by decide)), (fun h => absurd h (by decide)), (fun _ _ => ⟨rfl, rfl⟩), Or.inl w761⟩
theorem w762 : Cond.fieldLink RX6 53 (TX6 17).1 (TX6 17).2.1 (TX6 17).2.2.1 ∈ gw := gw_of (List.mem_of_getElem? (i := 762) (by decide +kernel)) rfl
theorem fX6_53 : FL RX6 53 6 17 := ⟨RX6, TX6, tyX6, 29, rfl, rfl, by decide, inG6, tyX6_ok, nmX6, rfl, rfl, (fun h => absurd h (by decide)), (fun h => absurd h (by decide)), (fun _ _ => ⟨rfl, rfl⟩), Or.inl w762⟩
theorem w763 : Cond.fieldLink RX6 56 (TX6 18).1 (TX6 18).2.1 (TX6 18).2.2.1 ∈ gw := gw_of (List.mem_of_getElem? (i := 763) (by decide +kernel)) rfl
theorem fX6_56 : FL RX6 56 6 18 := ⟨RX6, TX6, tyX6, 29, rfl, rfl, by decide, inG6, tyX6_ok, nmX6, rfl, rfl, (fun h => absurd h (by decide)), (fun h => absurd h (by decide)), (fun _ _ => ⟨rfl, rfl⟩), Or.inl w763⟩
theorem w764 : Cond.fieldLink RX6 59 (TX6 19).1 (TX6 19).2.1 (TX6 19).2.2.1 ∈ gw := gw_of (List.mem_of_getElem? (i := 764) (by decide +kernel)) rfl
theorem fX6_59 : FL RX6 59 6 19 := ⟨RX6, TX6, tyX6, 29, rfl, rfl, by decide, inG6, tyX6_ok, nmX6, rfl, rfl, (fun h => absurd h (by decide)), (fun h => absurd h (by decide)), (fun _ _ => ⟨rfl, rfl⟩), Or.inl w764⟩
theorem w767 : Cond.fieldLink RX6 62 (TX6 22).1 (TX6 22).2.1 (TX6 22).2.2.1 ∈ gw := gw_of (List.mem_of_getElem? (i := 767) (by decide +kernel)) rfl
theorem fX6_62 : FL RX6 62 6 22 := ⟨RX6, TX6, tyX6, 29, rfl, rfl, by decide, inG6, tyX6_ok, nmX6, rfl, rfl, (fun h => absurd h (by decide)), (fun h => absurd h (by decide)), (fun _ _ => ⟨rfl, rfl⟩), Or.inl w767⟩
theorem w768 : Cond.fieldLink RX6 65 (TX6 23).1 (TX6 23).2.1 (TX6 23).2.2.1 ∈ gw := gw_of (List.mem_of_getElem? (i := 768) (by decide +kernel)) rfl
theorem fX6_65 : FL RX6 65 6 23 := ⟨RX6, TX6, tyX6, 29, rfl, rfl, by decide, inG6, tyX6_ok, nmX6, rfl, rfl, (fun h => absurd h (by decide)), (fun h => absurd h (by decide)), (fun _ _ => ⟨rfl, rfl⟩), Or.inl w768⟩
theorem w770 : Cond.fieldLink RX6 68 (TX6 25).1 (TX6 25).2.1 (TX6 25).2.2.1 ∈ gw := gw_of (List.mem_of_getElem? (i := 770) (by decide +kernel)) rfl
theorem fX6_68 : FL RX6 68 6 25 := ⟨RX6, TX6, tyX6, 29, rfl, rfl, by decide, inG6, tyX6_ok, nmX6, rfl, rfl, (fun h => absurd h (by decide)), (fun h => absurd h (by decide)), (fun _ _ => ⟨rfl, rfl⟩), Or.inl w770⟩
theorem w771 : Cond.fieldLink RX6 71 (TX6 26).1 (TX6 26).2.1 (TX6 26).2.2.1 ∈ gw := gw_of (List.mem_of_getElem? (i := 771) (by decide +kernel)) rfl
theorem fX6_71 : FL RX6 71 6 26 := ⟨RX6, TX6, tyX6, 29, rfl, rfl, by decide, inG6, tyX6_ok, nmX6, rfl, rfl, (fun h => absurd h (by decide)), (fun h => absurd h (by decide)), (fun _ _ => ⟨rfl, rfl⟩), Or.inl w771⟩
theorem w772 : Cond.fieldLink RX6 74 (TX6 27).1 (TX6 27).2.1 (TX6 27).2.2.1 ∈ gw := gw_of (List.mem_of_getElem? (i := 772) (by decide +kernel)) rfl
theorem fX6_74 : FL RX6 74 6 27 := ⟨RX6, TX6, tyX6, 29, rfl, rfl, by decide, inG6, tyX6_ok, nmX6, rfl, rfl, (fun h => absurd h (by decide)), (fun h => absurd h (by decide)), (fun _ _ => ⟨rfl, rfl⟩), Or.inl w772⟩
theorem w773 : Cond.fieldLink RX6 77 (TX6 28).1 (TX6 28).2.1 (TX6 28).2.2.1 ∈ gw := gw_of (List.mem_of_getElem? (i := 773) (by decide +kernel)) rfl
theorem fX6_77 : FL RX6 77 6 28 := ⟨RX6, TX6, tyX6, 29, rfl, rfl, by decide, inG6, tyX6_ok, nmX6, rfl, rfl, (fun h => absurd h (by decide)), (fun h => absurd h (by decide)), (fun _ _ => ⟨rfl, rfl⟩), Or.inl w773⟩
theorem w749 : Cond.fieldLink RX6 103 (TX6 4).1 (TX6 4).2.1 (TX6 4).2.2.1 ∈ gw := gw_of (List.mem_of_getElem? (i := 749) (by decide +kernel)) rfl
theorem fX6_103 : FL RX6 103 6 4 := ⟨RX6, TX6, tyX6, 29, rfl, rfl, by decide, inG6, tyX6_ok, nmX6, rfl, rfl, (fun _ => rfl), (fun h => absurd h (by decide)), (fun h => absurd h (by decide)), Or.inl w749⟩
theorem w758 : Cond.fieldLink RX6 110 (TX6 13).1 (TX6 13).2.1 (TX6 13).2.2.1 ∈ gw := gw_of (List.mem_of_getElem? (i := 758) (by decide +kernel)) rfl
theorem fX6_110 : FL RX6 110 6 13 := ⟨RX6, TX6, tyX6, 29, rfl, rfl, by decide, inG6, tyX6_ok, nmX6, rfl, rfl, (fun _ => rfl), (fun h => absurd h (by decide)), (fun h => absurd h (by decide)), Or.inl w758⟩
theorem w766 : Cond.fieldLink RX6 129 (TX6 21).1 (TX6 21).2.1 (TX6 21).2.2.1 ∈ gw := gw_of (List.mem_of_getElem? (i := 766) (by decide +kernel)) rfl
theorem fX6_129 : FL RX6 129 6 21 := ⟨RX6, TX6, tyX6, 29, rfl, rfl, by decide, inG6, tyX6_ok, nmX6, rfl, rfl, (fun _ => rfl), (fun h => absurd h (by decide)), (fun h => absurd h (by decide)), Or.inl w766⟩
theorem w765 : Cond.fieldLink RX6 143 (TX6 20).1 (TX6 20).2.1 (TX6 20).2.2.1 ∈ gw := gw_of (List.mem_of_getElem? (i := 765) (by decide +kernel)) rfl
theorem fX6_143 : FL RX6 143 6 20 := ⟨RX6, TX6, tyX6, 29, rfl, rfl, by decide, inG6, tyX6_ok, nmX6, rfl, rfl, (fun _ => rfl), (fun h => absurd h (by decide)), (fun h => absurd h (by decide)), Or.inl w765⟩
theorem w769 : Cond.fieldLink RX6 166 (TX6 24).1 (TX6 24).2.1 (TX6 24).2.2.1 ∈ gw := gw_of (List.mem_of_getElem? (i := 769) (by decide +kernel)) rfl
theorem fX6_166 : FL RX6 166 6 24 := ⟨RX6, TX6, tyX6, 29, rfl, rfl, by decide, inG6, tyX6_ok, nmX6, rfl, rfl, (fun _ => rfl), (fun h => absurd h (by decide)), (fun h => absurd h (by decide)), Or.inl w769⟩
theorem w754 : Cond.fieldLink RX6 265 (TX6 9).1 (TX6 9).2.1 (TX6 9).2.2.1 ∈ gw := gw_of (List.mem_of_getElem? (i := 754) (by decide +kernel)) rfl
theorem fX6_265 : FL RX6 265 6 9 := ⟨RX6, TX6, tyX6, 29, rfl, rfl, by decide, inG6, tyX6_ok, nmX6, rfl, rfl, (fun _ => rfl), (fun h => absurd h (by decide)), (fun h => absurd h (by decide)), Or.inl w754⟩
theorem w135 : Cond.classLink RX5 13 RX0 ∈ gw := gw_of (List.mem_of_getElem? (i := 135) (by decide +kernel)) rfl
theorem w224 : Cond.instantiable RX0 12 ∈ gw := gw_of (List.mem_of_getElem? (i := 224) (by decide +kernel)) rfl
theorem w122 : Cond.initialized RX0 ∈ gw := gw_of (List.mem_of_getElem? (i := 122) (by decide +kernel)) rfl
theorem nX5_13 : NL RX5 13 0 := ⟨RX0, TX0, tyX0, 12, rfl, rfl, inG0, tyX0_ok, by decide +kernel, w135, w224, w122⟩
theorem w137 : Cond.classLink RX5 19 RX4 ∈ gw := gw_of (List.mem_of_getElem? (i := 137) (by decide +kernel)) rfl
theorem w276 : Cond.instantiable RX4 3 ∈ gw := gw_of (List.mem_of_getElem? (i := 276) (by decide +kernel)) rfl
theorem w123 : Cond.initialized RX4 ∈ gw := gw_of (List.mem_of_getElem? (i := 123) (by decide +kernel)) rfl
theorem nX5_19 : NL RX5 19 4 := ⟨RX4, TX4, tyX4, 3, rfl, rfl, inG4, tyX4_ok, by decide +kernel, w137, w276, w123⟩
theorem w139 : Cond.classLink RX5 25 RX2 ∈ gw := gw_of (List.mem_of_getElem? (i := 139) (by decide +kernel)) rfl
theorem w140 : Cond.instantiable RX2 8 ∈ gw := gw_of (List.mem_of_getElem? (i := 140) (by decide +kernel)) rfl
theorem w119 : Cond.initialized RX2 ∈ gw := gw_of (List.mem_of_getElem? (i := 119) (by decide +kernel)) rfl
theorem nX5_25 : NL RX5 25 2 := ⟨RX2, TX2, tyX2, 8, rfl, rfl, inG2, tyX2_ok, by decide +kernel, w139, w140, w119⟩
theorem w177 : Cond.classLink RX5 40 RX3 ∈ gw := gw_of (List.mem_of_getElem? (i := 177) (by decide +kernel)) rfl
theorem w178 : Cond.instantiable RX3 5 ∈ gw := gw_of (List.mem_of_getElem? (i := 178) (by decide +kernel)) rfl
theorem w120 : Cond.initialized RX3 ∈ gw := gw_of (List.mem_of_getElem? (i := 120) (by decide +kernel)) rfl
theorem nX5_40 : NL RX5 40 3 := ⟨RX3, TX3, tyX3, 5, rfl, rfl, inG3, tyX3_ok, by decide +kernel, w177, w178, w120⟩
theorem w201 : Cond.classLink RX5 47 RX1 ∈ gw := gw_of (List.mem_of_getElem? (i := 201) (by decide +kernel)) rfl
theorem w202 : Cond.instantiable RX1 4 ∈ gw := gw_of (List.mem_of_getElem? (i := 202) (by decide +kernel)) rfl
theorem w121 : Cond.initialized RX1 ∈ gw := gw_of (List.mem_of_getElem? (i := 121) (by decide +kernel)) rfl
theorem nX5_47 : NL RX5 47 1 := ⟨RX1, TX1, tyX1, 4, rfl, rfl, inG1, tyX1_ok, by decide +kernel, w201, w202, w121⟩
def mX0_init : MS := (yX0_init, cX0_init, 1, none, 1, 12, 1, 10)
theorem w227 : Cond.code yX0_init cX0_init 1 none ∈ gw := gw_of (List.mem_of_getElem? (i := 227) (by decide +kernel)) rfl
theorem oX0_init : MOK mX0_init 0 := ⟨by decide +kernel, ⟨by decide +kernel, by decide +kernel⟩, by decide +kernel, w227, w122⟩
theorem w226 : Cond.instanceMethod yX0_init ∈ gw := gw_of (List.mem_of_getElem? (i := 226) (by decide +kernel)) rfl
theorem iX0_init : Cond.instanceMethod yX0_init ∈ gw := w226
def mX0_begin : MS := (yX0_begin, cX0_begin, 3, none, 0, 0, 0, 0)
theorem w347 : Cond.code yX0_begin cX0_begin 3 none ∈ gw := gw_of (List.mem_of_getElem? (i := 347) (by decide +kernel)) rfl
theorem oX0_begin : MOK mX0_begin 2 := ⟨by decide +kernel, ⟨by decide +kernel, by decide +kernel⟩, by decide +kernel, w347, w122⟩
theorem w346 : Cond.instanceMethod yX0_begin ∈ gw := gw_of (List.mem_of_getElem? (i := 346) (by decide +kernel)) rfl
theorem iX0_begin : Cond.instanceMethod yX0_begin ∈ gw := w346
theorem w1 : Cond.selects RX0 yX0_begin yX0_begin ∈ gw := gw_of (List.mem_of_getElem? (i := 1) (by decide +kernel)) rfl
theorem sX0_begin : Cond.selects RX0 yX0_begin yX0_begin ∈ gw := w1
def mX1_init : MS := (yX1_init, cX1_init, 1, none, 1, 12, 3, 60)
theorem w205 : Cond.code yX1_init cX1_init 1 none ∈ gw := gw_of (List.mem_of_getElem? (i := 205) (by decide +kernel)) rfl
theorem oX1_init : MOK mX1_init 0 := ⟨by decide +kernel, ⟨by decide +kernel, by decide +kernel⟩, by decide +kernel, w205, w121⟩
theorem w204 : Cond.instanceMethod yX1_init ∈ gw := gw_of (List.mem_of_getElem? (i := 204) (by decide +kernel)) rfl
theorem iX1_init : Cond.instanceMethod yX1_init ∈ gw := w204
def mX1_isThere : MS := (yX1_isThere, cX1_isThere, 2, (some .boolean), 0, 0, 0, 0)
theorem w730 : Cond.code yX1_isThere cX1_isThere 2 (some .boolean) ∈ gw := gw_of (List.mem_of_getElem? (i := 730) (by decide +kernel)) rfl
theorem oX1_isThere : MOK mX1_isThere 1 := ⟨by decide +kernel, ⟨by decide +kernel, by decide +kernel⟩, by decide +kernel, w730, w121⟩
theorem w729 : Cond.instanceMethod yX1_isThere ∈ gw := gw_of (List.mem_of_getElem? (i := 729) (by decide +kernel)) rfl
theorem iX1_isThere : Cond.instanceMethod yX1_isThere ∈ gw := w729
theorem w65 : Cond.selects RX1 yX1_isThere yX1_isThere ∈ gw := gw_of (List.mem_of_getElem? (i := 65) (by decide +kernel)) rfl
theorem sX1_isThere : Cond.selects RX1 yX1_isThere yX1_isThere ∈ gw := w65
def mX1_add : MS := (yX1_add, cX1_add, 4, (some .int), 0, 0, 0, 0)
theorem w734 : Cond.code yX1_add cX1_add 4 (some .int) ∈ gw := gw_of (List.mem_of_getElem? (i := 734) (by decide +kernel)) rfl
theorem oX1_add : MOK mX1_add 3 := ⟨by decide +kernel, ⟨by decide +kernel, by decide +kernel⟩, by decide +kernel, w734, w121⟩
theorem w733 : Cond.instanceMethod yX1_add ∈ gw := gw_of (List.mem_of_getElem? (i := 733) (by decide +kernel)) rfl
theorem iX1_add : Cond.instanceMethod yX1_add ∈ gw := w733
theorem w66 : Cond.selects RX1 yX1_add yX1_add ∈ gw := gw_of (List.mem_of_getElem? (i := 66) (by decide +kernel)) rfl
theorem sX1_add : Cond.selects RX1 yX1_add yX1_add ∈ gw := w66
def mX2_init : MS := (yX2_init, cX2_init, 2, none, 1, 12, 23, 1070)
theorem w143 : Cond.code yX2_init cX2_init 2 none ∈ gw := gw_of (List.mem_of_getElem? (i := 143) (by decide +kernel)) rfl
theorem oX2_init : MOK mX2_init 1 := ⟨by decide +kernel, ⟨by decide +kernel, by decide +kernel⟩, by decide +kernel, w143, w119⟩
theorem w142 : Cond.instanceMethod yX2_init ∈ gw := gw_of (List.mem_of_getElem? (i := 142) (by decide +kernel)) rfl
theorem iX2_init : Cond.instanceMethod yX2_init ∈ gw := w142
def mX2_isThere : MS := (yX2_isThere, cX2_isThere, 2, (some .boolean), 0, 0, 0, 0)
theorem w464 : Cond.code yX2_isThere cX2_isThere 2 (some .boolean) ∈ gw := gw_of (List.mem_of_getElem? (i := 464) (by decide +kernel)) rfl
theorem oX2_isThere : MOK mX2_isThere 1 := ⟨by decide +kernel, ⟨by decide +kernel, by decide +kernel⟩, by decide +kernel, w464, w119⟩
theorem w463 : Cond.instanceMethod yX2_isThere ∈ gw := gw_of (List.mem_of_getElem? (i := 463) (by decide +kernel)) rfl
theorem iX2_isThere : Cond.instanceMethod yX2_isThere ∈ gw := w463
theorem w15 : Cond.selects RX2 yX2_isThere yX2_isThere ∈ gw := gw_of (List.mem_of_getElem? (i := 15) (by decide +kernel)) rfl
theorem sX2_isThere : Cond.selects RX2 yX2_isThere yX2_isThere ∈ gw := w15
def mX2_value : MS := (yX2_value, cX2_value, 3, (some .int), 0, 0, 0, 0)
theorem w488 : Cond.code yX2_value cX2_value 3 (some .int) ∈ gw := gw_of (List.mem_of_getElem? (i := 488) (by decide +kernel)) rfl
theorem oX2_value : MOK mX2_value 2 := ⟨by decide +kernel, ⟨by decide +kernel, by decide +kernel⟩, by decide +kernel, w488, w119⟩
theorem w487 : Cond.instanceMethod yX2_value ∈ gw := gw_of (List.mem_of_getElem? (i := 487) (by decide +kernel)) rfl
theorem iX2_value : Cond.instanceMethod yX2_value ∈ gw := w487
theorem w21 : Cond.selects RX2 yX2_value yX2_value ∈ gw := gw_of (List.mem_of_getElem? (i := 21) (by decide +kernel)) rfl
theorem sX2_value : Cond.selects RX2 yX2_value yX2_value ∈ gw := w21
def mX2_set : MS := (yX2_set, cX2_set, 4, none, 0, 0, 0, 0)
theorem w560 : Cond.code yX2_set cX2_set 4 none ∈ gw := gw_of (List.mem_of_getElem? (i := 560) (by decide +kernel)) rfl
theorem oX2_set : MOK mX2_set 3 := ⟨by decide +kernel, ⟨by decide +kernel, by decide +kernel⟩, by decide +kernel, w560, w119⟩
theorem w559 : Cond.instanceMethod yX2_set ∈ gw := gw_of (List.mem_of_getElem? (i := 559) (by decide +kernel)) rfl
theorem iX2_set : Cond.instanceMethod yX2_set ∈ gw := w559
theorem w37 : Cond.selects RX2 yX2_set yX2_set ∈ gw := gw_of (List.mem_of_getElem? (i := 37) (by decide +kernel)) rfl
theorem sX2_set : Cond.selects RX2 yX2_set yX2_set ∈ gw := w37
def mX2_isFull : MS := (yX2_isFull, cX2_isFull, 1, (some .boolean), 0, 0, 0, 0)
theorem w552 : Cond.code yX2_isFull cX2_isFull 1 (some .boolean) ∈ gw := gw_of (List.mem_of_getElem? (i := 552) (by decide +kernel)) rfl
theorem oX2_isFull : MOK mX2_isFull 0 := ⟨by decide +kernel, ⟨by decide +kernel, by decide +kernel⟩, by decide +kernel, w552, w119⟩
theorem w551 : Cond.instanceMethod yX2_isFull ∈ gw := gw_of (List.mem_of_getElem? (i := 551) (by decide +kernel)) rfl
theorem iX2_isFull : Cond.instanceMethod yX2_isFull ∈ gw := w551
theorem w35 : Cond.selects RX2 yX2_isFull yX2_isFull ∈ gw := gw_of (List.mem_of_getElem? (i := 35) (by decide +kernel)) rfl
theorem sX2_isFull : Cond.selects RX2 yX2_isFull yX2_isFull ∈ gw := w35
def mX2_add : MS := (yX2_add, cX2_add, 2, (some .int), 1, 23, 0, 0)
theorem w556 : Cond.code yX2_add cX2_add 2 (some .int) ∈ gw := gw_of (List.mem_of_getElem? (i := 556) (by decide +kernel)) rfl
theorem oX2_add : MOK mX2_add 0 := ⟨by decide +kernel, ⟨by decide +kernel, by decide +kernel⟩, by decide +kernel, w556, w119⟩
theorem w555 : Cond.instanceMethod yX2_add ∈ gw := gw_of (List.mem_of_getElem? (i := 555) (by decide +kernel)) rfl
theorem iX2_add : Cond.instanceMethod yX2_add ∈ gw := w555
theorem w36 : Cond.selects RX2 yX2_add yX2_add ∈ gw := gw_of (List.mem_of_getElem? (i := 36) (by decide +kernel)) rfl
theorem sX2_add : Cond.selects RX2 yX2_add yX2_add ∈ gw := w36
def mX2_remove : MS := (yX2_remove, cX2_remove, 2, none, 1, 23, 0, 0)
theorem w645 : Cond.code yX2_remove cX2_remove 2 none ∈ gw := gw_of (List.mem_of_getElem? (i := 645) (by decide +kernel)) rfl
theorem oX2_remove : MOK mX2_remove 1 := ⟨by decide +kernel, ⟨by decide +kernel, by decide +kernel⟩, by decide +kernel, w645, w119⟩
theorem w644 : Cond.instanceMethod yX2_remove ∈ gw := gw_of (List.mem_of_getElem? (i := 644) (by decide +kernel)) rfl
theorem iX2_remove : Cond.instanceMethod yX2_remove ∈ gw := w644
theorem w57 : Cond.selects RX2 yX2_remove yX2_remove ∈ gw := gw_of (List.mem_of_getElem? (i := 57) (by decide +kernel)) rfl
theorem sX2_remove : Cond.selects RX2 yX2_remove yX2_remove ∈ gw := w57
def mX2_touch : MS := (yX2_touch, cX2_touch, 3, none, 0, 0, 0, 0)
theorem w564 : Cond.code yX2_touch cX2_touch 3 none ∈ gw := gw_of (List.mem_of_getElem? (i := 564) (by decide +kernel)) rfl
theorem oX2_touch : MOK mX2_touch 2 := ⟨by decide +kernel, ⟨by decide +kernel, by decide +kernel⟩, by decide +kernel, w564, w119⟩
theorem w563 : Cond.instanceMethod yX2_touch ∈ gw := gw_of (List.mem_of_getElem? (i := 563) (by decide +kernel)) rfl
theorem iX2_touch : Cond.instanceMethod yX2_touch ∈ gw := w563
theorem w38 : Cond.selects RX2 yX2_touch yX2_touch ∈ gw := gw_of (List.mem_of_getElem? (i := 38) (by decide +kernel)) rfl
theorem sX2_touch : Cond.selects RX2 yX2_touch yX2_touch ∈ gw := w38
def mX2_isTouched : MS := (yX2_isTouched, cX2_isTouched, 2, (some .boolean), 0, 0, 0, 0)
theorem w623 : Cond.code yX2_isTouched cX2_isTouched 2 (some .boolean) ∈ gw := gw_of (List.mem_of_getElem? (i := 623) (by decide +kernel)) rfl
theorem oX2_isTouched : MOK mX2_isTouched 1 := ⟨by decide +kernel, ⟨by decide +kernel, by decide +kernel⟩, by decide +kernel, w623, w119⟩
theorem w622 : Cond.instanceMethod yX2_isTouched ∈ gw := gw_of (List.mem_of_getElem? (i := 622) (by decide +kernel)) rfl
theorem iX2_isTouched : Cond.instanceMethod yX2_isTouched ∈ gw := w622
theorem w52 : Cond.selects RX2 yX2_isTouched yX2_isTouched ∈ gw := gw_of (List.mem_of_getElem? (i := 52) (by decide +kernel)) rfl
theorem sX2_isTouched : Cond.selects RX2 yX2_isTouched yX2_isTouched ∈ gw := w52
def mX2_howMany : MS := (yX2_howMany, cX2_howMany, 1, (some .int), 2, 46, 0, 0)
theorem w694 : Cond.code yX2_howMany cX2_howMany 1 (some .int) ∈ gw := gw_of (List.mem_of_getElem? (i := 694) (by decide +kernel)) rfl
theorem oX2_howMany : MOK mX2_howMany 0 := ⟨by decide +kernel, ⟨by decide +kernel, by decide +kernel⟩, by decide +kernel, w694, w119⟩
theorem w693 : Cond.instanceMethod yX2_howMany ∈ gw := gw_of (List.mem_of_getElem? (i := 693) (by decide +kernel)) rfl
theorem iX2_howMany : Cond.instanceMethod yX2_howMany ∈ gw := w693
theorem w63 : Cond.selects RX2 yX2_howMany yX2_howMany ∈ gw := gw_of (List.mem_of_getElem? (i := 63) (by decide +kernel)) rfl
theorem sX2_howMany : Cond.selects RX2 yX2_howMany yX2_howMany ∈ gw := w63
def mX2_howManyWith : MS := (yX2_howManyWith, cX2_howManyWith, 5, (some .int), 1, 22, 0, 0)
theorem w635 : Cond.code yX2_howManyWith cX2_howManyWith 5 (some .int) ∈ gw := gw_of (List.mem_of_getElem? (i := 635) (by decide +kernel)) rfl
theorem oX2_howManyWith : MOK mX2_howManyWith 2 := ⟨by decide +kernel, ⟨by decide +kernel, by decide +kernel⟩, by decide +kernel, w635, w119⟩
theorem w634 : Cond.instanceMethod yX2_howManyWith ∈ gw := gw_of (List.mem_of_getElem? (i := 634) (by decide +kernel)) rfl
theorem iX2_howManyWith : Cond.instanceMethod yX2_howManyWith ∈ gw := w634
theorem w55 : Cond.selects RX2 yX2_howManyWith yX2_howManyWith ∈ gw := gw_of (List.mem_of_getElem? (i := 55) (by decide +kernel)) rfl
theorem sX2_howManyWith : Cond.selects RX2 yX2_howManyWith yX2_howManyWith ∈ gw := w55
def mX2_idWith : MS := (yX2_idWith, cX2_idWith, 6, (some .int), 1, 22, 0, 0)
theorem w717 : Cond.code yX2_idWith cX2_idWith 6 (some .int) ∈ gw := gw_of (List.mem_of_getElem? (i := 717) (by decide +kernel)) rfl
theorem oX2_idWith : MOK mX2_idWith 3 := ⟨by decide +kernel, ⟨by decide +kernel, by decide +kernel⟩, by decide +kernel, w717, w119⟩
theorem w716 : Cond.instanceMethod yX2_idWith ∈ gw := gw_of (List.mem_of_getElem? (i := 716) (by decide +kernel)) rfl
theorem iX2_idWith : Cond.instanceMethod yX2_idWith ∈ gw := w716
theorem w64 : Cond.selects RX2 yX2_idWith yX2_idWith ∈ gw := gw_of (List.mem_of_getElem? (i := 64) (by decide +kernel)) rfl
theorem sX2_idWith : Cond.selects RX2 yX2_idWith yX2_idWith ∈ gw := w64
def mX2_keep : MS := (yX2_keep, cX2_keep, 2, none, 1, 26, 0, 0)
theorem w594 : Cond.code yX2_keep cX2_keep 2 none ∈ gw := gw_of (List.mem_of_getElem? (i := 594) (by decide +kernel)) rfl
theorem oX2_keep : MOK mX2_keep 0 := ⟨by decide +kernel, ⟨by decide +kernel, by decide +kernel⟩, by decide +kernel, w594, w119⟩
theorem w593 : Cond.instanceMethod yX2_keep ∈ gw := gw_of (List.mem_of_getElem? (i := 593) (by decide +kernel)) rfl
theorem iX2_keep : Cond.instanceMethod yX2_keep ∈ gw := w593
theorem w45 : Cond.selects RX2 yX2_keep yX2_keep ∈ gw := gw_of (List.mem_of_getElem? (i := 45) (by decide +kernel)) rfl
theorem sX2_keep : Cond.selects RX2 yX2_keep yX2_keep ∈ gw := w45
def mX2_bringBack : MS := (yX2_bringBack, cX2_bringBack, 2, none, 1, 26, 0, 0)
theorem w615 : Cond.code yX2_bringBack cX2_bringBack 2 none ∈ gw := gw_of (List.mem_of_getElem? (i := 615) (by decide +kernel)) rfl
theorem oX2_bringBack : MOK mX2_bringBack 0 := ⟨by decide +kernel, ⟨by decide +kernel, by decide +kernel⟩, by decide +kernel, w615, w119⟩
theorem w614 : Cond.instanceMethod yX2_bringBack ∈ gw := gw_of (List.mem_of_getElem? (i := 614) (by decide +kernel)) rfl
theorem iX2_bringBack : Cond.instanceMethod yX2_bringBack ∈ gw := w614
theorem w50 : Cond.selects RX2 yX2_bringBack yX2_bringBack ∈ gw := gw_of (List.mem_of_getElem? (i := 50) (by decide +kernel)) rfl
theorem sX2_bringBack : Cond.selects RX2 yX2_bringBack yX2_bringBack ∈ gw := w50
def mX2_forgetTouched : MS := (yX2_forgetTouched, cX2_forgetTouched, 2, none, 0, 0, 0, 0)
theorem w619 : Cond.code yX2_forgetTouched cX2_forgetTouched 2 none ∈ gw := gw_of (List.mem_of_getElem? (i := 619) (by decide +kernel)) rfl
theorem oX2_forgetTouched : MOK mX2_forgetTouched 0 := ⟨by decide +kernel, ⟨by decide +kernel, by decide +kernel⟩, by decide +kernel, w619, w119⟩
theorem w618 : Cond.instanceMethod yX2_forgetTouched ∈ gw := gw_of (List.mem_of_getElem? (i := 618) (by decide +kernel)) rfl
theorem iX2_forgetTouched : Cond.instanceMethod yX2_forgetTouched ∈ gw := w618
theorem w51 : Cond.selects RX2 yX2_forgetTouched yX2_forgetTouched ∈ gw := gw_of (List.mem_of_getElem? (i := 51) (by decide +kernel)) rfl
theorem sX2_forgetTouched : Cond.selects RX2 yX2_forgetTouched yX2_forgetTouched ∈ gw := w51
def mX3_init : MS := (yX3_init, cX3_init, 1, none, 1, 12, 7, 297)
theorem w181 : Cond.code yX3_init cX3_init 1 none ∈ gw := gw_of (List.mem_of_getElem? (i := 181) (by decide +kernel)) rfl
theorem oX3_init : MOK mX3_init 0 := ⟨by decide +kernel, ⟨by decide +kernel, by decide +kernel⟩, by decide +kernel, w181, w120⟩
theorem w180 : Cond.instanceMethod yX3_init ∈ gw := gw_of (List.mem_of_getElem? (i := 180) (by decide +kernel)) rfl
theorem iX3_init : Cond.instanceMethod yX3_init ∈ gw := w180
def mX3_at : MS := (yX3_at, cX3_at, 4, (some .int), 0, 0, 0, 0)
theorem w523 : Cond.code yX3_at cX3_at 4 (some .int) ∈ gw := gw_of (List.mem_of_getElem? (i := 523) (by decide +kernel)) rfl
theorem oX3_at : MOK mX3_at 2 := ⟨by decide +kernel, ⟨by decide +kernel, by decide +kernel⟩, by decide +kernel, w523, w120⟩
theorem w522 : Cond.instanceMethod yX3_at ∈ gw := gw_of (List.mem_of_getElem? (i := 522) (by decide +kernel)) rfl
theorem iX3_at : Cond.instanceMethod yX3_at ∈ gw := w522
theorem w28 : Cond.selects RX3 yX3_at yX3_at ∈ gw := gw_of (List.mem_of_getElem? (i := 28) (by decide +kernel)) rfl
theorem sX3_at : Cond.selects RX3 yX3_at yX3_at ∈ gw := w28
def mX3_add : MS := (yX3_add, cX3_add, 6, none, 3, 63, 0, 0)
theorem w661 : Cond.code yX3_add cX3_add 6 none ∈ gw := gw_of (List.mem_of_getElem? (i := 661) (by decide +kernel)) rfl
theorem oX3_add : MOK mX3_add 4 := ⟨by decide +kernel, ⟨by decide +kernel, by decide +kernel⟩, by decide +kernel, w661, w120⟩
theorem w660 : Cond.instanceMethod yX3_add ∈ gw := gw_of (List.mem_of_getElem? (i := 660) (by decide +kernel)) rfl
theorem iX3_add : Cond.instanceMethod yX3_add ∈ gw := w660
theorem w61 : Cond.selects RX3 yX3_add yX3_add ∈ gw := gw_of (List.mem_of_getElem? (i := 61) (by decide +kernel)) rfl
theorem sX3_add : Cond.selects RX3 yX3_add yX3_add ∈ gw := w61
def mX3_driveOut : MS := (yX3_driveOut, cX3_driveOut, 2, none, 2, 42, 0, 0)
theorem w665 : Cond.code yX3_driveOut cX3_driveOut 2 none ∈ gw := gw_of (List.mem_of_getElem? (i := 665) (by decide +kernel)) rfl
theorem oX3_driveOut : MOK mX3_driveOut 0 := ⟨by decide +kernel, ⟨by decide +kernel, by decide +kernel⟩, by decide +kernel, w665, w120⟩
theorem w664 : Cond.instanceMethod yX3_driveOut ∈ gw := gw_of (List.mem_of_getElem? (i := 664) (by decide +kernel)) rfl
theorem iX3_driveOut : Cond.instanceMethod yX3_driveOut ∈ gw := w664
theorem w62 : Cond.selects RX3 yX3_driveOut yX3_driveOut ∈ gw := gw_of (List.mem_of_getElem? (i := 62) (by decide +kernel)) rfl
theorem sX3_driveOut : Cond.selects RX3 yX3_driveOut yX3_driveOut ∈ gw := w62
def mX3_tellChanges : MS := (yX3_tellChanges, cX3_tellChanges, 6, (some .int), 3, 72, 0, 0)
theorem w506 : Cond.code yX3_tellChanges cX3_tellChanges 6 (some .int) ∈ gw := gw_of (List.mem_of_getElem? (i := 506) (by decide +kernel)) rfl
theorem oX3_tellChanges : MOK mX3_tellChanges 3 := ⟨by decide +kernel, ⟨by decide +kernel, by decide +kernel⟩, by decide +kernel, w506, w120⟩
theorem w505 : Cond.instanceMethod yX3_tellChanges ∈ gw := gw_of (List.mem_of_getElem? (i := 505) (by decide +kernel)) rfl
theorem iX3_tellChanges : Cond.instanceMethod yX3_tellChanges ∈ gw := w505
theorem w24 : Cond.selects RX3 yX3_tellChanges yX3_tellChanges ∈ gw := gw_of (List.mem_of_getElem? (i := 24) (by decide +kernel)) rfl
theorem sX3_tellChanges : Cond.selects RX3 yX3_tellChanges yX3_tellChanges ∈ gw := w24
def mX3_lastTellable : MS := (yX3_lastTellable, cX3_lastTellable, 7, (some .int), 2, 46, 0, 0)
theorem w511 : Cond.code yX3_lastTellable cX3_lastTellable 7 (some .int) ∈ gw := gw_of (List.mem_of_getElem? (i := 511) (by decide +kernel)) rfl
theorem oX3_lastTellable : MOK mX3_lastTellable 3 := ⟨by decide +kernel, ⟨by decide +kernel, by decide +kernel⟩, by decide +kernel, w511, w120⟩
theorem w510 : Cond.instanceMethod yX3_lastTellable ∈ gw := gw_of (List.mem_of_getElem? (i := 510) (by decide +kernel)) rfl
theorem iX3_lastTellable : Cond.instanceMethod yX3_lastTellable ∈ gw := w510
theorem w25 : Cond.selects RX3 yX3_lastTellable yX3_lastTellable ∈ gw := gw_of (List.mem_of_getElem? (i := 25) (by decide +kernel)) rfl
theorem sX3_lastTellable : Cond.selects RX3 yX3_lastTellable yX3_lastTellable ∈ gw := w25
def mX3_isOf : MS := (yX3_isOf, cX3_isOf, 4, (some .boolean), 1, 23, 0, 0)
theorem w519 : Cond.code yX3_isOf cX3_isOf 4 (some .boolean) ∈ gw := gw_of (List.mem_of_getElem? (i := 519) (by decide +kernel)) rfl
theorem oX3_isOf : MOK mX3_isOf 3 := ⟨by decide +kernel, ⟨by decide +kernel, by decide +kernel⟩, by decide +kernel, w519, w120⟩
theorem w518 : Cond.instanceMethod yX3_isOf ∈ gw := gw_of (List.mem_of_getElem? (i := 518) (by decide +kernel)) rfl
theorem iX3_isOf : Cond.instanceMethod yX3_isOf ∈ gw := w518
theorem w27 : Cond.selects RX3 yX3_isOf yX3_isOf ∈ gw := gw_of (List.mem_of_getElem? (i := 27) (by decide +kernel)) rfl
theorem sX3_isOf : Cond.selects RX3 yX3_isOf yX3_isOf ∈ gw := w27
def mX3_isLastOfState : MS := (yX3_isLastOfState, cX3_isLastOfState, 2, (some .boolean), 1, 23, 0, 0)
theorem w531 : Cond.code yX3_isLastOfState cX3_isLastOfState 2 (some .boolean) ∈ gw := gw_of (List.mem_of_getElem? (i := 531) (by decide +kernel)) rfl
theorem oX3_isLastOfState : MOK mX3_isLastOfState 1 := ⟨by decide +kernel, ⟨by decide +kernel, by decide +kernel⟩, by decide +kernel, w531, w120⟩
theorem w530 : Cond.instanceMethod yX3_isLastOfState ∈ gw := gw_of (List.mem_of_getElem? (i := 530) (by decide +kernel)) rfl
theorem iX3_isLastOfState : Cond.instanceMethod yX3_isLastOfState ∈ gw := w530
theorem w30 : Cond.selects RX3 yX3_isLastOfState yX3_isLastOfState ∈ gw := gw_of (List.mem_of_getElem? (i := 30) (by decide +kernel)) rfl
theorem sX3_isLastOfState : Cond.selects RX3 yX3_isLastOfState yX3_isLastOfState ∈ gw := w30
def mX3_forget : MS := (yX3_forget, cX3_forget, 2, none, 0, 0, 0, 0)
theorem w515 : Cond.code yX3_forget cX3_forget 2 none ∈ gw := gw_of (List.mem_of_getElem? (i := 515) (by decide +kernel)) rfl
theorem oX3_forget : MOK mX3_forget 0 := ⟨by decide +kernel, ⟨by decide +kernel, by decide +kernel⟩, by decide +kernel, w515, w120⟩
theorem w514 : Cond.instanceMethod yX3_forget ∈ gw := gw_of (List.mem_of_getElem? (i := 514) (by decide +kernel)) rfl
theorem iX3_forget : Cond.instanceMethod yX3_forget ∈ gw := w514
theorem w26 : Cond.selects RX3 yX3_forget yX3_forget ∈ gw := gw_of (List.mem_of_getElem? (i := 26) (by decide +kernel)) rfl
theorem sX3_forget : Cond.selects RX3 yX3_forget yX3_forget ∈ gw := w26
def mX3_meet : MS := (yX3_meet, cX3_meet, 4, (some .int), 0, 0, 0, 0)
theorem w527 : Cond.code yX3_meet cX3_meet 4 (some .int) ∈ gw := gw_of (List.mem_of_getElem? (i := 527) (by decide +kernel)) rfl
theorem oX3_meet : MOK mX3_meet 2 := ⟨by decide +kernel, ⟨by decide +kernel, by decide +kernel⟩, by decide +kernel, w527, w120⟩
theorem w526 : Cond.instanceMethod yX3_meet ∈ gw := gw_of (List.mem_of_getElem? (i := 526) (by decide +kernel)) rfl
theorem iX3_meet : Cond.instanceMethod yX3_meet ∈ gw := w526
theorem w29 : Cond.selects RX3 yX3_meet yX3_meet ∈ gw := gw_of (List.mem_of_getElem? (i := 29) (by decide +kernel)) rfl
theorem sX3_meet : Cond.selects RX3 yX3_meet yX3_meet ∈ gw := w29
def mX4_init : MS := (yX4_init, cX4_init, 1, none, 1, 12, 6, 208)
theorem w279 : Cond.code yX4_init cX4_init 1 none ∈ gw := gw_of (List.mem_of_getElem? (i := 279) (by decide +kernel)) rfl
theorem oX4_init : MOK mX4_init 0 := ⟨by decide +kernel, ⟨by decide +kernel, by decide +kernel⟩, by decide +kernel, w279, w123⟩
theorem w278 : Cond.instanceMethod yX4_init ∈ gw := gw_of (List.mem_of_getElem? (i := 278) (by decide +kernel)) rfl
theorem iX4_init : Cond.instanceMethod yX4_init ∈ gw := w278
def mX4_clear : MS := (yX4_clear, cX4_clear, 2, none, 0, 0, 0, 0)
theorem w382 : Cond.code yX4_clear cX4_clear 2 none ∈ gw := gw_of (List.mem_of_getElem? (i := 382) (by decide +kernel)) rfl
theorem oX4_clear : MOK mX4_clear 0 := ⟨by decide +kernel, ⟨by decide +kernel, by decide +kernel⟩, by decide +kernel, w382, w123⟩
theorem w381 : Cond.instanceMethod yX4_clear ∈ gw := gw_of (List.mem_of_getElem? (i := 381) (by decide +kernel)) rfl
theorem iX4_clear : Cond.instanceMethod yX4_clear ∈ gw := w381
theorem w2 : Cond.selects RX4 yX4_clear yX4_clear ∈ gw := gw_of (List.mem_of_getElem? (i := 2) (by decide +kernel)) rfl
theorem sX4_clear : Cond.selects RX4 yX4_clear yX4_clear ∈ gw := w2
def mX4_add : MS := (yX4_add, cX4_add, 3, none, 0, 0, 0, 0)
theorem w468 : Cond.code yX4_add cX4_add 3 none ∈ gw := gw_of (List.mem_of_getElem? (i := 468) (by decide +kernel)) rfl
theorem oX4_add : MOK mX4_add 2 := ⟨by decide +kernel, ⟨by decide +kernel, by decide +kernel⟩, by decide +kernel, w468, w123⟩
theorem w467 : Cond.instanceMethod yX4_add ∈ gw := gw_of (List.mem_of_getElem? (i := 467) (by decide +kernel)) rfl
theorem iX4_add : Cond.instanceMethod yX4_add ∈ gw := w467
theorem w16 : Cond.selects RX4 yX4_add yX4_add ∈ gw := gw_of (List.mem_of_getElem? (i := 16) (by decide +kernel)) rfl
theorem sX4_add : Cond.selects RX4 yX4_add yX4_add ∈ gw := w16
def mX4_count : MS := (yX4_count, cX4_count, 2, (some .int), 0, 0, 0, 0)
theorem w428 : Cond.code yX4_count cX4_count 2 (some .int) ∈ gw := gw_of (List.mem_of_getElem? (i := 428) (by decide +kernel)) rfl
theorem oX4_count : MOK mX4_count 1 := ⟨by decide +kernel, ⟨by decide +kernel, by decide +kernel⟩, by decide +kernel, w428, w123⟩
theorem w427 : Cond.instanceMethod yX4_count ∈ gw := gw_of (List.mem_of_getElem? (i := 427) (by decide +kernel)) rfl
theorem iX4_count : Cond.instanceMethod yX4_count ∈ gw := w427
theorem w7 : Cond.selects RX4 yX4_count yX4_count ∈ gw := gw_of (List.mem_of_getElem? (i := 7) (by decide +kernel)) rfl
theorem sX4_count : Cond.selects RX4 yX4_count yX4_count ∈ gw := w7
def mX4_at : MS := (yX4_at, cX4_at, 3, (some .int), 1, 21, 0, 0)
theorem w451 : Cond.code yX4_at cX4_at 3 (some .int) ∈ gw := gw_of (List.mem_of_getElem? (i := 451) (by decide +kernel)) rfl
theorem oX4_at : MOK mX4_at 2 := ⟨by decide +kernel, ⟨by decide +kernel, by decide +kernel⟩, by decide +kernel, w451, w123⟩
theorem w450 : Cond.instanceMethod yX4_at ∈ gw := gw_of (List.mem_of_getElem? (i := 450) (by decide +kernel)) rfl
theorem iX4_at : Cond.instanceMethod yX4_at ∈ gw := w450
theorem w12 : Cond.selects RX4 yX4_at yX4_at ∈ gw := gw_of (List.mem_of_getElem? (i := 12) (by decide +kernel)) rfl
theorem sX4_at : Cond.selects RX4 yX4_at yX4_at ∈ gw := w12
def mX5_init : MS := (yX5_init, cX5_init, 2, none, 2, 33, 196, 6480)
theorem w131 : Cond.code yX5_init cX5_init 2 none ∈ gw := gw_of (List.mem_of_getElem? (i := 131) (by decide +kernel)) rfl
theorem w118 : Cond.initialized RX5 ∈ gw := gw_of (List.mem_of_getElem? (i := 118) (by decide +kernel)) rfl
theorem oX5_init : MOK mX5_init 0 := ⟨by decide +kernel, ⟨by decide +kernel, by decide +kernel⟩, by decide +kernel, w131, w118⟩
theorem w130 : Cond.instanceMethod yX5_init ∈ gw := gw_of (List.mem_of_getElem? (i := 130) (by decide +kernel)) rfl
theorem iX5_init : Cond.instanceMethod yX5_init ∈ gw := w130
def mX5_draft : MS := (yX5_draft, cX5_draft, 4, (some .int), 0, 0, 0, 0)
theorem w335 : Cond.code yX5_draft cX5_draft 4 (some .int) ∈ gw := gw_of (List.mem_of_getElem? (i := 335) (by decide +kernel)) rfl
theorem oX5_draft : MOK mX5_draft 2 := ⟨by decide +kernel, ⟨by decide +kernel, by decide +kernel⟩, by decide +kernel, w335, w118⟩
theorem w333 : Cond.instanceMethod yX5_draft ∈ gw := gw_of (List.mem_of_getElem? (i := 333) (by decide +kernel)) rfl
theorem iX5_draft : Cond.instanceMethod yX5_draft ∈ gw := w333
theorem w334 : Cond.selects RX5 yX5_draft yX5_draft ∈ gw := gw_of (List.mem_of_getElem? (i := 334) (by decide +kernel)) rfl
theorem sX5_draft : Cond.selects RX5 yX5_draft yX5_draft ∈ gw := w334
def mX5_get : MS := (yX5_get, cX5_get, 4, (some .int), 2, 49, 0, 0)
theorem w339 : Cond.code yX5_get cX5_get 4 (some .int) ∈ gw := gw_of (List.mem_of_getElem? (i := 339) (by decide +kernel)) rfl
theorem oX5_get : MOK mX5_get 3 := ⟨by decide +kernel, ⟨by decide +kernel, by decide +kernel⟩, by decide +kernel, w339, w118⟩
theorem w337 : Cond.instanceMethod yX5_get ∈ gw := gw_of (List.mem_of_getElem? (i := 337) (by decide +kernel)) rfl
theorem iX5_get : Cond.instanceMethod yX5_get ∈ gw := w337
theorem w338 : Cond.selects RX5 yX5_get yX5_get ∈ gw := gw_of (List.mem_of_getElem? (i := 338) (by decide +kernel)) rfl
theorem sX5_get : Cond.selects RX5 yX5_get yX5_get ∈ gw := w338
def mX5_query : MS := (yX5_query, cX5_query, 6, (some .int), 1, 22, 0, 0)
theorem w351 : Cond.code yX5_query cX5_query 6 (some .int) ∈ gw := gw_of (List.mem_of_getElem? (i := 351) (by decide +kernel)) rfl
theorem oX5_query : MOK mX5_query 4 := ⟨by decide +kernel, ⟨by decide +kernel, by decide +kernel⟩, by decide +kernel, w351, w118⟩
theorem w349 : Cond.instanceMethod yX5_query ∈ gw := gw_of (List.mem_of_getElem? (i := 349) (by decide +kernel)) rfl
theorem iX5_query : Cond.instanceMethod yX5_query ∈ gw := w349
theorem w350 : Cond.selects RX5 yX5_query yX5_query ∈ gw := gw_of (List.mem_of_getElem? (i := 350) (by decide +kernel)) rfl
theorem sX5_query : Cond.selects RX5 yX5_query yX5_query ∈ gw := w350
def mX5_changes : MS := (yX5_changes, cX5_changes, 5, (some .int), 1, 22, 0, 0)
theorem w355 : Cond.code yX5_changes cX5_changes 5 (some .int) ∈ gw := gw_of (List.mem_of_getElem? (i := 355) (by decide +kernel)) rfl
theorem oX5_changes : MOK mX5_changes 3 := ⟨by decide +kernel, ⟨by decide +kernel, by decide +kernel⟩, by decide +kernel, w355, w118⟩
theorem w353 : Cond.instanceMethod yX5_changes ∈ gw := gw_of (List.mem_of_getElem? (i := 353) (by decide +kernel)) rfl
theorem iX5_changes : Cond.instanceMethod yX5_changes ∈ gw := w353
theorem w354 : Cond.selects RX5 yX5_changes yX5_changes ∈ gw := gw_of (List.mem_of_getElem? (i := 354) (by decide +kernel)) rfl
theorem sX5_changes : Cond.selects RX5 yX5_changes yX5_changes ∈ gw := w354
def mX5_make : MS := (yX5_make, cX5_make, 4, (some .int), 1, 26, 0, 0)
theorem w359 : Cond.code yX5_make cX5_make 4 (some .int) ∈ gw := gw_of (List.mem_of_getElem? (i := 359) (by decide +kernel)) rfl
theorem oX5_make : MOK mX5_make 2 := ⟨by decide +kernel, ⟨by decide +kernel, by decide +kernel⟩, by decide +kernel, w359, w118⟩
theorem w357 : Cond.instanceMethod yX5_make ∈ gw := gw_of (List.mem_of_getElem? (i := 357) (by decide +kernel)) rfl
theorem iX5_make : Cond.instanceMethod yX5_make ∈ gw := w357
theorem w358 : Cond.selects RX5 yX5_make yX5_make ∈ gw := gw_of (List.mem_of_getElem? (i := 358) (by decide +kernel)) rfl
theorem sX5_make : Cond.selects RX5 yX5_make yX5_make ∈ gw := w358
def mX5_change : MS := (yX5_change, cX5_change, 6, (some .int), 2, 49, 0, 0)
theorem w366 : Cond.code yX5_change cX5_change 6 (some .int) ∈ gw := gw_of (List.mem_of_getElem? (i := 366) (by decide +kernel)) rfl
theorem oX5_change : MOK mX5_change 5 := ⟨by decide +kernel, ⟨by decide +kernel, by decide +kernel⟩, by decide +kernel, w366, w118⟩
theorem w364 : Cond.instanceMethod yX5_change ∈ gw := gw_of (List.mem_of_getElem? (i := 364) (by decide +kernel)) rfl
theorem iX5_change : Cond.instanceMethod yX5_change ∈ gw := w364
theorem w365 : Cond.selects RX5 yX5_change yX5_change ∈ gw := gw_of (List.mem_of_getElem? (i := 365) (by decide +kernel)) rfl
theorem sX5_change : Cond.selects RX5 yX5_change yX5_change ∈ gw := w365
def mX5_destroy : MS := (yX5_destroy, cX5_destroy, 4, (some .int), 2, 49, 0, 0)
theorem w370 : Cond.code yX5_destroy cX5_destroy 4 (some .int) ∈ gw := gw_of (List.mem_of_getElem? (i := 370) (by decide +kernel)) rfl
theorem oX5_destroy : MOK mX5_destroy 3 := ⟨by decide +kernel, ⟨by decide +kernel, by decide +kernel⟩, by decide +kernel, w370, w118⟩
theorem w368 : Cond.instanceMethod yX5_destroy ∈ gw := gw_of (List.mem_of_getElem? (i := 368) (by decide +kernel)) rfl
theorem iX5_destroy : Cond.instanceMethod yX5_destroy ∈ gw := w368
theorem w369 : Cond.selects RX5 yX5_destroy yX5_destroy ∈ gw := gw_of (List.mem_of_getElem? (i := 369) (by decide +kernel)) rfl
theorem sX5_destroy : Cond.selects RX5 yX5_destroy yX5_destroy ∈ gw := w369
def mX5_crash : MS := (yX5_crash, cX5_crash, 2, (some .int), 0, 0, 0, 0)
theorem w374 : Cond.code yX5_crash cX5_crash 2 (some .int) ∈ gw := gw_of (List.mem_of_getElem? (i := 374) (by decide +kernel)) rfl
theorem oX5_crash : MOK mX5_crash 1 := ⟨by decide +kernel, ⟨by decide +kernel, by decide +kernel⟩, by decide +kernel, w374, w118⟩
theorem w372 : Cond.instanceMethod yX5_crash ∈ gw := gw_of (List.mem_of_getElem? (i := 372) (by decide +kernel)) rfl
theorem iX5_crash : Cond.instanceMethod yX5_crash ∈ gw := w372
theorem w373 : Cond.selects RX5 yX5_crash yX5_crash ∈ gw := gw_of (List.mem_of_getElem? (i := 373) (by decide +kernel)) rfl
theorem sX5_crash : Cond.selects RX5 yX5_crash yX5_crash ∈ gw := w373
def mX5_run : MS := (yX5_run, cX5_run, 5, (some .int), 6, 140, 0, 0)
theorem w378 : Cond.code yX5_run cX5_run 5 (some .int) ∈ gw := gw_of (List.mem_of_getElem? (i := 378) (by decide +kernel)) rfl
theorem oX5_run : MOK mX5_run 0 := ⟨by decide +kernel, ⟨by decide +kernel, by decide +kernel⟩, by decide +kernel, w378, w118⟩
theorem w376 : Cond.instanceMethod yX5_run ∈ gw := gw_of (List.mem_of_getElem? (i := 376) (by decide +kernel)) rfl
theorem iX5_run : Cond.instanceMethod yX5_run ∈ gw := w376
theorem w377 : Cond.selects RX5 yX5_run yX5_run ∈ gw := gw_of (List.mem_of_getElem? (i := 377) (by decide +kernel)) rfl
theorem sX5_run : Cond.selects RX5 yX5_run yX5_run ∈ gw := w377
def mX5_drop : MS := (yX5_drop, cX5_drop, 2, (some .int), 0, 0, 0, 0)
theorem w670 : Cond.code yX5_drop cX5_drop 2 (some .int) ∈ gw := gw_of (List.mem_of_getElem? (i := 670) (by decide +kernel)) rfl
theorem oX5_drop : MOK mX5_drop 0 := ⟨by decide +kernel, ⟨by decide +kernel, by decide +kernel⟩, by decide +kernel, w670, w118⟩
theorem w668 : Cond.instanceMethod yX5_drop ∈ gw := gw_of (List.mem_of_getElem? (i := 668) (by decide +kernel)) rfl
theorem iX5_drop : Cond.instanceMethod yX5_drop ∈ gw := w668
theorem w669 : Cond.selects RX5 yX5_drop yX5_drop ∈ gw := gw_of (List.mem_of_getElem? (i := 669) (by decide +kernel)) rfl
theorem sX5_drop : Cond.selects RX5 yX5_drop yX5_drop ∈ gw := w669
def mX5_status : MS := (yX5_status, cX5_status, 2, (some .int), 0, 0, 0, 0)
theorem w674 : Cond.code yX5_status cX5_status 2 (some .int) ∈ gw := gw_of (List.mem_of_getElem? (i := 674) (by decide +kernel)) rfl
theorem oX5_status : MOK mX5_status 1 := ⟨by decide +kernel, ⟨by decide +kernel, by decide +kernel⟩, by decide +kernel, w674, w118⟩
theorem w672 : Cond.instanceMethod yX5_status ∈ gw := gw_of (List.mem_of_getElem? (i := 672) (by decide +kernel)) rfl
theorem iX5_status : Cond.instanceMethod yX5_status ∈ gw := w672
theorem w673 : Cond.selects RX5 yX5_status yX5_status ∈ gw := gw_of (List.mem_of_getElem? (i := 673) (by decide +kernel)) rfl
theorem sX5_status : Cond.selects RX5 yX5_status yX5_status ∈ gw := w673
def mX5_many : MS := (yX5_many, cX5_many, 3, (some .int), 1, 21, 0, 0)
theorem w678 : Cond.code yX5_many cX5_many 3 (some .int) ∈ gw := gw_of (List.mem_of_getElem? (i := 678) (by decide +kernel)) rfl
theorem oX5_many : MOK mX5_many 2 := ⟨by decide +kernel, ⟨by decide +kernel, by decide +kernel⟩, by decide +kernel, w678, w118⟩
theorem w676 : Cond.instanceMethod yX5_many ∈ gw := gw_of (List.mem_of_getElem? (i := 676) (by decide +kernel)) rfl
theorem iX5_many : Cond.instanceMethod yX5_many ∈ gw := w676
theorem w677 : Cond.selects RX5 yX5_many yX5_many ∈ gw := gw_of (List.mem_of_getElem? (i := 677) (by decide +kernel)) rfl
theorem sX5_many : Cond.selects RX5 yX5_many yX5_many ∈ gw := w677
def mX5_given : MS := (yX5_given, cX5_given, 4, (some .int), 2, 43, 0, 0)
theorem w682 : Cond.code yX5_given cX5_given 4 (some .int) ∈ gw := gw_of (List.mem_of_getElem? (i := 682) (by decide +kernel)) rfl
theorem oX5_given : MOK mX5_given 3 := ⟨by decide +kernel, ⟨by decide +kernel, by decide +kernel⟩, by decide +kernel, w682, w118⟩
theorem w680 : Cond.instanceMethod yX5_given ∈ gw := gw_of (List.mem_of_getElem? (i := 680) (by decide +kernel)) rfl
theorem iX5_given : Cond.instanceMethod yX5_given ∈ gw := w680
theorem w681 : Cond.selects RX5 yX5_given yX5_given ∈ gw := gw_of (List.mem_of_getElem? (i := 681) (by decide +kernel)) rfl
theorem sX5_given : Cond.selects RX5 yX5_given yX5_given ∈ gw := w681
def mX5_state : MS := (yX5_state, cX5_state, 2, (some .int), 2, 42, 0, 0)
theorem w686 : Cond.code yX5_state cX5_state 2 (some .int) ∈ gw := gw_of (List.mem_of_getElem? (i := 686) (by decide +kernel)) rfl
theorem oX5_state : MOK mX5_state 1 := ⟨by decide +kernel, ⟨by decide +kernel, by decide +kernel⟩, by decide +kernel, w686, w118⟩
theorem w684 : Cond.instanceMethod yX5_state ∈ gw := gw_of (List.mem_of_getElem? (i := 684) (by decide +kernel)) rfl
theorem iX5_state : Cond.instanceMethod yX5_state ∈ gw := w684
theorem w685 : Cond.selects RX5 yX5_state yX5_state ∈ gw := gw_of (List.mem_of_getElem? (i := 685) (by decide +kernel)) rfl
theorem sX5_state : Cond.selects RX5 yX5_state yX5_state ∈ gw := w685
def mX5_told : MS := (yX5_told, cX5_told, 2, (some .int), 3, 66, 0, 0)
theorem w690 : Cond.code yX5_told cX5_told 2 (some .int) ∈ gw := gw_of (List.mem_of_getElem? (i := 690) (by decide +kernel)) rfl
theorem oX5_told : MOK mX5_told 1 := ⟨by decide +kernel, ⟨by decide +kernel, by decide +kernel⟩, by decide +kernel, w690, w118⟩
theorem w688 : Cond.instanceMethod yX5_told ∈ gw := gw_of (List.mem_of_getElem? (i := 688) (by decide +kernel)) rfl
theorem iX5_told : Cond.instanceMethod yX5_told ∈ gw := w688
theorem w689 : Cond.selects RX5 yX5_told yX5_told ∈ gw := gw_of (List.mem_of_getElem? (i := 689) (by decide +kernel)) rfl
theorem sX5_told : Cond.selects RX5 yX5_told yX5_told ∈ gw := w689
def mX5_box : MS := (yX5_box, cX5_box, 3, (some .int), 3, 67, 0, 0)
theorem w699 : Cond.code yX5_box cX5_box 3 (some .int) ∈ gw := gw_of (List.mem_of_getElem? (i := 699) (by decide +kernel)) rfl
theorem oX5_box : MOK mX5_box 2 := ⟨by decide +kernel, ⟨by decide +kernel, by decide +kernel⟩, by decide +kernel, w699, w118⟩
theorem w697 : Cond.instanceMethod yX5_box ∈ gw := gw_of (List.mem_of_getElem? (i := 697) (by decide +kernel)) rfl
theorem iX5_box : Cond.instanceMethod yX5_box ∈ gw := w697
theorem w698 : Cond.selects RX5 yX5_box yX5_box ∈ gw := gw_of (List.mem_of_getElem? (i := 698) (by decide +kernel)) rfl
theorem sX5_box : Cond.selects RX5 yX5_box yX5_box ∈ gw := w698
def mX5_mail : MS := (yX5_mail, cX5_mail, 3, (some .int), 2, 44, 0, 0)
theorem w703 : Cond.code yX5_mail cX5_mail 3 (some .int) ∈ gw := gw_of (List.mem_of_getElem? (i := 703) (by decide +kernel)) rfl
theorem oX5_mail : MOK mX5_mail 2 := ⟨by decide +kernel, ⟨by decide +kernel, by decide +kernel⟩, by decide +kernel, w703, w118⟩
theorem w701 : Cond.instanceMethod yX5_mail ∈ gw := gw_of (List.mem_of_getElem? (i := 701) (by decide +kernel)) rfl
theorem iX5_mail : Cond.instanceMethod yX5_mail ∈ gw := w701
theorem w702 : Cond.selects RX5 yX5_mail yX5_mail ∈ gw := gw_of (List.mem_of_getElem? (i := 702) (by decide +kernel)) rfl
theorem sX5_mail : Cond.selects RX5 yX5_mail yX5_mail ∈ gw := w702
def mX5_thread : MS := (yX5_thread, cX5_thread, 3, (some .int), 2, 47, 0, 0)
theorem w713 : Cond.code yX5_thread cX5_thread 3 (some .int) ∈ gw := gw_of (List.mem_of_getElem? (i := 713) (by decide +kernel)) rfl
theorem oX5_thread : MOK mX5_thread 2 := ⟨by decide +kernel, ⟨by decide +kernel, by decide +kernel⟩, by decide +kernel, w713, w118⟩
theorem w711 : Cond.instanceMethod yX5_thread ∈ gw := gw_of (List.mem_of_getElem? (i := 711) (by decide +kernel)) rfl
theorem iX5_thread : Cond.instanceMethod yX5_thread ∈ gw := w711
theorem w712 : Cond.selects RX5 yX5_thread yX5_thread ∈ gw := gw_of (List.mem_of_getElem? (i := 712) (by decide +kernel)) rfl
theorem sX5_thread : Cond.selects RX5 yX5_thread yX5_thread ∈ gw := w712
def mX5_entry : MS := (yX5_entry, cX5_entry, 3, (some .int), 1, 23, 0, 0)
theorem w721 : Cond.code yX5_entry cX5_entry 3 (some .int) ∈ gw := gw_of (List.mem_of_getElem? (i := 721) (by decide +kernel)) rfl
theorem oX5_entry : MOK mX5_entry 2 := ⟨by decide +kernel, ⟨by decide +kernel, by decide +kernel⟩, by decide +kernel, w721, w118⟩
theorem w719 : Cond.instanceMethod yX5_entry ∈ gw := gw_of (List.mem_of_getElem? (i := 719) (by decide +kernel)) rfl
theorem iX5_entry : Cond.instanceMethod yX5_entry ∈ gw := w719
theorem w720 : Cond.selects RX5 yX5_entry yX5_entry ∈ gw := gw_of (List.mem_of_getElem? (i := 720) (by decide +kernel)) rfl
theorem sX5_entry : Cond.selects RX5 yX5_entry yX5_entry ∈ gw := w720
def mX5_filter : MS := (yX5_filter, cX5_filter, 5, (some .int), 1, 23, 0, 0)
theorem w726 : Cond.code yX5_filter cX5_filter 5 (some .int) ∈ gw := gw_of (List.mem_of_getElem? (i := 726) (by decide +kernel)) rfl
theorem oX5_filter : MOK mX5_filter 3 := ⟨by decide +kernel, ⟨by decide +kernel, by decide +kernel⟩, by decide +kernel, w726, w118⟩
theorem w724 : Cond.instanceMethod yX5_filter ∈ gw := gw_of (List.mem_of_getElem? (i := 724) (by decide +kernel)) rfl
theorem iX5_filter : Cond.instanceMethod yX5_filter ∈ gw := w724
theorem w725 : Cond.selects RX5 yX5_filter yX5_filter ∈ gw := gw_of (List.mem_of_getElem? (i := 725) (by decide +kernel)) rfl
theorem sX5_filter : Cond.selects RX5 yX5_filter yX5_filter ∈ gw := w725
def mX5_fits : MS := (yX5_fits, cX5_fits, 3, (some .int), 4, 93, 0, 0)
theorem w738 : Cond.code yX5_fits cX5_fits 3 (some .int) ∈ gw := gw_of (List.mem_of_getElem? (i := 738) (by decide +kernel)) rfl
theorem oX5_fits : MOK mX5_fits 2 := ⟨by decide +kernel, ⟨by decide +kernel, by decide +kernel⟩, by decide +kernel, w738, w118⟩
theorem w736 : Cond.instanceMethod yX5_fits ∈ gw := gw_of (List.mem_of_getElem? (i := 736) (by decide +kernel)) rfl
theorem iX5_fits : Cond.instanceMethod yX5_fits ∈ gw := w736
theorem w737 : Cond.selects RX5 yX5_fits yX5_fits ∈ gw := gw_of (List.mem_of_getElem? (i := 737) (by decide +kernel)) rfl
theorem sX5_fits : Cond.selects RX5 yX5_fits yX5_fits ∈ gw := w737
def mX5_putOfIds : MS := (yX5_putOfIds, cX5_putOfIds, 8, (some .int), 1, 22, 0, 0)
theorem w343 : Cond.code yX5_putOfIds cX5_putOfIds 8 (some .int) ∈ gw := gw_of (List.mem_of_getElem? (i := 343) (by decide +kernel)) rfl
theorem oX5_putOfIds : MOK mX5_putOfIds 6 := ⟨by decide +kernel, ⟨by decide +kernel, by decide +kernel⟩, by decide +kernel, w343, w118⟩
theorem w342 : Cond.instanceMethod yX5_putOfIds ∈ gw := gw_of (List.mem_of_getElem? (i := 342) (by decide +kernel)) rfl
theorem iX5_putOfIds : Cond.instanceMethod yX5_putOfIds ∈ gw := w342
theorem w0 : Cond.selects RX5 yX5_putOfIds yX5_putOfIds ∈ gw := gw_of (List.mem_of_getElem? (i := 0) (by decide +kernel)) rfl
theorem sX5_putOfIds : Cond.selects RX5 yX5_putOfIds yX5_putOfIds ∈ gw := w0
def mX5_isWithin : MS := (yX5_isWithin, cX5_isWithin, 3, (some .boolean), 0, 0, 0, 0)
theorem w395 : Cond.code yX5_isWithin cX5_isWithin 3 (some .boolean) ∈ gw := gw_of (List.mem_of_getElem? (i := 395) (by decide +kernel)) rfl
theorem oX5_isWithin : MOK mX5_isWithin 3 := ⟨by decide +kernel, ⟨by decide +kernel, by decide +kernel⟩, by decide +kernel, w395, w118⟩
theorem w394 : Cond.static yX5_isWithin ∈ gw := gw_of (List.mem_of_getElem? (i := 394) (by decide +kernel)) rfl
theorem iX5_isWithin : Cond.static yX5_isWithin ∈ gw := w394
def mX5_isKind : MS := (yX5_isKind, cX5_isKind, 1, (some .boolean), 1, 22, 0, 0)
theorem w392 : Cond.code yX5_isKind cX5_isKind 1 (some .boolean) ∈ gw := gw_of (List.mem_of_getElem? (i := 392) (by decide +kernel)) rfl
theorem oX5_isKind : MOK mX5_isKind 1 := ⟨by decide +kernel, ⟨by decide +kernel, by decide +kernel⟩, by decide +kernel, w392, w118⟩
theorem w391 : Cond.static yX5_isKind ∈ gw := gw_of (List.mem_of_getElem? (i := 391) (by decide +kernel)) rfl
theorem iX5_isKind : Cond.static yX5_isKind ∈ gw := w391
def mX5_isAsTold : MS := (yX5_isAsTold, cX5_isAsTold, 1, (some .boolean), 3, 65, 0, 0)
theorem w389 : Cond.code yX5_isAsTold cX5_isAsTold 1 (some .boolean) ∈ gw := gw_of (List.mem_of_getElem? (i := 389) (by decide +kernel)) rfl
theorem oX5_isAsTold : MOK mX5_isAsTold 1 := ⟨by decide +kernel, ⟨by decide +kernel, by decide +kernel⟩, by decide +kernel, w389, w118⟩
theorem w388 : Cond.static yX5_isAsTold ∈ gw := gw_of (List.mem_of_getElem? (i := 388) (by decide +kernel)) rfl
theorem iX5_isAsTold : Cond.static yX5_isAsTold ∈ gw := w388
def mX5_areIdsAsTold : MS := (yX5_areIdsAsTold, cX5_areIdsAsTold, 1, (some .boolean), 1, 22, 0, 0)
theorem w398 : Cond.code yX5_areIdsAsTold cX5_areIdsAsTold 1 (some .boolean) ∈ gw := gw_of (List.mem_of_getElem? (i := 398) (by decide +kernel)) rfl
theorem oX5_areIdsAsTold : MOK mX5_areIdsAsTold 1 := ⟨by decide +kernel, ⟨by decide +kernel, by decide +kernel⟩, by decide +kernel, w398, w118⟩
theorem w397 : Cond.static yX5_areIdsAsTold ∈ gw := gw_of (List.mem_of_getElem? (i := 397) (by decide +kernel)) rfl
theorem iX5_areIdsAsTold : Cond.static yX5_areIdsAsTold ∈ gw := w397
def mX5_isDraftAsTold : MS := (yX5_isDraftAsTold, cX5_isDraftAsTold, 3, (some .boolean), 2, 43, 0, 0)
theorem w401 : Cond.code yX5_isDraftAsTold cX5_isDraftAsTold 3 (some .boolean) ∈ gw := gw_of (List.mem_of_getElem? (i := 401) (by decide +kernel)) rfl
theorem oX5_isDraftAsTold : MOK mX5_isDraftAsTold 1 := ⟨by decide +kernel, ⟨by decide +kernel, by decide +kernel⟩, by decide +kernel, w401, w118⟩
theorem w400 : Cond.static yX5_isDraftAsTold ∈ gw := gw_of (List.mem_of_getElem? (i := 400) (by decide +kernel)) rfl
theorem iX5_isDraftAsTold : Cond.static yX5_isDraftAsTold ∈ gw := w400
def mX5_isDraftedWithin : MS := (yX5_isDraftedWithin, cX5_isDraftedWithin, 2, (some .boolean), 1, 22, 0, 0)
theorem w404 : Cond.code yX5_isDraftedWithin cX5_isDraftedWithin 2 (some .boolean) ∈ gw := gw_of (List.mem_of_getElem? (i := 404) (by decide +kernel)) rfl
theorem oX5_isDraftedWithin : MOK mX5_isDraftedWithin 2 := ⟨by decide +kernel, ⟨by decide +kernel, by decide +kernel⟩, by decide +kernel, w404, w118⟩
theorem w403 : Cond.static yX5_isDraftedWithin ∈ gw := gw_of (List.mem_of_getElem? (i := 403) (by decide +kernel)) rfl
theorem iX5_isDraftedWithin : Cond.static yX5_isDraftedWithin ∈ gw := w403
def mX5_isChangeAsTold : MS := (yX5_isChangeAsTold, cX5_isChangeAsTold, 2, (some .boolean), 1, 22, 0, 0)
theorem w409 : Cond.code yX5_isChangeAsTold cX5_isChangeAsTold 2 (some .boolean) ∈ gw := gw_of (List.mem_of_getElem? (i := 409) (by decide +kernel)) rfl
theorem oX5_isChangeAsTold : MOK mX5_isChangeAsTold 1 := ⟨by decide +kernel, ⟨by decide +kernel, by decide +kernel⟩, by decide +kernel, w409, w118⟩
theorem w408 : Cond.static yX5_isChangeAsTold ∈ gw := gw_of (List.mem_of_getElem? (i := 408) (by decide +kernel)) rfl
theorem iX5_isChangeAsTold : Cond.static yX5_isChangeAsTold ∈ gw := w408
def mX5_tellsOneByV : MS := (yX5_tellsOneByV, cX5_tellsOneByV, 1, (some .boolean), 0, 0, 0, 0)
theorem w412 : Cond.code yX5_tellsOneByV cX5_tellsOneByV 1 (some .boolean) ∈ gw := gw_of (List.mem_of_getElem? (i := 412) (by decide +kernel)) rfl
theorem oX5_tellsOneByV : MOK mX5_tellsOneByV 1 := ⟨by decide +kernel, ⟨by decide +kernel, by decide +kernel⟩, by decide +kernel, w412, w118⟩
theorem w411 : Cond.static yX5_tellsOneByV ∈ gw := gw_of (List.mem_of_getElem? (i := 411) (by decide +kernel)) rfl
theorem iX5_tellsOneByV : Cond.static yX5_tellsOneByV ∈ gw := w411
def mX5_oneBeside : MS := (yX5_oneBeside, cX5_oneBeside, 1, (some .int), 1, 20, 0, 0)
theorem w431 : Cond.code yX5_oneBeside cX5_oneBeside 1 (some .int) ∈ gw := gw_of (List.mem_of_getElem? (i := 431) (by decide +kernel)) rfl
theorem oX5_oneBeside : MOK mX5_oneBeside 1 := ⟨by decide +kernel, ⟨by decide +kernel, by decide +kernel⟩, by decide +kernel, w431, w118⟩
theorem w430 : Cond.static yX5_oneBeside ∈ gw := gw_of (List.mem_of_getElem? (i := 430) (by decide +kernel)) rfl
theorem iX5_oneBeside : Cond.static yX5_oneBeside ∈ gw := w430
def mX5_isGoodAhead : MS := (yX5_isGoodAhead, cX5_isGoodAhead, 3, (some .boolean), 0, 0, 0, 0)
theorem w420 : Cond.code yX5_isGoodAhead cX5_isGoodAhead 3 (some .boolean) ∈ gw := gw_of (List.mem_of_getElem? (i := 420) (by decide +kernel)) rfl
theorem oX5_isGoodAhead : MOK mX5_isGoodAhead 2 := ⟨by decide +kernel, ⟨by decide +kernel, by decide +kernel⟩, by decide +kernel, w420, w118⟩
theorem w419 : Cond.instanceMethod yX5_isGoodAhead ∈ gw := gw_of (List.mem_of_getElem? (i := 419) (by decide +kernel)) rfl
theorem iX5_isGoodAhead : Cond.instanceMethod yX5_isGoodAhead ∈ gw := w419
theorem w5 : Cond.selects RX5 yX5_isGoodAhead yX5_isGoodAhead ∈ gw := gw_of (List.mem_of_getElem? (i := 5) (by decide +kernel)) rfl
theorem sX5_isGoodAhead : Cond.selects RX5 yX5_isGoodAhead yX5_isGoodAhead ∈ gw := w5
def mX5_doesOneHold : MS := (yX5_doesOneHold, cX5_doesOneHold, 3, (some .boolean), 1, 22, 0, 0)
theorem w424 : Cond.code yX5_doesOneHold cX5_doesOneHold 3 (some .boolean) ∈ gw := gw_of (List.mem_of_getElem? (i := 424) (by decide +kernel)) rfl
theorem oX5_doesOneHold : MOK mX5_doesOneHold 2 := ⟨by decide +kernel, ⟨by decide +kernel, by decide +kernel⟩, by decide +kernel, w424, w118⟩
theorem w423 : Cond.instanceMethod yX5_doesOneHold ∈ gw := gw_of (List.mem_of_getElem? (i := 423) (by decide +kernel)) rfl
theorem iX5_doesOneHold : Cond.instanceMethod yX5_doesOneHold ∈ gw := w423
theorem w6 : Cond.selects RX5 yX5_doesOneHold yX5_doesOneHold ∈ gw := gw_of (List.mem_of_getElem? (i := 6) (by decide +kernel)) rfl
theorem sX5_doesOneHold : Cond.selects RX5 yX5_doesOneHold yX5_doesOneHold ∈ gw := w6
def mX5_doNamedHold : MS := (yX5_doNamedHold, cX5_doNamedHold, 4, (some .boolean), 2, 44, 0, 0)
theorem w416 : Cond.code yX5_doNamedHold cX5_doNamedHold 4 (some .boolean) ∈ gw := gw_of (List.mem_of_getElem? (i := 416) (by decide +kernel)) rfl
theorem oX5_doNamedHold : MOK mX5_doNamedHold 2 := ⟨by decide +kernel, ⟨by decide +kernel, by decide +kernel⟩, by decide +kernel, w416, w118⟩
theorem w415 : Cond.instanceMethod yX5_doNamedHold ∈ gw := gw_of (List.mem_of_getElem? (i := 415) (by decide +kernel)) rfl
theorem iX5_doNamedHold : Cond.instanceMethod yX5_doNamedHold ∈ gw := w415
theorem w4 : Cond.selects RX5 yX5_doNamedHold yX5_doNamedHold ∈ gw := gw_of (List.mem_of_getElem? (i := 4) (by decide +kernel)) rfl
theorem sX5_doNamedHold : Cond.selects RX5 yX5_doNamedHold yX5_doNamedHold ∈ gw := w4
def mX5_idOf : MS := (yX5_idOf, cX5_idOf, 3, (some .int), 2, 43, 0, 0)
theorem w447 : Cond.code yX5_idOf cX5_idOf 3 (some .int) ∈ gw := gw_of (List.mem_of_getElem? (i := 447) (by decide +kernel)) rfl
theorem oX5_idOf : MOK mX5_idOf 1 := ⟨by decide +kernel, ⟨by decide +kernel, by decide +kernel⟩, by decide +kernel, w447, w118⟩
theorem w446 : Cond.instanceMethod yX5_idOf ∈ gw := gw_of (List.mem_of_getElem? (i := 446) (by decide +kernel)) rfl
theorem iX5_idOf : Cond.instanceMethod yX5_idOf ∈ gw := w446
theorem w11 : Cond.selects RX5 yX5_idOf yX5_idOf ∈ gw := gw_of (List.mem_of_getElem? (i := 11) (by decide +kernel)) rfl
theorem sX5_idOf : Cond.selects RX5 yX5_idOf yX5_idOf ∈ gw := w11
def mX5_parentOf : MS := (yX5_parentOf, cX5_parentOf, 2, (some .int), 3, 65, 0, 0)
theorem w540 : Cond.code yX5_parentOf cX5_parentOf 2 (some .int) ∈ gw := gw_of (List.mem_of_getElem? (i := 540) (by decide +kernel)) rfl
theorem oX5_parentOf : MOK mX5_parentOf 1 := ⟨by decide +kernel, ⟨by decide +kernel, by decide +kernel⟩, by decide +kernel, w540, w118⟩
theorem w539 : Cond.instanceMethod yX5_parentOf ∈ gw := gw_of (List.mem_of_getElem? (i := 539) (by decide +kernel)) rfl
theorem iX5_parentOf : Cond.instanceMethod yX5_parentOf ∈ gw := w539
theorem w32 : Cond.selects RX5 yX5_parentOf yX5_parentOf ∈ gw := gw_of (List.mem_of_getElem? (i := 32) (by decide +kernel)) rfl
theorem sX5_parentOf : Cond.selects RX5 yX5_parentOf yX5_parentOf ∈ gw := w32
def mX5_takeIds : MS := (yX5_takeIds, cX5_takeIds, 4, none, 3, 65, 0, 0)
theorem w443 : Cond.code yX5_takeIds cX5_takeIds 4 none ∈ gw := gw_of (List.mem_of_getElem? (i := 443) (by decide +kernel)) rfl
theorem oX5_takeIds : MOK mX5_takeIds 1 := ⟨by decide +kernel, ⟨by decide +kernel, by decide +kernel⟩, by decide +kernel, w443, w118⟩
theorem w442 : Cond.instanceMethod yX5_takeIds ∈ gw := gw_of (List.mem_of_getElem? (i := 442) (by decide +kernel)) rfl
theorem iX5_takeIds : Cond.instanceMethod yX5_takeIds ∈ gw := w442
theorem w10 : Cond.selects RX5 yX5_takeIds yX5_takeIds ∈ gw := gw_of (List.mem_of_getElem? (i := 10) (by decide +kernel)) rfl
theorem sX5_takeIds : Cond.selects RX5 yX5_takeIds yX5_takeIds ∈ gw := w10
def mX5_addId : MS := (yX5_addId, cX5_addId, 2, none, 0, 0, 0, 0)
theorem w456 : Cond.code yX5_addId cX5_addId 2 none ∈ gw := gw_of (List.mem_of_getElem? (i := 456) (by decide +kernel)) rfl
theorem oX5_addId : MOK mX5_addId 1 := ⟨by decide +kernel, ⟨by decide +kernel, by decide +kernel⟩, by decide +kernel, w456, w118⟩
theorem w455 : Cond.instanceMethod yX5_addId ∈ gw := gw_of (List.mem_of_getElem? (i := 455) (by decide +kernel)) rfl
theorem iX5_addId : Cond.instanceMethod yX5_addId ∈ gw := w455
theorem w13 : Cond.selects RX5 yX5_addId yX5_addId ∈ gw := gw_of (List.mem_of_getElem? (i := 13) (by decide +kernel)) rfl
theorem sX5_addId : Cond.selects RX5 yX5_addId yX5_addId ∈ gw := w13
def mX5_refusalOf : MS := (yX5_refusalOf, cX5_refusalOf, 3, (some .int), 4, 85, 0, 0)
theorem w386 : Cond.code yX5_refusalOf cX5_refusalOf 3 (some .int) ∈ gw := gw_of (List.mem_of_getElem? (i := 386) (by decide +kernel)) rfl
theorem oX5_refusalOf : MOK mX5_refusalOf 2 := ⟨by decide +kernel, ⟨by decide +kernel, by decide +kernel⟩, by decide +kernel, w386, w118⟩
theorem w385 : Cond.instanceMethod yX5_refusalOf ∈ gw := gw_of (List.mem_of_getElem? (i := 385) (by decide +kernel)) rfl
theorem iX5_refusalOf : Cond.instanceMethod yX5_refusalOf ∈ gw := w385
theorem w3 : Cond.selects RX5 yX5_refusalOf yX5_refusalOf ∈ gw := gw_of (List.mem_of_getElem? (i := 3) (by decide +kernel)) rfl
theorem sX5_refusalOf : Cond.selects RX5 yX5_refusalOf yX5_refusalOf ∈ gw := w3
def mX5_act : MS := (yX5_act, cX5_act, 3, (some .int), 5, 118, 0, 0)
theorem w435 : Cond.code yX5_act cX5_act 3 (some .int) ∈ gw := gw_of (List.mem_of_getElem? (i := 435) (by decide +kernel)) rfl
theorem oX5_act : MOK mX5_act 2 := ⟨by decide +kernel, ⟨by decide +kernel, by decide +kernel⟩, by decide +kernel, w435, w118⟩
theorem w434 : Cond.instanceMethod yX5_act ∈ gw := gw_of (List.mem_of_getElem? (i := 434) (by decide +kernel)) rfl
theorem iX5_act : Cond.instanceMethod yX5_act ∈ gw := w434
theorem w8 : Cond.selects RX5 yX5_act yX5_act ∈ gw := gw_of (List.mem_of_getElem? (i := 8) (by decide +kernel)) rfl
theorem sX5_act : Cond.selects RX5 yX5_act yX5_act ∈ gw := w8
def mX5_kindOf : MS := (yX5_kindOf, cX5_kindOf, 2, (some (.object "MailCore$Kind")), 0, 0, 0, 0)
theorem w460 : Cond.code yX5_kindOf cX5_kindOf 2 (some (.object "MailCore$Kind")) ∈ gw := gw_of (List.mem_of_getElem? (i := 460) (by decide +kernel)) rfl
theorem oX5_kindOf : MOK mX5_kindOf 1 := ⟨by decide +kernel, ⟨by decide +kernel, by decide +kernel⟩, by decide +kernel, w460, w118⟩
theorem w459 : Cond.instanceMethod yX5_kindOf ∈ gw := gw_of (List.mem_of_getElem? (i := 459) (by decide +kernel)) rfl
theorem iX5_kindOf : Cond.instanceMethod yX5_kindOf ∈ gw := w459
theorem w14 : Cond.selects RX5 yX5_kindOf yX5_kindOf ∈ gw := gw_of (List.mem_of_getElem? (i := 14) (by decide +kernel)) rfl
theorem sX5_kindOf : Cond.selects RX5 yX5_kindOf yX5_kindOf ∈ gw := w14
def mX5_keepAll : MS := (yX5_keepAll, cX5_keepAll, 1, none, 2, 47, 0, 0)
theorem w590 : Cond.code yX5_keepAll cX5_keepAll 1 none ∈ gw := gw_of (List.mem_of_getElem? (i := 590) (by decide +kernel)) rfl
theorem oX5_keepAll : MOK mX5_keepAll 0 := ⟨by decide +kernel, ⟨by decide +kernel, by decide +kernel⟩, by decide +kernel, w590, w118⟩
theorem w589 : Cond.instanceMethod yX5_keepAll ∈ gw := gw_of (List.mem_of_getElem? (i := 589) (by decide +kernel)) rfl
theorem iX5_keepAll : Cond.instanceMethod yX5_keepAll ∈ gw := w589
theorem w44 : Cond.selects RX5 yX5_keepAll yX5_keepAll ∈ gw := gw_of (List.mem_of_getElem? (i := 44) (by decide +kernel)) rfl
theorem sX5_keepAll : Cond.selects RX5 yX5_keepAll yX5_keepAll ∈ gw := w44
def mX5_bringAllBack : MS := (yX5_bringAllBack, cX5_bringAllBack, 1, none, 2, 47, 0, 0)
theorem w611 : Cond.code yX5_bringAllBack cX5_bringAllBack 1 none ∈ gw := gw_of (List.mem_of_getElem? (i := 611) (by decide +kernel)) rfl
theorem oX5_bringAllBack : MOK mX5_bringAllBack 0 := ⟨by decide +kernel, ⟨by decide +kernel, by decide +kernel⟩, by decide +kernel, w611, w118⟩
theorem w610 : Cond.instanceMethod yX5_bringAllBack ∈ gw := gw_of (List.mem_of_getElem? (i := 610) (by decide +kernel)) rfl
theorem iX5_bringAllBack : Cond.instanceMethod yX5_bringAllBack ∈ gw := w610
theorem w49 : Cond.selects RX5 yX5_bringAllBack yX5_bringAllBack ∈ gw := gw_of (List.mem_of_getElem? (i := 49) (by decide +kernel)) rfl
theorem sX5_bringAllBack : Cond.selects RX5 yX5_bringAllBack yX5_bringAllBack ∈ gw := w49
def mX5_logTouched : MS := (yX5_logTouched, cX5_logTouched, 4, none, 4, 88, 0, 0)
theorem w657 : Cond.code yX5_logTouched cX5_logTouched 4 none ∈ gw := gw_of (List.mem_of_getElem? (i := 657) (by decide +kernel)) rfl
theorem oX5_logTouched : MOK mX5_logTouched 0 := ⟨by decide +kernel, ⟨by decide +kernel, by decide +kernel⟩, by decide +kernel, w657, w118⟩
theorem w656 : Cond.instanceMethod yX5_logTouched ∈ gw := gw_of (List.mem_of_getElem? (i := 656) (by decide +kernel)) rfl
theorem iX5_logTouched : Cond.instanceMethod yX5_logTouched ∈ gw := w656
theorem w60 : Cond.selects RX5 yX5_logTouched yX5_logTouched ∈ gw := gw_of (List.mem_of_getElem? (i := 60) (by decide +kernel)) rfl
theorem sX5_logTouched : Cond.selects RX5 yX5_logTouched yX5_logTouched ∈ gw := w60
def mX5_tellIds : MS := (yX5_tellIds, cX5_tellIds, 5, (some .int), 4, 88, 0, 0)
theorem w439 : Cond.code yX5_tellIds cX5_tellIds 5 (some .int) ∈ gw := gw_of (List.mem_of_getElem? (i := 439) (by decide +kernel)) rfl
theorem oX5_tellIds : MOK mX5_tellIds 2 := ⟨by decide +kernel, ⟨by decide +kernel, by decide +kernel⟩, by decide +kernel, w439, w118⟩
theorem w438 : Cond.instanceMethod yX5_tellIds ∈ gw := gw_of (List.mem_of_getElem? (i := 438) (by decide +kernel)) rfl
theorem iX5_tellIds : Cond.instanceMethod yX5_tellIds ∈ gw := w438
theorem w9 : Cond.selects RX5 yX5_tellIds yX5_tellIds ∈ gw := gw_of (List.mem_of_getElem? (i := 9) (by decide +kernel)) rfl
theorem sX5_tellIds : Cond.selects RX5 yX5_tellIds yX5_tellIds ∈ gw := w9
def mX5_tellFitting : MS := (yX5_tellFitting, cX5_tellFitting, 4, (some .int), 4, 93, 0, 0)
theorem w472 : Cond.code yX5_tellFitting cX5_tellFitting 4 (some .int) ∈ gw := gw_of (List.mem_of_getElem? (i := 472) (by decide +kernel)) rfl
theorem oX5_tellFitting : MOK mX5_tellFitting 2 := ⟨by decide +kernel, ⟨by decide +kernel, by decide +kernel⟩, by decide +kernel, w472, w118⟩
theorem w471 : Cond.instanceMethod yX5_tellFitting ∈ gw := gw_of (List.mem_of_getElem? (i := 471) (by decide +kernel)) rfl
theorem iX5_tellFitting : Cond.instanceMethod yX5_tellFitting ∈ gw := w471
theorem w17 : Cond.selects RX5 yX5_tellFitting yX5_tellFitting ∈ gw := gw_of (List.mem_of_getElem? (i := 17) (by decide +kernel)) rfl
theorem sX5_tellFitting : Cond.selects RX5 yX5_tellFitting yX5_tellFitting ∈ gw := w17
def mX5_sortIds : MS := (yX5_sortIds, cX5_sortIds, 6, none, 2, 46, 0, 0)
theorem w498 : Cond.code yX5_sortIds cX5_sortIds 6 none ∈ gw := gw_of (List.mem_of_getElem? (i := 498) (by decide +kernel)) rfl
theorem oX5_sortIds : MOK mX5_sortIds 1 := ⟨by decide +kernel, ⟨by decide +kernel, by decide +kernel⟩, by decide +kernel, w498, w118⟩
theorem w497 : Cond.instanceMethod yX5_sortIds ∈ gw := gw_of (List.mem_of_getElem? (i := 497) (by decide +kernel)) rfl
theorem iX5_sortIds : Cond.instanceMethod yX5_sortIds ∈ gw := w497
theorem w22 : Cond.selects RX5 yX5_sortIds yX5_sortIds ∈ gw := gw_of (List.mem_of_getElem? (i := 22) (by decide +kernel)) rfl
theorem sX5_sortIds : Cond.selects RX5 yX5_sortIds yX5_sortIds ∈ gw := w22
def mX5_weightOf : MS := (yX5_weightOf, cX5_weightOf, 5, (some .int), 1, 22, 0, 0)
theorem w502 : Cond.code yX5_weightOf cX5_weightOf 5 (some .int) ∈ gw := gw_of (List.mem_of_getElem? (i := 502) (by decide +kernel)) rfl
theorem oX5_weightOf : MOK mX5_weightOf 2 := ⟨by decide +kernel, ⟨by decide +kernel, by decide +kernel⟩, by decide +kernel, w502, w118⟩
theorem w501 : Cond.instanceMethod yX5_weightOf ∈ gw := gw_of (List.mem_of_getElem? (i := 501) (by decide +kernel)) rfl
theorem iX5_weightOf : Cond.instanceMethod yX5_weightOf ∈ gw := w501
theorem w23 : Cond.selects RX5 yX5_weightOf yX5_weightOf ∈ gw := gw_of (List.mem_of_getElem? (i := 23) (by decide +kernel)) rfl
theorem sX5_weightOf : Cond.selects RX5 yX5_weightOf yX5_weightOf ∈ gw := w23
def mX5_makeBox : MS := (yX5_makeBox, cX5_makeBox, 5, (some .int), 4, 86, 0, 0)
theorem w536 : Cond.code yX5_makeBox cX5_makeBox 5 (some .int) ∈ gw := gw_of (List.mem_of_getElem? (i := 536) (by decide +kernel)) rfl
theorem oX5_makeBox : MOK mX5_makeBox 2 := ⟨by decide +kernel, ⟨by decide +kernel, by decide +kernel⟩, by decide +kernel, w536, w118⟩
theorem w535 : Cond.instanceMethod yX5_makeBox ∈ gw := gw_of (List.mem_of_getElem? (i := 535) (by decide +kernel)) rfl
theorem iX5_makeBox : Cond.instanceMethod yX5_makeBox ∈ gw := w535
theorem w31 : Cond.selects RX5 yX5_makeBox yX5_makeBox ∈ gw := gw_of (List.mem_of_getElem? (i := 31) (by decide +kernel)) rfl
theorem sX5_makeBox : Cond.selects RX5 yX5_makeBox yX5_makeBox ∈ gw := w31
def mX5_makeMail : MS := (yX5_makeMail, cX5_makeMail, 8, (some .int), 4, 91, 0, 0)
theorem w569 : Cond.code yX5_makeMail cX5_makeMail 8 (some .int) ∈ gw := gw_of (List.mem_of_getElem? (i := 569) (by decide +kernel)) rfl
theorem oX5_makeMail : MOK mX5_makeMail 2 := ⟨by decide +kernel, ⟨by decide +kernel, by decide +kernel⟩, by decide +kernel, w569, w118⟩
theorem w568 : Cond.instanceMethod yX5_makeMail ∈ gw := gw_of (List.mem_of_getElem? (i := 568) (by decide +kernel)) rfl
theorem iX5_makeMail : Cond.instanceMethod yX5_makeMail ∈ gw := w568
theorem w39 : Cond.selects RX5 yX5_makeMail yX5_makeMail ∈ gw := gw_of (List.mem_of_getElem? (i := 39) (by decide +kernel)) rfl
theorem sX5_makeMail : Cond.selects RX5 yX5_makeMail yX5_makeMail ∈ gw := w39
def mX5_changeIds : MS := (yX5_changeIds, cX5_changeIds, 9, (some .int), 4, 88, 0, 0)
theorem w586 : Cond.code yX5_changeIds cX5_changeIds 9 (some .int) ∈ gw := gw_of (List.mem_of_getElem? (i := 586) (by decide +kernel)) rfl
theorem oX5_changeIds : MOK mX5_changeIds 2 := ⟨by decide +kernel, ⟨by decide +kernel, by decide +kernel⟩, by decide +kernel, w586, w118⟩
theorem w585 : Cond.instanceMethod yX5_changeIds ∈ gw := gw_of (List.mem_of_getElem? (i := 585) (by decide +kernel)) rfl
theorem iX5_changeIds : Cond.instanceMethod yX5_changeIds ∈ gw := w585
theorem w43 : Cond.selects RX5 yX5_changeIds yX5_changeIds ∈ gw := gw_of (List.mem_of_getElem? (i := 43) (by decide +kernel)) rfl
theorem sX5_changeIds : Cond.selects RX5 yX5_changeIds yX5_changeIds ∈ gw := w43
def mX5_changeBox : MS := (yX5_changeBox, cX5_changeBox, 4, (some .int), 2, 46, 0, 0)
theorem w599 : Cond.code yX5_changeBox cX5_changeBox 4 (some .int) ∈ gw := gw_of (List.mem_of_getElem? (i := 599) (by decide +kernel)) rfl
theorem oX5_changeBox : MOK mX5_changeBox 3 := ⟨by decide +kernel, ⟨by decide +kernel, by decide +kernel⟩, by decide +kernel, w599, w118⟩
theorem w598 : Cond.instanceMethod yX5_changeBox ∈ gw := gw_of (List.mem_of_getElem? (i := 598) (by decide +kernel)) rfl
theorem iX5_changeBox : Cond.instanceMethod yX5_changeBox ∈ gw := w598
theorem w46 : Cond.selects RX5 yX5_changeBox yX5_changeBox ∈ gw := gw_of (List.mem_of_getElem? (i := 46) (by decide +kernel)) rfl
theorem sX5_changeBox : Cond.selects RX5 yX5_changeBox yX5_changeBox ∈ gw := w46
def mX5_changeMail : MS := (yX5_changeMail, cX5_changeMail, 7, (some .int), 1, 23, 0, 0)
theorem w607 : Cond.code yX5_changeMail cX5_changeMail 7 (some .int) ∈ gw := gw_of (List.mem_of_getElem? (i := 607) (by decide +kernel)) rfl
theorem oX5_changeMail : MOK mX5_changeMail 3 := ⟨by decide +kernel, ⟨by decide +kernel, by decide +kernel⟩, by decide +kernel, w607, w118⟩
theorem w606 : Cond.instanceMethod yX5_changeMail ∈ gw := gw_of (List.mem_of_getElem? (i := 606) (by decide +kernel)) rfl
theorem iX5_changeMail : Cond.instanceMethod yX5_changeMail ∈ gw := w606
theorem w48 : Cond.selects RX5 yX5_changeMail yX5_changeMail ∈ gw := gw_of (List.mem_of_getElem? (i := 48) (by decide +kernel)) rfl
theorem sX5_changeMail : Cond.selects RX5 yX5_changeMail yX5_changeMail ∈ gw := w48
def mX5_destroyIds : MS := (yX5_destroyIds, cX5_destroyIds, 5, (some .int), 4, 88, 0, 0)
theorem w627 : Cond.code yX5_destroyIds cX5_destroyIds 5 (some .int) ∈ gw := gw_of (List.mem_of_getElem? (i := 627) (by decide +kernel)) rfl
theorem oX5_destroyIds : MOK mX5_destroyIds 2 := ⟨by decide +kernel, ⟨by decide +kernel, by decide +kernel⟩, by decide +kernel, w627, w118⟩
theorem w626 : Cond.instanceMethod yX5_destroyIds ∈ gw := gw_of (List.mem_of_getElem? (i := 626) (by decide +kernel)) rfl
theorem iX5_destroyIds : Cond.instanceMethod yX5_destroyIds ∈ gw := w626
theorem w53 : Cond.selects RX5 yX5_destroyIds yX5_destroyIds ∈ gw := gw_of (List.mem_of_getElem? (i := 53) (by decide +kernel)) rfl
theorem sX5_destroyIds : Cond.selects RX5 yX5_destroyIds yX5_destroyIds ∈ gw := w53
def mX5_destroyBox : MS := (yX5_destroyBox, cX5_destroyBox, 2, (some .int), 3, 67, 0, 0)
theorem w631 : Cond.code yX5_destroyBox cX5_destroyBox 2 (some .int) ∈ gw := gw_of (List.mem_of_getElem? (i := 631) (by decide +kernel)) rfl
theorem oX5_destroyBox : MOK mX5_destroyBox 1 := ⟨by decide +kernel, ⟨by decide +kernel, by decide +kernel⟩, by decide +kernel, w631, w118⟩
theorem w630 : Cond.instanceMethod yX5_destroyBox ∈ gw := gw_of (List.mem_of_getElem? (i := 630) (by decide +kernel)) rfl
theorem iX5_destroyBox : Cond.instanceMethod yX5_destroyBox ∈ gw := w630
theorem w54 : Cond.selects RX5 yX5_destroyBox yX5_destroyBox ∈ gw := gw_of (List.mem_of_getElem? (i := 54) (by decide +kernel)) rfl
theorem sX5_destroyBox : Cond.selects RX5 yX5_destroyBox yX5_destroyBox ∈ gw := w54
def mX5_destroyMail : MS := (yX5_destroyMail, cX5_destroyMail, 2, (some .int), 3, 67, 0, 0)
theorem w649 : Cond.code yX5_destroyMail cX5_destroyMail 2 (some .int) ∈ gw := gw_of (List.mem_of_getElem? (i := 649) (by decide +kernel)) rfl
theorem oX5_destroyMail : MOK mX5_destroyMail 1 := ⟨by decide +kernel, ⟨by decide +kernel, by decide +kernel⟩, by decide +kernel, w649, w118⟩
theorem w648 : Cond.instanceMethod yX5_destroyMail ∈ gw := gw_of (List.mem_of_getElem? (i := 648) (by decide +kernel)) rfl
theorem iX5_destroyMail : Cond.instanceMethod yX5_destroyMail ∈ gw := w648
theorem w58 : Cond.selects RX5 yX5_destroyMail yX5_destroyMail ∈ gw := gw_of (List.mem_of_getElem? (i := 58) (by decide +kernel)) rfl
theorem sX5_destroyMail : Cond.selects RX5 yX5_destroyMail yX5_destroyMail ∈ gw := w58
def mX5_isNameTaken : MS := (yX5_isNameTaken, cX5_isNameTaken, 5, (some .boolean), 1, 22, 0, 0)
theorem w544 : Cond.code yX5_isNameTaken cX5_isNameTaken 5 (some .boolean) ∈ gw := gw_of (List.mem_of_getElem? (i := 544) (by decide +kernel)) rfl
theorem oX5_isNameTaken : MOK mX5_isNameTaken 3 := ⟨by decide +kernel, ⟨by decide +kernel, by decide +kernel⟩, by decide +kernel, w544, w118⟩
theorem w543 : Cond.instanceMethod yX5_isNameTaken ∈ gw := gw_of (List.mem_of_getElem? (i := 543) (by decide +kernel)) rfl
theorem iX5_isNameTaken : Cond.instanceMethod yX5_isNameTaken ∈ gw := w543
theorem w33 : Cond.selects RX5 yX5_isNameTaken yX5_isNameTaken ∈ gw := gw_of (List.mem_of_getElem? (i := 33) (by decide +kernel)) rfl
theorem sX5_isNameTaken : Cond.selects RX5 yX5_isNameTaken yX5_isNameTaken ∈ gw := w33
def mX5_depthOf : MS := (yX5_depthOf, cX5_depthOf, 4, (some .int), 0, 0, 0, 0)
theorem w548 : Cond.code yX5_depthOf cX5_depthOf 4 (some .int) ∈ gw := gw_of (List.mem_of_getElem? (i := 548) (by decide +kernel)) rfl
theorem oX5_depthOf : MOK mX5_depthOf 1 := ⟨by decide +kernel, ⟨by decide +kernel, by decide +kernel⟩, by decide +kernel, w548, w118⟩
theorem w547 : Cond.instanceMethod yX5_depthOf ∈ gw := gw_of (List.mem_of_getElem? (i := 547) (by decide +kernel)) rfl
theorem iX5_depthOf : Cond.instanceMethod yX5_depthOf ∈ gw := w547
theorem w34 : Cond.selects RX5 yX5_depthOf yX5_depthOf ∈ gw := gw_of (List.mem_of_getElem? (i := 34) (by decide +kernel)) rfl
theorem sX5_depthOf : Cond.selects RX5 yX5_depthOf yX5_depthOf ∈ gw := w34
def mX5_isAnyTooDeep : MS := (yX5_isAnyTooDeep, cX5_isAnyTooDeep, 2, (some .boolean), 1, 23, 0, 0)
theorem w603 : Cond.code yX5_isAnyTooDeep cX5_isAnyTooDeep 2 (some .boolean) ∈ gw := gw_of (List.mem_of_getElem? (i := 603) (by decide +kernel)) rfl
theorem oX5_isAnyTooDeep : MOK mX5_isAnyTooDeep 0 := ⟨by decide +kernel, ⟨by decide +kernel, by decide +kernel⟩, by decide +kernel, w603, w118⟩
theorem w602 : Cond.instanceMethod yX5_isAnyTooDeep ∈ gw := gw_of (List.mem_of_getElem? (i := 602) (by decide +kernel)) rfl
theorem iX5_isAnyTooDeep : Cond.instanceMethod yX5_isAnyTooDeep ∈ gw := w602
theorem w47 : Cond.selects RX5 yX5_isAnyTooDeep yX5_isAnyTooDeep ∈ gw := gw_of (List.mem_of_getElem? (i := 47) (by decide +kernel)) rfl
theorem sX5_isAnyTooDeep : Cond.selects RX5 yX5_isAnyTooDeep yX5_isAnyTooDeep ∈ gw := w47
def mX5_bitOf : MS := (yX5_bitOf, cX5_bitOf, 1, (some .int), 0, 0, 0, 0)
theorem w491 : Cond.code yX5_bitOf cX5_bitOf 1 (some .int) ∈ gw := gw_of (List.mem_of_getElem? (i := 491) (by decide +kernel)) rfl
theorem oX5_bitOf : MOK mX5_bitOf 1 := ⟨by decide +kernel, ⟨by decide +kernel, by decide +kernel⟩, by decide +kernel, w491, w118⟩
theorem w490 : Cond.static yX5_bitOf ∈ gw := gw_of (List.mem_of_getElem? (i := 490) (by decide +kernel)) rfl
theorem iX5_bitOf : Cond.static yX5_bitOf ∈ gw := w490
def mX5_isIn : MS := (yX5_isIn, cX5_isIn, 3, (some .boolean), 1, 22, 0, 0)
theorem w484 : Cond.code yX5_isIn cX5_isIn 3 (some .boolean) ∈ gw := gw_of (List.mem_of_getElem? (i := 484) (by decide +kernel)) rfl
theorem oX5_isIn : MOK mX5_isIn 2 := ⟨by decide +kernel, ⟨by decide +kernel, by decide +kernel⟩, by decide +kernel, w484, w118⟩
theorem w483 : Cond.instanceMethod yX5_isIn ∈ gw := gw_of (List.mem_of_getElem? (i := 483) (by decide +kernel)) rfl
theorem iX5_isIn : Cond.instanceMethod yX5_isIn ∈ gw := w483
theorem w20 : Cond.selects RX5 yX5_isIn yX5_isIn ∈ gw := gw_of (List.mem_of_getElem? (i := 20) (by decide +kernel)) rfl
theorem sX5_isIn : Cond.selects RX5 yX5_isIn yX5_isIn ∈ gw := w20
def mX5_mailsIn : MS := (yX5_mailsIn, cX5_mailsIn, 4, (some .int), 2, 44, 0, 0)
theorem w641 : Cond.code yX5_mailsIn cX5_mailsIn 4 (some .int) ∈ gw := gw_of (List.mem_of_getElem? (i := 641) (by decide +kernel)) rfl
theorem oX5_mailsIn : MOK mX5_mailsIn 1 := ⟨by decide +kernel, ⟨by decide +kernel, by decide +kernel⟩, by decide +kernel, w641, w118⟩
theorem w640 : Cond.instanceMethod yX5_mailsIn ∈ gw := gw_of (List.mem_of_getElem? (i := 640) (by decide +kernel)) rfl
theorem iX5_mailsIn : Cond.instanceMethod yX5_mailsIn ∈ gw := w640
theorem w56 : Cond.selects RX5 yX5_mailsIn yX5_mailsIn ∈ gw := gw_of (List.mem_of_getElem? (i := 56) (by decide +kernel)) rfl
theorem sX5_mailsIn : Cond.selects RX5 yX5_mailsIn yX5_mailsIn ∈ gw := w56
def mX5_comeToThread : MS := (yX5_comeToThread, cX5_comeToThread, 3, none, 3, 69, 0, 0)
theorem w573 : Cond.code yX5_comeToThread cX5_comeToThread 3 none ∈ gw := gw_of (List.mem_of_getElem? (i := 573) (by decide +kernel)) rfl
theorem oX5_comeToThread : MOK mX5_comeToThread 1 := ⟨by decide +kernel, ⟨by decide +kernel, by decide +kernel⟩, by decide +kernel, w573, w118⟩
theorem w572 : Cond.instanceMethod yX5_comeToThread ∈ gw := gw_of (List.mem_of_getElem? (i := 572) (by decide +kernel)) rfl
theorem iX5_comeToThread : Cond.instanceMethod yX5_comeToThread ∈ gw := w572
theorem w40 : Cond.selects RX5 yX5_comeToThread yX5_comeToThread ∈ gw := gw_of (List.mem_of_getElem? (i := 40) (by decide +kernel)) rfl
theorem sX5_comeToThread : Cond.selects RX5 yX5_comeToThread yX5_comeToThread ∈ gw := w40
def mX5_leaveThread : MS := (yX5_leaveThread, cX5_leaveThread, 4, none, 2, 44, 0, 0)
theorem w653 : Cond.code yX5_leaveThread cX5_leaveThread 4 none ∈ gw := gw_of (List.mem_of_getElem? (i := 653) (by decide +kernel)) rfl
theorem oX5_leaveThread : MOK mX5_leaveThread 1 := ⟨by decide +kernel, ⟨by decide +kernel, by decide +kernel⟩, by decide +kernel, w653, w118⟩
theorem w652 : Cond.instanceMethod yX5_leaveThread ∈ gw := gw_of (List.mem_of_getElem? (i := 652) (by decide +kernel)) rfl
theorem iX5_leaveThread : Cond.instanceMethod yX5_leaveThread ∈ gw := w652
theorem w59 : Cond.selects RX5 yX5_leaveThread yX5_leaveThread ∈ gw := gw_of (List.mem_of_getElem? (i := 59) (by decide +kernel)) rfl
theorem sX5_leaveThread : Cond.selects RX5 yX5_leaveThread yX5_leaveThread ∈ gw := w59
def mX5_threadFor : MS := (yX5_threadFor, cX5_threadFor, 3, (some .int), 2, 47, 0, 0)
theorem w577 : Cond.code yX5_threadFor cX5_threadFor 3 (some .int) ∈ gw := gw_of (List.mem_of_getElem? (i := 577) (by decide +kernel)) rfl
theorem oX5_threadFor : MOK mX5_threadFor 1 := ⟨by decide +kernel, ⟨by decide +kernel, by decide +kernel⟩, by decide +kernel, w577, w118⟩
theorem w576 : Cond.instanceMethod yX5_threadFor ∈ gw := gw_of (List.mem_of_getElem? (i := 576) (by decide +kernel)) rfl
theorem iX5_threadFor : Cond.instanceMethod yX5_threadFor ∈ gw := w576
theorem w41 : Cond.selects RX5 yX5_threadFor yX5_threadFor ∈ gw := gw_of (List.mem_of_getElem? (i := 41) (by decide +kernel)) rfl
theorem sX5_threadFor : Cond.selects RX5 yX5_threadFor yX5_threadFor ∈ gw := w41
def mX5_doNumbersMeet : MS := (yX5_doNumbersMeet, cX5_doNumbersMeet, 6, (some .boolean), 1, 22, 0, 0)
theorem w581 : Cond.code yX5_doNumbersMeet cX5_doNumbersMeet 6 (some .boolean) ∈ gw := gw_of (List.mem_of_getElem? (i := 581) (by decide +kernel)) rfl
theorem oX5_doNumbersMeet : MOK mX5_doNumbersMeet 2 := ⟨by decide +kernel, ⟨by decide +kernel, by decide +kernel⟩, by decide +kernel, w581, w118⟩
theorem w580 : Cond.instanceMethod yX5_doNumbersMeet ∈ gw := gw_of (List.mem_of_getElem? (i := 580) (by decide +kernel)) rfl
theorem iX5_doNumbersMeet : Cond.instanceMethod yX5_doNumbersMeet ∈ gw := w580
theorem w42 : Cond.selects RX5 yX5_doNumbersMeet yX5_doNumbersMeet ∈ gw := gw_of (List.mem_of_getElem? (i := 42) (by decide +kernel)) rfl
theorem sX5_doNumbersMeet : Cond.selects RX5 yX5_doNumbersMeet yX5_doNumbersMeet ∈ gw := w42
def mX5_passes : MS := (yX5_passes, cX5_passes, 5, (some .boolean), 3, 69, 0, 0)
theorem w476 : Cond.code yX5_passes cX5_passes 5 (some .boolean) ∈ gw := gw_of (List.mem_of_getElem? (i := 476) (by decide +kernel)) rfl
theorem oX5_passes : MOK mX5_passes 2 := ⟨by decide +kernel, ⟨by decide +kernel, by decide +kernel⟩, by decide +kernel, w476, w118⟩
theorem w475 : Cond.instanceMethod yX5_passes ∈ gw := gw_of (List.mem_of_getElem? (i := 475) (by decide +kernel)) rfl
theorem iX5_passes : Cond.instanceMethod yX5_passes ∈ gw := w475
theorem w18 : Cond.selects RX5 yX5_passes yX5_passes ∈ gw := gw_of (List.mem_of_getElem? (i := 18) (by decide +kernel)) rfl
theorem sX5_passes : Cond.selects RX5 yX5_passes yX5_passes ∈ gw := w18
def mX5_hasBit : MS := (yX5_hasBit, cX5_hasBit, 2, (some .boolean), 0, 0, 0, 0)
theorem w494 : Cond.code yX5_hasBit cX5_hasBit 2 (some .boolean) ∈ gw := gw_of (List.mem_of_getElem? (i := 494) (by decide +kernel)) rfl
theorem oX5_hasBit : MOK mX5_hasBit 2 := ⟨by decide +kernel, ⟨by decide +kernel, by decide +kernel⟩, by decide +kernel, w494, w118⟩
theorem w493 : Cond.static yX5_hasBit ∈ gw := gw_of (List.mem_of_getElem? (i := 493) (by decide +kernel)) rfl
theorem iX5_hasBit : Cond.static yX5_hasBit ∈ gw := w493
def mX5_passesOne : MS := (yX5_passesOne, cX5_passesOne, 6, (some .boolean), 2, 44, 0, 0)
theorem w480 : Cond.code yX5_passesOne cX5_passesOne 6 (some .boolean) ∈ gw := gw_of (List.mem_of_getElem? (i := 480) (by decide +kernel)) rfl
theorem oX5_passesOne : MOK mX5_passesOne 3 := ⟨by decide +kernel, ⟨by decide +kernel, by decide +kernel⟩, by decide +kernel, w480, w118⟩
theorem w479 : Cond.instanceMethod yX5_passesOne ∈ gw := gw_of (List.mem_of_getElem? (i := 479) (by decide +kernel)) rfl
theorem iX5_passesOne : Cond.instanceMethod yX5_passesOne ∈ gw := w479
theorem w19 : Cond.selects RX5 yX5_passesOne yX5_passesOne ∈ gw := gw_of (List.mem_of_getElem? (i := 19) (by decide +kernel)) rfl
theorem sX5_passesOne : Cond.selects RX5 yX5_passesOne yX5_passesOne ∈ gw := w19
def mX6_init : MS := (yX6_init, cX6_init, 1, none, 1, 12, 22, 5087)
theorem w743 : Cond.code yX6_init cX6_init 1 none ∈ gw := gw_of (List.mem_of_getElem? (i := 743) (by decide +kernel)) rfl
theorem w124 : Cond.initialized RX6 ∈ gw := gw_of (List.mem_of_getElem? (i := 124) (by decide +kernel)) rfl
theorem oX6_init : MOK mX6_init 0 := ⟨by decide +kernel, ⟨by decide +kernel, by decide +kernel⟩, by decide +kernel, w743, w124⟩
theorem w742 : Cond.instanceMethod yX6_init ∈ gw := gw_of (List.mem_of_getElem? (i := 742) (by decide +kernel)) rfl
theorem iX6_init : Cond.instanceMethod yX6_init ∈ gw := w742
def mX6_within : MS := (yX6_within, cX6_within, 3, (some .boolean), 0, 0, 0, 0)
theorem w840 : Cond.code yX6_within cX6_within 3 (some .boolean) ∈ gw := gw_of (List.mem_of_getElem? (i := 840) (by decide +kernel)) rfl
theorem oX6_within : MOK mX6_within 3 := ⟨by decide +kernel, ⟨by decide +kernel, by decide +kernel⟩, by decide +kernel, w840, w124⟩
theorem w839 : Cond.static yX6_within ∈ gw := gw_of (List.mem_of_getElem? (i := 839) (by decide +kernel)) rfl
theorem iX6_within : Cond.static yX6_within ∈ gw := w839
def mX6_copy : MS := (yX6_copy, cX6_copy, 3, none, 0, 0, 0, 0)
theorem w883 : Cond.code yX6_copy cX6_copy 3 none ∈ gw := gw_of (List.mem_of_getElem? (i := 883) (by decide +kernel)) rfl
theorem oX6_copy : MOK mX6_copy 2 := ⟨by decide +kernel, ⟨by decide +kernel, by decide +kernel⟩, by decide +kernel, w883, w124⟩
theorem w882 : Cond.static yX6_copy ∈ gw := gw_of (List.mem_of_getElem? (i := 882) (by decide +kernel)) rfl
theorem iX6_copy : Cond.static yX6_copy ∈ gw := w882
def mX6_isBox : MS := (yX6_isBox, cX6_isBox, 3, (some .boolean), 0, 0, 0, 0)
theorem w934 : Cond.code yX6_isBox cX6_isBox 3 (some .boolean) ∈ gw := gw_of (List.mem_of_getElem? (i := 934) (by decide +kernel)) rfl
theorem oX6_isBox : MOK mX6_isBox 2 := ⟨by decide +kernel, ⟨by decide +kernel, by decide +kernel⟩, by decide +kernel, w934, w124⟩
theorem w933 : Cond.instanceMethod yX6_isBox ∈ gw := gw_of (List.mem_of_getElem? (i := 933) (by decide +kernel)) rfl
theorem iX6_isBox : Cond.instanceMethod yX6_isBox ∈ gw := w933
theorem w79 : Cond.selects RX6 yX6_isBox yX6_isBox ∈ gw := gw_of (List.mem_of_getElem? (i := 79) (by decide +kernel)) rfl
theorem sX6_isBox : Cond.selects RX6 yX6_isBox yX6_isBox ∈ gw := w79
def mX6_isMail : MS := (yX6_isMail, cX6_isMail, 3, (some .boolean), 0, 0, 0, 0)
theorem w938 : Cond.code yX6_isMail cX6_isMail 3 (some .boolean) ∈ gw := gw_of (List.mem_of_getElem? (i := 938) (by decide +kernel)) rfl
theorem oX6_isMail : MOK mX6_isMail 2 := ⟨by decide +kernel, ⟨by decide +kernel, by decide +kernel⟩, by decide +kernel, w938, w124⟩
theorem w937 : Cond.instanceMethod yX6_isMail ∈ gw := gw_of (List.mem_of_getElem? (i := 937) (by decide +kernel)) rfl
theorem iX6_isMail : Cond.instanceMethod yX6_isMail ∈ gw := w937
theorem w80 : Cond.selects RX6 yX6_isMail yX6_isMail ∈ gw := gw_of (List.mem_of_getElem? (i := 80) (by decide +kernel)) rfl
theorem sX6_isMail : Cond.selects RX6 yX6_isMail yX6_isMail ∈ gw := w80
def mX6_boxPart : MS := (yX6_boxPart, cX6_boxPart, 4, (some .int), 0, 0, 0, 0)
theorem w1014 : Cond.code yX6_boxPart cX6_boxPart 4 (some .int) ∈ gw := gw_of (List.mem_of_getElem? (i := 1014) (by decide +kernel)) rfl
theorem oX6_boxPart : MOK mX6_boxPart 3 := ⟨by decide +kernel, ⟨by decide +kernel, by decide +kernel⟩, by decide +kernel, w1014, w124⟩
theorem w1013 : Cond.instanceMethod yX6_boxPart ∈ gw := gw_of (List.mem_of_getElem? (i := 1013) (by decide +kernel)) rfl
theorem iX6_boxPart : Cond.instanceMethod yX6_boxPart ∈ gw := w1013
theorem w99 : Cond.selects RX6 yX6_boxPart yX6_boxPart ∈ gw := gw_of (List.mem_of_getElem? (i := 99) (by decide +kernel)) rfl
theorem sX6_boxPart : Cond.selects RX6 yX6_boxPart yX6_boxPart ∈ gw := w99
def mX6_mailPart : MS := (yX6_mailPart, cX6_mailPart, 4, (some .int), 0, 0, 0, 0)
theorem w946 : Cond.code yX6_mailPart cX6_mailPart 4 (some .int) ∈ gw := gw_of (List.mem_of_getElem? (i := 946) (by decide +kernel)) rfl
theorem oX6_mailPart : MOK mX6_mailPart 3 := ⟨by decide +kernel, ⟨by decide +kernel, by decide +kernel⟩, by decide +kernel, w946, w124⟩
theorem w945 : Cond.instanceMethod yX6_mailPart ∈ gw := gw_of (List.mem_of_getElem? (i := 945) (by decide +kernel)) rfl
theorem iX6_mailPart : Cond.instanceMethod yX6_mailPart ∈ gw := w945
theorem w82 : Cond.selects RX6 yX6_mailPart yX6_mailPart ∈ gw := gw_of (List.mem_of_getElem? (i := 82) (by decide +kernel)) rfl
theorem sX6_mailPart : Cond.selects RX6 yX6_mailPart yX6_mailPart ∈ gw := w82
def mX6_mailsOf : MS := (yX6_mailsOf, cX6_mailsOf, 5, (some .int), 1, 23, 0, 0)
theorem w942 : Cond.code yX6_mailsOf cX6_mailsOf 5 (some .int) ∈ gw := gw_of (List.mem_of_getElem? (i := 942) (by decide +kernel)) rfl
theorem oX6_mailsOf : MOK mX6_mailsOf 2 := ⟨by decide +kernel, ⟨by decide +kernel, by decide +kernel⟩, by decide +kernel, w942, w124⟩
theorem w941 : Cond.instanceMethod yX6_mailsOf ∈ gw := gw_of (List.mem_of_getElem? (i := 941) (by decide +kernel)) rfl
theorem iX6_mailsOf : Cond.instanceMethod yX6_mailsOf ∈ gw := w941
theorem w81 : Cond.selects RX6 yX6_mailsOf yX6_mailsOf ∈ gw := gw_of (List.mem_of_getElem? (i := 81) (by decide +kernel)) rfl
theorem sX6_mailsOf : Cond.selects RX6 yX6_mailsOf yX6_mailsOf ∈ gw := w81
def mX6_isThere : MS := (yX6_isThere, cX6_isThere, 4, (some .boolean), 2, 47, 0, 0)
theorem w930 : Cond.code yX6_isThere cX6_isThere 4 (some .boolean) ∈ gw := gw_of (List.mem_of_getElem? (i := 930) (by decide +kernel)) rfl
theorem oX6_isThere : MOK mX6_isThere 3 := ⟨by decide +kernel, ⟨by decide +kernel, by decide +kernel⟩, by decide +kernel, w930, w124⟩
theorem w929 : Cond.instanceMethod yX6_isThere ∈ gw := gw_of (List.mem_of_getElem? (i := 929) (by decide +kernel)) rfl
theorem iX6_isThere : Cond.instanceMethod yX6_isThere ∈ gw := w929
theorem w78 : Cond.selects RX6 yX6_isThere yX6_isThere ∈ gw := gw_of (List.mem_of_getElem? (i := 78) (by decide +kernel)) rfl
theorem sX6_isThere : Cond.selects RX6 yX6_isThere yX6_isThere ∈ gw := w78
def mX6_deep : MS := (yX6_deep, cX6_deep, 5, (some .int), 1, 23, 0, 0)
theorem w1010 : Cond.code yX6_deep cX6_deep 5 (some .int) ∈ gw := gw_of (List.mem_of_getElem? (i := 1010) (by decide +kernel)) rfl
theorem oX6_deep : MOK mX6_deep 2 := ⟨by decide +kernel, ⟨by decide +kernel, by decide +kernel⟩, by decide +kernel, w1010, w124⟩
theorem w1009 : Cond.instanceMethod yX6_deep ∈ gw := gw_of (List.mem_of_getElem? (i := 1009) (by decide +kernel)) rfl
theorem iX6_deep : Cond.instanceMethod yX6_deep ∈ gw := w1009
theorem w98 : Cond.selects RX6 yX6_deep yX6_deep ∈ gw := gw_of (List.mem_of_getElem? (i := 98) (by decide +kernel)) rfl
theorem sX6_deep : Cond.selects RX6 yX6_deep yX6_deep ∈ gw := w98
def mX6_under : MS := (yX6_under, cX6_under, 7, (some .int), 1, 23, 0, 0)
theorem w1045 : Cond.code yX6_under cX6_under 7 (some .int) ∈ gw := gw_of (List.mem_of_getElem? (i := 1045) (by decide +kernel)) rfl
theorem oX6_under : MOK mX6_under 2 := ⟨by decide +kernel, ⟨by decide +kernel, by decide +kernel⟩, by decide +kernel, w1045, w124⟩
theorem w1044 : Cond.instanceMethod yX6_under ∈ gw := gw_of (List.mem_of_getElem? (i := 1044) (by decide +kernel)) rfl
theorem iX6_under : Cond.instanceMethod yX6_under ∈ gw := w1044
theorem w106 : Cond.selects RX6 yX6_under yX6_under ∈ gw := gw_of (List.mem_of_getElem? (i := 106) (by decide +kernel)) rfl
theorem sX6_under : Cond.selects RX6 yX6_under yX6_under ∈ gw := w106
def mX6_isNamed : MS := (yX6_isNamed, cX6_isNamed, 7, (some .boolean), 1, 23, 0, 0)
theorem w1018 : Cond.code yX6_isNamed cX6_isNamed 7 (some .boolean) ∈ gw := gw_of (List.mem_of_getElem? (i := 1018) (by decide +kernel)) rfl
theorem oX6_isNamed : MOK mX6_isNamed 4 := ⟨by decide +kernel, ⟨by decide +kernel, by decide +kernel⟩, by decide +kernel, w1018, w124⟩
theorem w1017 : Cond.instanceMethod yX6_isNamed ∈ gw := gw_of (List.mem_of_getElem? (i := 1017) (by decide +kernel)) rfl
theorem iX6_isNamed : Cond.instanceMethod yX6_isNamed ∈ gw := w1017
theorem w100 : Cond.selects RX6 yX6_isNamed yX6_isNamed ∈ gw := gw_of (List.mem_of_getElem? (i := 100) (by decide +kernel)) rfl
theorem sX6_isNamed : Cond.selects RX6 yX6_isNamed yX6_isNamed ∈ gw := w100
def mX6_draft : MS := (yX6_draft, cX6_draft, 4, (some .int), 1, 22, 0, 0)
theorem w837 : Cond.code yX6_draft cX6_draft 4 (some .int) ∈ gw := gw_of (List.mem_of_getElem? (i := 837) (by decide +kernel)) rfl
theorem oX6_draft : MOK mX6_draft 2 := ⟨by decide +kernel, ⟨by decide +kernel, by decide +kernel⟩, by decide +kernel, w837, w124⟩
theorem w835 : Cond.instanceMethod yX6_draft ∈ gw := gw_of (List.mem_of_getElem? (i := 835) (by decide +kernel)) rfl
theorem iX6_draft : Cond.instanceMethod yX6_draft ∈ gw := w835
theorem w836 : Cond.selects RX6 yX6_draft yX6_draft ∈ gw := gw_of (List.mem_of_getElem? (i := 836) (by decide +kernel)) rfl
theorem sX6_draft : Cond.selects RX6 yX6_draft yX6_draft ∈ gw := w836
def mX6_comes : MS := (yX6_comes, cX6_comes, 8, (some .int), 0, 0, 0, 0)
theorem w848 : Cond.code yX6_comes cX6_comes 8 (some .int) ∈ gw := gw_of (List.mem_of_getElem? (i := 848) (by decide +kernel)) rfl
theorem oX6_comes : MOK mX6_comes 6 := ⟨by decide +kernel, ⟨by decide +kernel, by decide +kernel⟩, by decide +kernel, w848, w124⟩
theorem w847 : Cond.instanceMethod yX6_comes ∈ gw := gw_of (List.mem_of_getElem? (i := 847) (by decide +kernel)) rfl
theorem iX6_comes : Cond.instanceMethod yX6_comes ∈ gw := w847
theorem w67 : Cond.selects RX6 yX6_comes yX6_comes ∈ gw := gw_of (List.mem_of_getElem? (i := 67) (by decide +kernel)) rfl
theorem sX6_comes : Cond.selects RX6 yX6_comes yX6_comes ∈ gw := w67
def mX6_get : MS := (yX6_get, cX6_get, 4, (some .int), 1, 27, 0, 0)
theorem w844 : Cond.code yX6_get cX6_get 4 (some .int) ∈ gw := gw_of (List.mem_of_getElem? (i := 844) (by decide +kernel)) rfl
theorem oX6_get : MOK mX6_get 3 := ⟨by decide +kernel, ⟨by decide +kernel, by decide +kernel⟩, by decide +kernel, w844, w124⟩
theorem w842 : Cond.instanceMethod yX6_get ∈ gw := gw_of (List.mem_of_getElem? (i := 842) (by decide +kernel)) rfl
theorem iX6_get : Cond.instanceMethod yX6_get ∈ gw := w842
theorem w843 : Cond.selects RX6 yX6_get yX6_get ∈ gw := gw_of (List.mem_of_getElem? (i := 843) (by decide +kernel)) rfl
theorem sX6_get : Cond.selects RX6 yX6_get yX6_get ∈ gw := w843
def mX6_query : MS := (yX6_query, cX6_query, 5, (some .int), 1, 27, 0, 0)
theorem w852 : Cond.code yX6_query cX6_query 5 (some .int) ∈ gw := gw_of (List.mem_of_getElem? (i := 852) (by decide +kernel)) rfl
theorem oX6_query : MOK mX6_query 4 := ⟨by decide +kernel, ⟨by decide +kernel, by decide +kernel⟩, by decide +kernel, w852, w124⟩
theorem w850 : Cond.instanceMethod yX6_query ∈ gw := gw_of (List.mem_of_getElem? (i := 850) (by decide +kernel)) rfl
theorem iX6_query : Cond.instanceMethod yX6_query ∈ gw := w850
theorem w851 : Cond.selects RX6 yX6_query yX6_query ∈ gw := gw_of (List.mem_of_getElem? (i := 851) (by decide +kernel)) rfl
theorem sX6_query : Cond.selects RX6 yX6_query yX6_query ∈ gw := w851
def mX6_changes : MS := (yX6_changes, cX6_changes, 4, (some .int), 1, 27, 0, 0)
theorem w856 : Cond.code yX6_changes cX6_changes 4 (some .int) ∈ gw := gw_of (List.mem_of_getElem? (i := 856) (by decide +kernel)) rfl
theorem oX6_changes : MOK mX6_changes 3 := ⟨by decide +kernel, ⟨by decide +kernel, by decide +kernel⟩, by decide +kernel, w856, w124⟩
theorem w854 : Cond.instanceMethod yX6_changes ∈ gw := gw_of (List.mem_of_getElem? (i := 854) (by decide +kernel)) rfl
theorem iX6_changes : Cond.instanceMethod yX6_changes ∈ gw := w854
theorem w855 : Cond.selects RX6 yX6_changes yX6_changes ∈ gw := gw_of (List.mem_of_getElem? (i := 855) (by decide +kernel)) rfl
theorem sX6_changes : Cond.selects RX6 yX6_changes yX6_changes ∈ gw := w855
def mX6_make : MS := (yX6_make, cX6_make, 3, (some .int), 1, 27, 0, 0)
theorem w860 : Cond.code yX6_make cX6_make 3 (some .int) ∈ gw := gw_of (List.mem_of_getElem? (i := 860) (by decide +kernel)) rfl
theorem oX6_make : MOK mX6_make 2 := ⟨by decide +kernel, ⟨by decide +kernel, by decide +kernel⟩, by decide +kernel, w860, w124⟩
theorem w858 : Cond.instanceMethod yX6_make ∈ gw := gw_of (List.mem_of_getElem? (i := 858) (by decide +kernel)) rfl
theorem iX6_make : Cond.instanceMethod yX6_make ∈ gw := w858
theorem w859 : Cond.selects RX6 yX6_make yX6_make ∈ gw := gw_of (List.mem_of_getElem? (i := 859) (by decide +kernel)) rfl
theorem sX6_make : Cond.selects RX6 yX6_make yX6_make ∈ gw := w859
def mX6_change : MS := (yX6_change, cX6_change, 6, (some .int), 1, 27, 0, 0)
theorem w864 : Cond.code yX6_change cX6_change 6 (some .int) ∈ gw := gw_of (List.mem_of_getElem? (i := 864) (by decide +kernel)) rfl
theorem oX6_change : MOK mX6_change 5 := ⟨by decide +kernel, ⟨by decide +kernel, by decide +kernel⟩, by decide +kernel, w864, w124⟩
theorem w862 : Cond.instanceMethod yX6_change ∈ gw := gw_of (List.mem_of_getElem? (i := 862) (by decide +kernel)) rfl
theorem iX6_change : Cond.instanceMethod yX6_change ∈ gw := w862
theorem w863 : Cond.selects RX6 yX6_change yX6_change ∈ gw := gw_of (List.mem_of_getElem? (i := 863) (by decide +kernel)) rfl
theorem sX6_change : Cond.selects RX6 yX6_change yX6_change ∈ gw := w863
def mX6_destroy : MS := (yX6_destroy, cX6_destroy, 4, (some .int), 1, 27, 0, 0)
theorem w868 : Cond.code yX6_destroy cX6_destroy 4 (some .int) ∈ gw := gw_of (List.mem_of_getElem? (i := 868) (by decide +kernel)) rfl
theorem oX6_destroy : MOK mX6_destroy 3 := ⟨by decide +kernel, ⟨by decide +kernel, by decide +kernel⟩, by decide +kernel, w868, w124⟩
theorem w866 : Cond.instanceMethod yX6_destroy ∈ gw := gw_of (List.mem_of_getElem? (i := 866) (by decide +kernel)) rfl
theorem iX6_destroy : Cond.instanceMethod yX6_destroy ∈ gw := w866
theorem w867 : Cond.selects RX6 yX6_destroy yX6_destroy ∈ gw := gw_of (List.mem_of_getElem? (i := 867) (by decide +kernel)) rfl
theorem sX6_destroy : Cond.selects RX6 yX6_destroy yX6_destroy ∈ gw := w867
def mX6_crash : MS := (yX6_crash, cX6_crash, 2, (some .int), 1, 22, 0, 0)
theorem w872 : Cond.code yX6_crash cX6_crash 2 (some .int) ∈ gw := gw_of (List.mem_of_getElem? (i := 872) (by decide +kernel)) rfl
theorem oX6_crash : MOK mX6_crash 1 := ⟨by decide +kernel, ⟨by decide +kernel, by decide +kernel⟩, by decide +kernel, w872, w124⟩
theorem w870 : Cond.instanceMethod yX6_crash ∈ gw := gw_of (List.mem_of_getElem? (i := 870) (by decide +kernel)) rfl
theorem iX6_crash : Cond.instanceMethod yX6_crash ∈ gw := w870
theorem w871 : Cond.selects RX6 yX6_crash yX6_crash ∈ gw := gw_of (List.mem_of_getElem? (i := 871) (by decide +kernel)) rfl
theorem sX6_crash : Cond.selects RX6 yX6_crash yX6_crash ∈ gw := w871
def mX6_drop : MS := (yX6_drop, cX6_drop, 2, (some .int), 0, 0, 0, 0)
theorem w876 : Cond.code yX6_drop cX6_drop 2 (some .int) ∈ gw := gw_of (List.mem_of_getElem? (i := 876) (by decide +kernel)) rfl
theorem oX6_drop : MOK mX6_drop 0 := ⟨by decide +kernel, ⟨by decide +kernel, by decide +kernel⟩, by decide +kernel, w876, w124⟩
theorem w874 : Cond.instanceMethod yX6_drop ∈ gw := gw_of (List.mem_of_getElem? (i := 874) (by decide +kernel)) rfl
theorem iX6_drop : Cond.instanceMethod yX6_drop ∈ gw := w874
theorem w875 : Cond.selects RX6 yX6_drop yX6_drop ∈ gw := gw_of (List.mem_of_getElem? (i := 875) (by decide +kernel)) rfl
theorem sX6_drop : Cond.selects RX6 yX6_drop yX6_drop ∈ gw := w875
def mX6_give : MS := (yX6_give, cX6_give, 5, none, 0, 0, 0, 0)
theorem w954 : Cond.code yX6_give cX6_give 5 none ∈ gw := gw_of (List.mem_of_getElem? (i := 954) (by decide +kernel)) rfl
theorem oX6_give : MOK mX6_give 3 := ⟨by decide +kernel, ⟨by decide +kernel, by decide +kernel⟩, by decide +kernel, w954, w124⟩
theorem w953 : Cond.instanceMethod yX6_give ∈ gw := gw_of (List.mem_of_getElem? (i := 953) (by decide +kernel)) rfl
theorem iX6_give : Cond.instanceMethod yX6_give ∈ gw := w953
theorem w84 : Cond.selects RX6 yX6_give yX6_give ∈ gw := gw_of (List.mem_of_getElem? (i := 84) (by decide +kernel)) rfl
theorem sX6_give : Cond.selects RX6 yX6_give yX6_give ∈ gw := w84
def mX6_isGiven : MS := (yX6_isGiven, cX6_isGiven, 6, (some .boolean), 0, 0, 0, 0)
theorem w950 : Cond.code yX6_isGiven cX6_isGiven 6 (some .boolean) ∈ gw := gw_of (List.mem_of_getElem? (i := 950) (by decide +kernel)) rfl
theorem oX6_isGiven : MOK mX6_isGiven 3 := ⟨by decide +kernel, ⟨by decide +kernel, by decide +kernel⟩, by decide +kernel, w950, w124⟩
theorem w949 : Cond.instanceMethod yX6_isGiven ∈ gw := gw_of (List.mem_of_getElem? (i := 949) (by decide +kernel)) rfl
theorem iX6_isGiven : Cond.instanceMethod yX6_isGiven ∈ gw := w949
theorem w83 : Cond.selects RX6 yX6_isGiven yX6_isGiven ∈ gw := gw_of (List.mem_of_getElem? (i := 83) (by decide +kernel)) rfl
theorem sX6_isGiven : Cond.selects RX6 yX6_isGiven yX6_isGiven ∈ gw := w83
def mX6_clearRows : MS := (yX6_clearRows, cX6_clearRows, 3, none, 0, 0, 0, 0)
theorem w891 : Cond.code yX6_clearRows cX6_clearRows 3 none ∈ gw := gw_of (List.mem_of_getElem? (i := 891) (by decide +kernel)) rfl
theorem oX6_clearRows : MOK mX6_clearRows 1 := ⟨by decide +kernel, ⟨by decide +kernel, by decide +kernel⟩, by decide +kernel, w891, w124⟩
theorem w890 : Cond.instanceMethod yX6_clearRows ∈ gw := gw_of (List.mem_of_getElem? (i := 890) (by decide +kernel)) rfl
theorem iX6_clearRows : Cond.instanceMethod yX6_clearRows ∈ gw := w890
theorem w69 : Cond.selects RX6 yX6_clearRows yX6_clearRows ∈ gw := gw_of (List.mem_of_getElem? (i := 69) (by decide +kernel)) rfl
theorem sX6_clearRows : Cond.selects RX6 yX6_clearRows yX6_clearRows ∈ gw := w69
def mX6_note : MS := (yX6_note, cX6_note, 7, none, 0, 0, 0, 0)
theorem w1073 : Cond.code yX6_note cX6_note 7 none ∈ gw := gw_of (List.mem_of_getElem? (i := 1073) (by decide +kernel)) rfl
theorem oX6_note : MOK mX6_note 4 := ⟨by decide +kernel, ⟨by decide +kernel, by decide +kernel⟩, by decide +kernel, w1073, w124⟩
theorem w1072 : Cond.instanceMethod yX6_note ∈ gw := gw_of (List.mem_of_getElem? (i := 1072) (by decide +kernel)) rfl
theorem iX6_note : Cond.instanceMethod yX6_note ∈ gw := w1072
theorem w113 : Cond.selects RX6 yX6_note yX6_note ∈ gw := gw_of (List.mem_of_getElem? (i := 113) (by decide +kernel)) rfl
theorem sX6_note : Cond.selects RX6 yX6_note yX6_note ∈ gw := w113
def mX6_isOther : MS := (yX6_isOther, cX6_isOther, 7, (some .boolean), 1, 23, 0, 0)
theorem w1053 : Cond.code yX6_isOther cX6_isOther 7 (some .boolean) ∈ gw := gw_of (List.mem_of_getElem? (i := 1053) (by decide +kernel)) rfl
theorem oX6_isOther : MOK mX6_isOther 2 := ⟨by decide +kernel, ⟨by decide +kernel, by decide +kernel⟩, by decide +kernel, w1053, w124⟩
theorem w1052 : Cond.instanceMethod yX6_isOther ∈ gw := gw_of (List.mem_of_getElem? (i := 1052) (by decide +kernel)) rfl
theorem iX6_isOther : Cond.instanceMethod yX6_isOther ∈ gw := w1052
theorem w108 : Cond.selects RX6 yX6_isOther yX6_isOther ∈ gw := gw_of (List.mem_of_getElem? (i := 108) (by decide +kernel)) rfl
theorem sX6_isOther : Cond.selects RX6 yX6_isOther yX6_isOther ∈ gw := w108
def mX6_whatOf : MS := (yX6_whatOf, cX6_whatOf, 5, (some .int), 3, 70, 0, 0)
theorem w1069 : Cond.code yX6_whatOf cX6_whatOf 5 (some .int) ∈ gw := gw_of (List.mem_of_getElem? (i := 1069) (by decide +kernel)) rfl
theorem oX6_whatOf : MOK mX6_whatOf 2 := ⟨by decide +kernel, ⟨by decide +kernel, by decide +kernel⟩, by decide +kernel, w1069, w124⟩
theorem w1068 : Cond.instanceMethod yX6_whatOf ∈ gw := gw_of (List.mem_of_getElem? (i := 1068) (by decide +kernel)) rfl
theorem iX6_whatOf : Cond.instanceMethod yX6_whatOf ∈ gw := w1068
theorem w112 : Cond.selects RX6 yX6_whatOf yX6_whatOf ∈ gw := gw_of (List.mem_of_getElem? (i := 112) (by decide +kernel)) rfl
theorem sX6_whatOf : Cond.selects RX6 yX6_whatOf yX6_whatOf ∈ gw := w112
def mX6_settle : MS := (yX6_settle, cX6_settle, 4, none, 4, 94, 0, 0)
theorem w1065 : Cond.code yX6_settle cX6_settle 4 none ∈ gw := gw_of (List.mem_of_getElem? (i := 1065) (by decide +kernel)) rfl
theorem oX6_settle : MOK mX6_settle 0 := ⟨by decide +kernel, ⟨by decide +kernel, by decide +kernel⟩, by decide +kernel, w1065, w124⟩
theorem w1064 : Cond.instanceMethod yX6_settle ∈ gw := gw_of (List.mem_of_getElem? (i := 1064) (by decide +kernel)) rfl
theorem iX6_settle : Cond.instanceMethod yX6_settle ∈ gw := w1064
theorem w111 : Cond.selects RX6 yX6_settle yX6_settle ∈ gw := gw_of (List.mem_of_getElem? (i := 111) (by decide +kernel)) rfl
theorem sX6_settle : Cond.selects RX6 yX6_settle yX6_settle ∈ gw := w111
def mX6_number : MS := (yX6_number, cX6_number, 2, (some .int), 0, 0, 0, 0)
theorem w903 : Cond.code yX6_number cX6_number 2 (some .int) ∈ gw := gw_of (List.mem_of_getElem? (i := 903) (by decide +kernel)) rfl
theorem oX6_number : MOK mX6_number 1 := ⟨by decide +kernel, ⟨by decide +kernel, by decide +kernel⟩, by decide +kernel, w903, w124⟩
theorem w902 : Cond.instanceMethod yX6_number ∈ gw := gw_of (List.mem_of_getElem? (i := 902) (by decide +kernel)) rfl
theorem iX6_number : Cond.instanceMethod yX6_number ∈ gw := w902
theorem w72 : Cond.selects RX6 yX6_number yX6_number ∈ gw := gw_of (List.mem_of_getElem? (i := 72) (by decide +kernel)) rfl
theorem sX6_number : Cond.selects RX6 yX6_number yX6_number ∈ gw := w72
def mX6_isKnown : MS := (yX6_isKnown, cX6_isKnown, 2, (some .boolean), 0, 0, 0, 0)
theorem w918 : Cond.code yX6_isKnown cX6_isKnown 2 (some .boolean) ∈ gw := gw_of (List.mem_of_getElem? (i := 918) (by decide +kernel)) rfl
theorem oX6_isKnown : MOK mX6_isKnown 1 := ⟨by decide +kernel, ⟨by decide +kernel, by decide +kernel⟩, by decide +kernel, w918, w124⟩
theorem w917 : Cond.instanceMethod yX6_isKnown ∈ gw := gw_of (List.mem_of_getElem? (i := 917) (by decide +kernel)) rfl
theorem iX6_isKnown : Cond.instanceMethod yX6_isKnown ∈ gw := w917
theorem w75 : Cond.selects RX6 yX6_isKnown yX6_isKnown ∈ gw := gw_of (List.mem_of_getElem? (i := 75) (by decide +kernel)) rfl
theorem sX6_isKnown : Cond.selects RX6 yX6_isKnown yX6_isKnown ∈ gw := w75
def mX6_isOne : MS := (yX6_isOne, cX6_isOne, 3, (some .boolean), 1, 21, 0, 0)
theorem w914 : Cond.code yX6_isOne cX6_isOne 3 (some .boolean) ∈ gw := gw_of (List.mem_of_getElem? (i := 914) (by decide +kernel)) rfl
theorem oX6_isOne : MOK mX6_isOne 1 := ⟨by decide +kernel, ⟨by decide +kernel, by decide +kernel⟩, by decide +kernel, w914, w124⟩
theorem w913 : Cond.instanceMethod yX6_isOne ∈ gw := gw_of (List.mem_of_getElem? (i := 913) (by decide +kernel)) rfl
theorem iX6_isOne : Cond.instanceMethod yX6_isOne ∈ gw := w913
theorem w74 : Cond.selects RX6 yX6_isOne yX6_isOne ∈ gw := gw_of (List.mem_of_getElem? (i := 74) (by decide +kernel)) rfl
theorem sX6_isOne : Cond.selects RX6 yX6_isOne yX6_isOne ∈ gw := w74
def mX6_oneOf : MS := (yX6_oneOf, cX6_oneOf, 2, (some .int), 0, 0, 0, 0)
theorem w926 : Cond.code yX6_oneOf cX6_oneOf 2 (some .int) ∈ gw := gw_of (List.mem_of_getElem? (i := 926) (by decide +kernel)) rfl
theorem oX6_oneOf : MOK mX6_oneOf 1 := ⟨by decide +kernel, ⟨by decide +kernel, by decide +kernel⟩, by decide +kernel, w926, w124⟩
theorem w925 : Cond.instanceMethod yX6_oneOf ∈ gw := gw_of (List.mem_of_getElem? (i := 925) (by decide +kernel)) rfl
theorem iX6_oneOf : Cond.instanceMethod yX6_oneOf ∈ gw := w925
theorem w77 : Cond.selects RX6 yX6_oneOf yX6_oneOf ∈ gw := gw_of (List.mem_of_getElem? (i := 77) (by decide +kernel)) rfl
theorem sX6_oneOf : Cond.selects RX6 yX6_oneOf yX6_oneOf ∈ gw := w77
def mX6_areIds : MS := (yX6_areIds, cX6_areIds, 3, (some .boolean), 2, 43, 0, 0)
theorem w910 : Cond.code yX6_areIds cX6_areIds 3 (some .boolean) ∈ gw := gw_of (List.mem_of_getElem? (i := 910) (by decide +kernel)) rfl
theorem oX6_areIds : MOK mX6_areIds 2 := ⟨by decide +kernel, ⟨by decide +kernel, by decide +kernel⟩, by decide +kernel, w910, w124⟩
theorem w909 : Cond.instanceMethod yX6_areIds ∈ gw := gw_of (List.mem_of_getElem? (i := 909) (by decide +kernel)) rfl
theorem iX6_areIds : Cond.instanceMethod yX6_areIds ∈ gw := w909
theorem w73 : Cond.selects RX6 yX6_areIds yX6_areIds ∈ gw := gw_of (List.mem_of_getElem? (i := 73) (by decide +kernel)) rfl
theorem sX6_areIds : Cond.selects RX6 yX6_areIds yX6_areIds ∈ gw := w73
def mX6_takeIds : MS := (yX6_takeIds, cX6_takeIds, 4, none, 1, 21, 0, 0)
theorem w922 : Cond.code yX6_takeIds cX6_takeIds 4 none ∈ gw := gw_of (List.mem_of_getElem? (i := 922) (by decide +kernel)) rfl
theorem oX6_takeIds : MOK mX6_takeIds 2 := ⟨by decide +kernel, ⟨by decide +kernel, by decide +kernel⟩, by decide +kernel, w922, w124⟩
theorem w921 : Cond.instanceMethod yX6_takeIds ∈ gw := gw_of (List.mem_of_getElem? (i := 921) (by decide +kernel)) rfl
theorem iX6_takeIds : Cond.instanceMethod yX6_takeIds ∈ gw := w921
theorem w76 : Cond.selects RX6 yX6_takeIds yX6_takeIds ∈ gw := gw_of (List.mem_of_getElem? (i := 76) (by decide +kernel)) rfl
theorem sX6_takeIds : Cond.selects RX6 yX6_takeIds yX6_takeIds ∈ gw := w76
def mX6_isRow : MS := (yX6_isRow, cX6_isRow, 2, (some .boolean), 1, 22, 0, 0)
theorem w906 : Cond.code yX6_isRow cX6_isRow 2 (some .boolean) ∈ gw := gw_of (List.mem_of_getElem? (i := 906) (by decide +kernel)) rfl
theorem oX6_isRow : MOK mX6_isRow 2 := ⟨by decide +kernel, ⟨by decide +kernel, by decide +kernel⟩, by decide +kernel, w906, w124⟩
theorem w905 : Cond.static yX6_isRow ∈ gw := gw_of (List.mem_of_getElem? (i := 905) (by decide +kernel)) rfl
theorem iX6_isRow : Cond.static yX6_isRow ∈ gw := w905
def mX6_doGet : MS := (yX6_doGet, cX6_doGet, 4, (some .int), 3, 70, 0, 0)
theorem w899 : Cond.code yX6_doGet cX6_doGet 4 (some .int) ∈ gw := gw_of (List.mem_of_getElem? (i := 899) (by decide +kernel)) rfl
theorem oX6_doGet : MOK mX6_doGet 0 := ⟨by decide +kernel, ⟨by decide +kernel, by decide +kernel⟩, by decide +kernel, w899, w124⟩
theorem w898 : Cond.instanceMethod yX6_doGet ∈ gw := gw_of (List.mem_of_getElem? (i := 898) (by decide +kernel)) rfl
theorem iX6_doGet : Cond.instanceMethod yX6_doGet ∈ gw := w898
theorem w71 : Cond.selects RX6 yX6_doGet yX6_doGet ∈ gw := gw_of (List.mem_of_getElem? (i := 71) (by decide +kernel)) rfl
theorem sX6_doGet : Cond.selects RX6 yX6_doGet yX6_doGet ∈ gw := w71
def mX6_keyOf : MS := (yX6_keyOf, cX6_keyOf, 3, (some .int), 1, 23, 0, 0)
theorem w974 : Cond.code yX6_keyOf cX6_keyOf 3 (some .int) ∈ gw := gw_of (List.mem_of_getElem? (i := 974) (by decide +kernel)) rfl
theorem oX6_keyOf : MOK mX6_keyOf 2 := ⟨by decide +kernel, ⟨by decide +kernel, by decide +kernel⟩, by decide +kernel, w974, w124⟩
theorem w973 : Cond.instanceMethod yX6_keyOf ∈ gw := gw_of (List.mem_of_getElem? (i := 973) (by decide +kernel)) rfl
theorem iX6_keyOf : Cond.instanceMethod yX6_keyOf ∈ gw := w973
theorem w89 : Cond.selects RX6 yX6_keyOf yX6_keyOf ∈ gw := gw_of (List.mem_of_getElem? (i := 89) (by decide +kernel)) rfl
theorem sX6_keyOf : Cond.selects RX6 yX6_keyOf yX6_keyOf ∈ gw := w89
def mX6_doQuery : MS := (yX6_doQuery, cX6_doQuery, 8, (some .int), 3, 70, 0, 0)
theorem w958 : Cond.code yX6_doQuery cX6_doQuery 8 (some .int) ∈ gw := gw_of (List.mem_of_getElem? (i := 958) (by decide +kernel)) rfl
theorem oX6_doQuery : MOK mX6_doQuery 0 := ⟨by decide +kernel, ⟨by decide +kernel, by decide +kernel⟩, by decide +kernel, w958, w124⟩
theorem w957 : Cond.instanceMethod yX6_doQuery ∈ gw := gw_of (List.mem_of_getElem? (i := 957) (by decide +kernel)) rfl
theorem iX6_doQuery : Cond.instanceMethod yX6_doQuery ∈ gw := w957
theorem w85 : Cond.selects RX6 yX6_doQuery yX6_doQuery ∈ gw := gw_of (List.mem_of_getElem? (i := 85) (by decide +kernel)) rfl
theorem sX6_doQuery : Cond.selects RX6 yX6_doQuery yX6_doQuery ∈ gw := w85
def mX6_isBehind : MS := (yX6_isBehind, cX6_isBehind, 6, (some .boolean), 2, 45, 0, 0)
theorem w970 : Cond.code yX6_isBehind cX6_isBehind 6 (some .boolean) ∈ gw := gw_of (List.mem_of_getElem? (i := 970) (by decide +kernel)) rfl
theorem oX6_isBehind : MOK mX6_isBehind 3 := ⟨by decide +kernel, ⟨by decide +kernel, by decide +kernel⟩, by decide +kernel, w970, w124⟩
theorem w969 : Cond.instanceMethod yX6_isBehind ∈ gw := gw_of (List.mem_of_getElem? (i := 969) (by decide +kernel)) rfl
theorem iX6_isBehind : Cond.instanceMethod yX6_isBehind ∈ gw := w969
theorem w88 : Cond.selects RX6 yX6_isBehind yX6_isBehind ∈ gw := gw_of (List.mem_of_getElem? (i := 88) (by decide +kernel)) rfl
theorem sX6_isBehind : Cond.selects RX6 yX6_isBehind yX6_isBehind ∈ gw := w88
def mX6_between : MS := (yX6_between, cX6_between, 9, (some .int), 0, 0, 0, 0)
theorem w986 : Cond.code yX6_between cX6_between 9 (some .int) ∈ gw := gw_of (List.mem_of_getElem? (i := 986) (by decide +kernel)) rfl
theorem oX6_between : MOK mX6_between 4 := ⟨by decide +kernel, ⟨by decide +kernel, by decide +kernel⟩, by decide +kernel, w986, w124⟩
theorem w985 : Cond.instanceMethod yX6_between ∈ gw := gw_of (List.mem_of_getElem? (i := 985) (by decide +kernel)) rfl
theorem iX6_between : Cond.instanceMethod yX6_between ∈ gw := w985
theorem w92 : Cond.selects RX6 yX6_between yX6_between ∈ gw := gw_of (List.mem_of_getElem? (i := 92) (by decide +kernel)) rfl
theorem sX6_between : Cond.selects RX6 yX6_between yX6_between ∈ gw := w92
def mX6_rowOf : MS := (yX6_rowOf, cX6_rowOf, 2, (some .int), 0, 0, 0, 0)
theorem w990 : Cond.code yX6_rowOf cX6_rowOf 2 (some .int) ∈ gw := gw_of (List.mem_of_getElem? (i := 990) (by decide +kernel)) rfl
theorem oX6_rowOf : MOK mX6_rowOf 1 := ⟨by decide +kernel, ⟨by decide +kernel, by decide +kernel⟩, by decide +kernel, w990, w124⟩
theorem w989 : Cond.instanceMethod yX6_rowOf ∈ gw := gw_of (List.mem_of_getElem? (i := 989) (by decide +kernel)) rfl
theorem iX6_rowOf : Cond.instanceMethod yX6_rowOf ∈ gw := w989
theorem w93 : Cond.selects RX6 yX6_rowOf yX6_rowOf ∈ gw := gw_of (List.mem_of_getElem? (i := 93) (by decide +kernel)) rfl
theorem sX6_rowOf : Cond.selects RX6 yX6_rowOf yX6_rowOf ∈ gw := w93
def mX6_countBetween : MS := (yX6_countBetween, cX6_countBetween, 6, (some .int), 1, 28, 0, 0)
theorem w982 : Cond.code yX6_countBetween cX6_countBetween 6 (some .int) ∈ gw := gw_of (List.mem_of_getElem? (i := 982) (by decide +kernel)) rfl
theorem oX6_countBetween : MOK mX6_countBetween 3 := ⟨by decide +kernel, ⟨by decide +kernel, by decide +kernel⟩, by decide +kernel, w982, w124⟩
theorem w981 : Cond.instanceMethod yX6_countBetween ∈ gw := gw_of (List.mem_of_getElem? (i := 981) (by decide +kernel)) rfl
theorem iX6_countBetween : Cond.instanceMethod yX6_countBetween ∈ gw := w981
theorem w91 : Cond.selects RX6 yX6_countBetween yX6_countBetween ∈ gw := gw_of (List.mem_of_getElem? (i := 91) (by decide +kernel)) rfl
theorem sX6_countBetween : Cond.selects RX6 yX6_countBetween yX6_countBetween ∈ gw := w91
def mX6_doChanges : MS := (yX6_doChanges, cX6_doChanges, 8, (some .int), 2, 53, 0, 0)
theorem w978 : Cond.code yX6_doChanges cX6_doChanges 8 (some .int) ∈ gw := gw_of (List.mem_of_getElem? (i := 978) (by decide +kernel)) rfl
theorem oX6_doChanges : MOK mX6_doChanges 0 := ⟨by decide +kernel, ⟨by decide +kernel, by decide +kernel⟩, by decide +kernel, w978, w124⟩
theorem w977 : Cond.instanceMethod yX6_doChanges ∈ gw := gw_of (List.mem_of_getElem? (i := 977) (by decide +kernel)) rfl
theorem iX6_doChanges : Cond.instanceMethod yX6_doChanges ∈ gw := w977
theorem w90 : Cond.selects RX6 yX6_doChanges yX6_doChanges ∈ gw := gw_of (List.mem_of_getElem? (i := 90) (by decide +kernel)) rfl
theorem sX6_doChanges : Cond.selects RX6 yX6_doChanges yX6_doChanges ∈ gw := w90
def mX6_drafted : MS := (yX6_drafted, cX6_drafted, 2, (some .int), 0, 0, 0, 0)
theorem w1006 : Cond.code yX6_drafted cX6_drafted 2 (some .int) ∈ gw := gw_of (List.mem_of_getElem? (i := 1006) (by decide +kernel)) rfl
theorem oX6_drafted : MOK mX6_drafted 1 := ⟨by decide +kernel, ⟨by decide +kernel, by decide +kernel⟩, by decide +kernel, w1006, w124⟩
theorem w1005 : Cond.instanceMethod yX6_drafted ∈ gw := gw_of (List.mem_of_getElem? (i := 1005) (by decide +kernel)) rfl
theorem iX6_drafted : Cond.instanceMethod yX6_drafted ∈ gw := w1005
theorem w97 : Cond.selects RX6 yX6_drafted yX6_drafted ∈ gw := gw_of (List.mem_of_getElem? (i := 97) (by decide +kernel)) rfl
theorem sX6_drafted : Cond.selects RX6 yX6_drafted yX6_drafted ∈ gw := w97
def mX6_isDraft : MS := (yX6_isDraft, cX6_isDraft, 4, (some .boolean), 1, 22, 0, 0)
theorem w1002 : Cond.code yX6_isDraft cX6_isDraft 4 (some .boolean) ∈ gw := gw_of (List.mem_of_getElem? (i := 1002) (by decide +kernel)) rfl
theorem oX6_isDraft : MOK mX6_isDraft 3 := ⟨by decide +kernel, ⟨by decide +kernel, by decide +kernel⟩, by decide +kernel, w1002, w124⟩
theorem w1001 : Cond.instanceMethod yX6_isDraft ∈ gw := gw_of (List.mem_of_getElem? (i := 1001) (by decide +kernel)) rfl
theorem iX6_isDraft : Cond.instanceMethod yX6_isDraft ∈ gw := w1001
theorem w96 : Cond.selects RX6 yX6_isDraft yX6_isDraft ∈ gw := gw_of (List.mem_of_getElem? (i := 96) (by decide +kernel)) rfl
theorem sX6_isDraft : Cond.selects RX6 yX6_isDraft yX6_isDraft ∈ gw := w96
def mX6_makeBox : MS := (yX6_makeBox, cX6_makeBox, 4, (some .int), 2, 49, 0, 0)
theorem w998 : Cond.code yX6_makeBox cX6_makeBox 4 (some .int) ∈ gw := gw_of (List.mem_of_getElem? (i := 998) (by decide +kernel)) rfl
theorem oX6_makeBox : MOK mX6_makeBox 0 := ⟨by decide +kernel, ⟨by decide +kernel, by decide +kernel⟩, by decide +kernel, w998, w124⟩
theorem w997 : Cond.instanceMethod yX6_makeBox ∈ gw := gw_of (List.mem_of_getElem? (i := 997) (by decide +kernel)) rfl
theorem iX6_makeBox : Cond.instanceMethod yX6_makeBox ∈ gw := w997
theorem w95 : Cond.selects RX6 yX6_makeBox yX6_makeBox ∈ gw := gw_of (List.mem_of_getElem? (i := 95) (by decide +kernel)) rfl
theorem sX6_makeBox : Cond.selects RX6 yX6_makeBox yX6_makeBox ∈ gw := w95
def mX6_hasNumber : MS := (yX6_hasNumber, cX6_hasNumber, 3, (some .boolean), 1, 23, 0, 0)
theorem w1033 : Cond.code yX6_hasNumber cX6_hasNumber 3 (some .boolean) ∈ gw := gw_of (List.mem_of_getElem? (i := 1033) (by decide +kernel)) rfl
theorem oX6_hasNumber : MOK mX6_hasNumber 2 := ⟨by decide +kernel, ⟨by decide +kernel, by decide +kernel⟩, by decide +kernel, w1033, w124⟩
theorem w1032 : Cond.instanceMethod yX6_hasNumber ∈ gw := gw_of (List.mem_of_getElem? (i := 1032) (by decide +kernel)) rfl
theorem iX6_hasNumber : Cond.instanceMethod yX6_hasNumber ∈ gw := w1032
theorem w103 : Cond.selects RX6 yX6_hasNumber yX6_hasNumber ∈ gw := gw_of (List.mem_of_getElem? (i := 103) (by decide +kernel)) rfl
theorem sX6_hasNumber : Cond.selects RX6 yX6_hasNumber yX6_hasNumber ∈ gw := w103
def mX6_gathers : MS := (yX6_gathers, cX6_gathers, 3, (some .boolean), 2, 45, 0, 0)
theorem w1029 : Cond.code yX6_gathers cX6_gathers 3 (some .boolean) ∈ gw := gw_of (List.mem_of_getElem? (i := 1029) (by decide +kernel)) rfl
theorem oX6_gathers : MOK mX6_gathers 1 := ⟨by decide +kernel, ⟨by decide +kernel, by decide +kernel⟩, by decide +kernel, w1029, w124⟩
theorem w1028 : Cond.instanceMethod yX6_gathers ∈ gw := gw_of (List.mem_of_getElem? (i := 1028) (by decide +kernel)) rfl
theorem iX6_gathers : Cond.instanceMethod yX6_gathers ∈ gw := w1028
theorem w102 : Cond.selects RX6 yX6_gathers yX6_gathers ∈ gw := gw_of (List.mem_of_getElem? (i := 102) (by decide +kernel)) rfl
theorem sX6_gathers : Cond.selects RX6 yX6_gathers yX6_gathers ∈ gw := w102
def mX6_isName : MS := (yX6_isName, cX6_isName, 1, (some .boolean), 1, 22, 0, 0)
theorem w1025 : Cond.code yX6_isName cX6_isName 1 (some .boolean) ∈ gw := gw_of (List.mem_of_getElem? (i := 1025) (by decide +kernel)) rfl
theorem oX6_isName : MOK mX6_isName 1 := ⟨by decide +kernel, ⟨by decide +kernel, by decide +kernel⟩, by decide +kernel, w1025, w124⟩
theorem w1024 : Cond.static yX6_isName ∈ gw := gw_of (List.mem_of_getElem? (i := 1024) (by decide +kernel)) rfl
theorem iX6_isName : Cond.static yX6_isName ∈ gw := w1024
def mX6_makeMail : MS := (yX6_makeMail, cX6_makeMail, 6, (some .int), 3, 67, 0, 0)
theorem w1022 : Cond.code yX6_makeMail cX6_makeMail 6 (some .int) ∈ gw := gw_of (List.mem_of_getElem? (i := 1022) (by decide +kernel)) rfl
theorem oX6_makeMail : MOK mX6_makeMail 0 := ⟨by decide +kernel, ⟨by decide +kernel, by decide +kernel⟩, by decide +kernel, w1022, w124⟩
theorem w1021 : Cond.instanceMethod yX6_makeMail ∈ gw := gw_of (List.mem_of_getElem? (i := 1021) (by decide +kernel)) rfl
theorem iX6_makeMail : Cond.instanceMethod yX6_makeMail ∈ gw := w1021
theorem w101 : Cond.selects RX6 yX6_makeMail yX6_makeMail ∈ gw := gw_of (List.mem_of_getElem? (i := 101) (by decide +kernel)) rfl
theorem sX6_makeMail : Cond.selects RX6 yX6_makeMail yX6_makeMail ∈ gw := w101
def mX6_doMake : MS := (yX6_doMake, cX6_doMake, 2, (some .int), 4, 92, 0, 0)
theorem w994 : Cond.code yX6_doMake cX6_doMake 2 (some .int) ∈ gw := gw_of (List.mem_of_getElem? (i := 994) (by decide +kernel)) rfl
theorem oX6_doMake : MOK mX6_doMake 0 := ⟨by decide +kernel, ⟨by decide +kernel, by decide +kernel⟩, by decide +kernel, w994, w124⟩
theorem w993 : Cond.instanceMethod yX6_doMake ∈ gw := gw_of (List.mem_of_getElem? (i := 993) (by decide +kernel)) rfl
theorem iX6_doMake : Cond.instanceMethod yX6_doMake ∈ gw := w993
theorem w94 : Cond.selects RX6 yX6_doMake yX6_doMake ∈ gw := gw_of (List.mem_of_getElem? (i := 94) (by decide +kernel)) rfl
theorem sX6_doMake : Cond.selects RX6 yX6_doMake yX6_doMake ∈ gw := w94
def mX6_changeBox : MS := (yX6_changeBox, cX6_changeBox, 7, (some .int), 2, 49, 0, 0)
theorem w1041 : Cond.code yX6_changeBox cX6_changeBox 7 (some .int) ∈ gw := gw_of (List.mem_of_getElem? (i := 1041) (by decide +kernel)) rfl
theorem oX6_changeBox : MOK mX6_changeBox 3 := ⟨by decide +kernel, ⟨by decide +kernel, by decide +kernel⟩, by decide +kernel, w1041, w124⟩
theorem w1040 : Cond.instanceMethod yX6_changeBox ∈ gw := gw_of (List.mem_of_getElem? (i := 1040) (by decide +kernel)) rfl
theorem iX6_changeBox : Cond.instanceMethod yX6_changeBox ∈ gw := w1040
theorem w105 : Cond.selects RX6 yX6_changeBox yX6_changeBox ∈ gw := gw_of (List.mem_of_getElem? (i := 105) (by decide +kernel)) rfl
theorem sX6_changeBox : Cond.selects RX6 yX6_changeBox yX6_changeBox ∈ gw := w105
def mX6_changeMail : MS := (yX6_changeMail, cX6_changeMail, 6, (some .int), 1, 22, 0, 0)
theorem w1049 : Cond.code yX6_changeMail cX6_changeMail 6 (some .int) ∈ gw := gw_of (List.mem_of_getElem? (i := 1049) (by decide +kernel)) rfl
theorem oX6_changeMail : MOK mX6_changeMail 3 := ⟨by decide +kernel, ⟨by decide +kernel, by decide +kernel⟩, by decide +kernel, w1049, w124⟩
theorem w1048 : Cond.instanceMethod yX6_changeMail ∈ gw := gw_of (List.mem_of_getElem? (i := 1048) (by decide +kernel)) rfl
theorem iX6_changeMail : Cond.instanceMethod yX6_changeMail ∈ gw := w1048
theorem w107 : Cond.selects RX6 yX6_changeMail yX6_changeMail ∈ gw := gw_of (List.mem_of_getElem? (i := 107) (by decide +kernel)) rfl
theorem sX6_changeMail : Cond.selects RX6 yX6_changeMail yX6_changeMail ∈ gw := w107
def mX6_doChange : MS := (yX6_doChange, cX6_doChange, 9, (some .int), 3, 75, 0, 0)
theorem w1037 : Cond.code yX6_doChange cX6_doChange 9 (some .int) ∈ gw := gw_of (List.mem_of_getElem? (i := 1037) (by decide +kernel)) rfl
theorem oX6_doChange : MOK mX6_doChange 0 := ⟨by decide +kernel, ⟨by decide +kernel, by decide +kernel⟩, by decide +kernel, w1037, w124⟩
theorem w1036 : Cond.instanceMethod yX6_doChange ∈ gw := gw_of (List.mem_of_getElem? (i := 1036) (by decide +kernel)) rfl
theorem iX6_doChange : Cond.instanceMethod yX6_doChange ∈ gw := w1036
theorem w104 : Cond.selects RX6 yX6_doChange yX6_doChange ∈ gw := gw_of (List.mem_of_getElem? (i := 104) (by decide +kernel)) rfl
theorem sX6_doChange : Cond.selects RX6 yX6_doChange yX6_doChange ∈ gw := w104
def mX6_destroyOne : MS := (yX6_destroyOne, cX6_destroyOne, 4, (some .int), 3, 70, 0, 0)
theorem w1061 : Cond.code yX6_destroyOne cX6_destroyOne 4 (some .int) ∈ gw := gw_of (List.mem_of_getElem? (i := 1061) (by decide +kernel)) rfl
theorem oX6_destroyOne : MOK mX6_destroyOne 2 := ⟨by decide +kernel, ⟨by decide +kernel, by decide +kernel⟩, by decide +kernel, w1061, w124⟩
theorem w1060 : Cond.instanceMethod yX6_destroyOne ∈ gw := gw_of (List.mem_of_getElem? (i := 1060) (by decide +kernel)) rfl
theorem iX6_destroyOne : Cond.instanceMethod yX6_destroyOne ∈ gw := w1060
theorem w110 : Cond.selects RX6 yX6_destroyOne yX6_destroyOne ∈ gw := gw_of (List.mem_of_getElem? (i := 110) (by decide +kernel)) rfl
theorem sX6_destroyOne : Cond.selects RX6 yX6_destroyOne yX6_destroyOne ∈ gw := w110
def mX6_doDestroy : MS := (yX6_doDestroy, cX6_doDestroy, 4, (some .int), 4, 93, 0, 0)
theorem w1057 : Cond.code yX6_doDestroy cX6_doDestroy 4 (some .int) ∈ gw := gw_of (List.mem_of_getElem? (i := 1057) (by decide +kernel)) rfl
theorem oX6_doDestroy : MOK mX6_doDestroy 0 := ⟨by decide +kernel, ⟨by decide +kernel, by decide +kernel⟩, by decide +kernel, w1057, w124⟩
theorem w1056 : Cond.instanceMethod yX6_doDestroy ∈ gw := gw_of (List.mem_of_getElem? (i := 1056) (by decide +kernel)) rfl
theorem iX6_doDestroy : Cond.instanceMethod yX6_doDestroy ∈ gw := w1056
theorem w109 : Cond.selects RX6 yX6_doDestroy yX6_doDestroy ∈ gw := gw_of (List.mem_of_getElem? (i := 109) (by decide +kernel)) rfl
theorem sX6_doDestroy : Cond.selects RX6 yX6_doDestroy yX6_doDestroy ∈ gw := w109
def mX6_doCall : MS := (yX6_doCall, cX6_doCall, 1, (some .int), 5, 116, 0, 0)
theorem w895 : Cond.code yX6_doCall cX6_doCall 1 (some .int) ∈ gw := gw_of (List.mem_of_getElem? (i := 895) (by decide +kernel)) rfl
theorem oX6_doCall : MOK mX6_doCall 0 := ⟨by decide +kernel, ⟨by decide +kernel, by decide +kernel⟩, by decide +kernel, w895, w124⟩
theorem w894 : Cond.instanceMethod yX6_doCall ∈ gw := gw_of (List.mem_of_getElem? (i := 894) (by decide +kernel)) rfl
theorem iX6_doCall : Cond.instanceMethod yX6_doCall ∈ gw := w894
theorem w70 : Cond.selects RX6 yX6_doCall yX6_doCall ∈ gw := gw_of (List.mem_of_getElem? (i := 70) (by decide +kernel)) rfl
theorem sX6_doCall : Cond.selects RX6 yX6_doCall yX6_doCall ∈ gw := w70
def mX6_keepEntries : MS := (yX6_keepEntries, cX6_keepEntries, 2, none, 0, 0, 0, 0)
theorem w887 : Cond.code yX6_keepEntries cX6_keepEntries 2 none ∈ gw := gw_of (List.mem_of_getElem? (i := 887) (by decide +kernel)) rfl
theorem oX6_keepEntries : MOK mX6_keepEntries 0 := ⟨by decide +kernel, ⟨by decide +kernel, by decide +kernel⟩, by decide +kernel, w887, w124⟩
theorem w886 : Cond.instanceMethod yX6_keepEntries ∈ gw := gw_of (List.mem_of_getElem? (i := 886) (by decide +kernel)) rfl
theorem iX6_keepEntries : Cond.instanceMethod yX6_keepEntries ∈ gw := w886
theorem w68 : Cond.selects RX6 yX6_keepEntries yX6_keepEntries ∈ gw := gw_of (List.mem_of_getElem? (i := 68) (by decide +kernel)) rfl
theorem sX6_keepEntries : Cond.selects RX6 yX6_keepEntries yX6_keepEntries ∈ gw := w68
def mX6_backToEntries : MS := (yX6_backToEntries, cX6_backToEntries, 2, none, 0, 0, 0, 0)
theorem w1077 : Cond.code yX6_backToEntries cX6_backToEntries 2 none ∈ gw := gw_of (List.mem_of_getElem? (i := 1077) (by decide +kernel)) rfl
theorem oX6_backToEntries : MOK mX6_backToEntries 0 := ⟨by decide +kernel, ⟨by decide +kernel, by decide +kernel⟩, by decide +kernel, w1077, w124⟩
theorem w1076 : Cond.instanceMethod yX6_backToEntries ∈ gw := gw_of (List.mem_of_getElem? (i := 1076) (by decide +kernel)) rfl
theorem iX6_backToEntries : Cond.instanceMethod yX6_backToEntries ∈ gw := w1076
theorem w114 : Cond.selects RX6 yX6_backToEntries yX6_backToEntries ∈ gw := gw_of (List.mem_of_getElem? (i := 114) (by decide +kernel)) rfl
theorem sX6_backToEntries : Cond.selects RX6 yX6_backToEntries yX6_backToEntries ∈ gw := w114
def mX6_run : MS := (yX6_run, cX6_run, 4, (some .int), 6, 136, 0, 0)
theorem w880 : Cond.code yX6_run cX6_run 4 (some .int) ∈ gw := gw_of (List.mem_of_getElem? (i := 880) (by decide +kernel)) rfl
theorem oX6_run : MOK mX6_run 0 := ⟨by decide +kernel, ⟨by decide +kernel, by decide +kernel⟩, by decide +kernel, w880, w124⟩
theorem w878 : Cond.instanceMethod yX6_run ∈ gw := gw_of (List.mem_of_getElem? (i := 878) (by decide +kernel)) rfl
theorem iX6_run : Cond.instanceMethod yX6_run ∈ gw := w878
theorem w879 : Cond.selects RX6 yX6_run yX6_run ∈ gw := gw_of (List.mem_of_getElem? (i := 879) (by decide +kernel)) rfl
theorem sX6_run : Cond.selects RX6 yX6_run yX6_run ∈ gw := w879
def mX6_isCall : MS := (yX6_isCall, cX6_isCall, 2, (some .boolean), 0, 0, 0, 0)
theorem w1085 : Cond.code yX6_isCall cX6_isCall 2 (some .boolean) ∈ gw := gw_of (List.mem_of_getElem? (i := 1085) (by decide +kernel)) rfl
theorem oX6_isCall : MOK mX6_isCall 1 := ⟨by decide +kernel, ⟨by decide +kernel, by decide +kernel⟩, by decide +kernel, w1085, w124⟩
theorem w1084 : Cond.instanceMethod yX6_isCall ∈ gw := gw_of (List.mem_of_getElem? (i := 1084) (by decide +kernel)) rfl
theorem iX6_isCall : Cond.instanceMethod yX6_isCall ∈ gw := w1084
theorem w115 : Cond.selects RX6 yX6_isCall yX6_isCall ∈ gw := gw_of (List.mem_of_getElem? (i := 115) (by decide +kernel)) rfl
theorem sX6_isCall : Cond.selects RX6 yX6_isCall yX6_isCall ∈ gw := w115
def mX6_status : MS := (yX6_status, cX6_status, 2, (some .int), 1, 21, 0, 0)
theorem w1081 : Cond.code yX6_status cX6_status 2 (some .int) ∈ gw := gw_of (List.mem_of_getElem? (i := 1081) (by decide +kernel)) rfl
theorem oX6_status : MOK mX6_status 1 := ⟨by decide +kernel, ⟨by decide +kernel, by decide +kernel⟩, by decide +kernel, w1081, w124⟩
theorem w1079 : Cond.instanceMethod yX6_status ∈ gw := gw_of (List.mem_of_getElem? (i := 1079) (by decide +kernel)) rfl
theorem iX6_status : Cond.instanceMethod yX6_status ∈ gw := w1079
theorem w1080 : Cond.selects RX6 yX6_status yX6_status ∈ gw := gw_of (List.mem_of_getElem? (i := 1080) (by decide +kernel)) rfl
theorem sX6_status : Cond.selects RX6 yX6_status yX6_status ∈ gw := w1080
def mX6_many : MS := (yX6_many, cX6_many, 3, (some .int), 1, 22, 0, 0)
theorem w1089 : Cond.code yX6_many cX6_many 3 (some .int) ∈ gw := gw_of (List.mem_of_getElem? (i := 1089) (by decide +kernel)) rfl
theorem oX6_many : MOK mX6_many 2 := ⟨by decide +kernel, ⟨by decide +kernel, by decide +kernel⟩, by decide +kernel, w1089, w124⟩
theorem w1087 : Cond.instanceMethod yX6_many ∈ gw := gw_of (List.mem_of_getElem? (i := 1087) (by decide +kernel)) rfl
theorem iX6_many : Cond.instanceMethod yX6_many ∈ gw := w1087
theorem w1088 : Cond.selects RX6 yX6_many yX6_many ∈ gw := gw_of (List.mem_of_getElem? (i := 1088) (by decide +kernel)) rfl
theorem sX6_many : Cond.selects RX6 yX6_many yX6_many ∈ gw := w1088
def mX6_given : MS := (yX6_given, cX6_given, 4, (some .int), 1, 22, 0, 0)
theorem w1093 : Cond.code yX6_given cX6_given 4 (some .int) ∈ gw := gw_of (List.mem_of_getElem? (i := 1093) (by decide +kernel)) rfl
theorem oX6_given : MOK mX6_given 3 := ⟨by decide +kernel, ⟨by decide +kernel, by decide +kernel⟩, by decide +kernel, w1093, w124⟩
theorem w1091 : Cond.instanceMethod yX6_given ∈ gw := gw_of (List.mem_of_getElem? (i := 1091) (by decide +kernel)) rfl
theorem iX6_given : Cond.instanceMethod yX6_given ∈ gw := w1091
theorem w1092 : Cond.selects RX6 yX6_given yX6_given ∈ gw := gw_of (List.mem_of_getElem? (i := 1092) (by decide +kernel)) rfl
theorem sX6_given : Cond.selects RX6 yX6_given yX6_given ∈ gw := w1092
def mX6_state : MS := (yX6_state, cX6_state, 2, (some .int), 1, 22, 0, 0)
theorem w1097 : Cond.code yX6_state cX6_state 2 (some .int) ∈ gw := gw_of (List.mem_of_getElem? (i := 1097) (by decide +kernel)) rfl
theorem oX6_state : MOK mX6_state 1 := ⟨by decide +kernel, ⟨by decide +kernel, by decide +kernel⟩, by decide +kernel, w1097, w124⟩
theorem w1095 : Cond.instanceMethod yX6_state ∈ gw := gw_of (List.mem_of_getElem? (i := 1095) (by decide +kernel)) rfl
theorem iX6_state : Cond.instanceMethod yX6_state ∈ gw := w1095
theorem w1096 : Cond.selects RX6 yX6_state yX6_state ∈ gw := gw_of (List.mem_of_getElem? (i := 1096) (by decide +kernel)) rfl
theorem sX6_state : Cond.selects RX6 yX6_state yX6_state ∈ gw := w1096
def mX6_thereOf : MS := (yX6_thereOf, cX6_thereOf, 4, (some .int), 3, 70, 0, 0)
theorem w1105 : Cond.code yX6_thereOf cX6_thereOf 4 (some .int) ∈ gw := gw_of (List.mem_of_getElem? (i := 1105) (by decide +kernel)) rfl
theorem oX6_thereOf : MOK mX6_thereOf 1 := ⟨by decide +kernel, ⟨by decide +kernel, by decide +kernel⟩, by decide +kernel, w1105, w124⟩
theorem w1104 : Cond.instanceMethod yX6_thereOf ∈ gw := gw_of (List.mem_of_getElem? (i := 1104) (by decide +kernel)) rfl
theorem iX6_thereOf : Cond.instanceMethod yX6_thereOf ∈ gw := w1104
theorem w116 : Cond.selects RX6 yX6_thereOf yX6_thereOf ∈ gw := gw_of (List.mem_of_getElem? (i := 116) (by decide +kernel)) rfl
theorem sX6_thereOf : Cond.selects RX6 yX6_thereOf yX6_thereOf ∈ gw := w116
def mX6_told : MS := (yX6_told, cX6_told, 2, (some .int), 4, 93, 0, 0)
theorem w1101 : Cond.code yX6_told cX6_told 2 (some .int) ∈ gw := gw_of (List.mem_of_getElem? (i := 1101) (by decide +kernel)) rfl
theorem oX6_told : MOK mX6_told 1 := ⟨by decide +kernel, ⟨by decide +kernel, by decide +kernel⟩, by decide +kernel, w1101, w124⟩
theorem w1099 : Cond.instanceMethod yX6_told ∈ gw := gw_of (List.mem_of_getElem? (i := 1099) (by decide +kernel)) rfl
theorem iX6_told : Cond.instanceMethod yX6_told ∈ gw := w1099
theorem w1100 : Cond.selects RX6 yX6_told yX6_told ∈ gw := gw_of (List.mem_of_getElem? (i := 1100) (by decide +kernel)) rfl
theorem sX6_told : Cond.selects RX6 yX6_told yX6_told ∈ gw := w1100
def mX6_box : MS := (yX6_box, cX6_box, 5, (some .int), 2, 47, 0, 0)
theorem w1109 : Cond.code yX6_box cX6_box 5 (some .int) ∈ gw := gw_of (List.mem_of_getElem? (i := 1109) (by decide +kernel)) rfl
theorem oX6_box : MOK mX6_box 2 := ⟨by decide +kernel, ⟨by decide +kernel, by decide +kernel⟩, by decide +kernel, w1109, w124⟩
theorem w1107 : Cond.instanceMethod yX6_box ∈ gw := gw_of (List.mem_of_getElem? (i := 1107) (by decide +kernel)) rfl
theorem iX6_box : Cond.instanceMethod yX6_box ∈ gw := w1107
theorem w1108 : Cond.selects RX6 yX6_box yX6_box ∈ gw := gw_of (List.mem_of_getElem? (i := 1108) (by decide +kernel)) rfl
theorem sX6_box : Cond.selects RX6 yX6_box yX6_box ∈ gw := w1108
def mX6_mail : MS := (yX6_mail, cX6_mail, 6, (some .int), 1, 23, 0, 0)
theorem w1113 : Cond.code yX6_mail cX6_mail 6 (some .int) ∈ gw := gw_of (List.mem_of_getElem? (i := 1113) (by decide +kernel)) rfl
theorem oX6_mail : MOK mX6_mail 2 := ⟨by decide +kernel, ⟨by decide +kernel, by decide +kernel⟩, by decide +kernel, w1113, w124⟩
theorem w1111 : Cond.instanceMethod yX6_mail ∈ gw := gw_of (List.mem_of_getElem? (i := 1111) (by decide +kernel)) rfl
theorem iX6_mail : Cond.instanceMethod yX6_mail ∈ gw := w1111
theorem w1112 : Cond.selects RX6 yX6_mail yX6_mail ∈ gw := gw_of (List.mem_of_getElem? (i := 1112) (by decide +kernel)) rfl
theorem sX6_mail : Cond.selects RX6 yX6_mail yX6_mail ∈ gw := w1112
def mX6_thread : MS := (yX6_thread, cX6_thread, 5, (some .int), 3, 70, 0, 0)
theorem w1117 : Cond.code yX6_thread cX6_thread 5 (some .int) ∈ gw := gw_of (List.mem_of_getElem? (i := 1117) (by decide +kernel)) rfl
theorem oX6_thread : MOK mX6_thread 2 := ⟨by decide +kernel, ⟨by decide +kernel, by decide +kernel⟩, by decide +kernel, w1117, w124⟩
theorem w1115 : Cond.instanceMethod yX6_thread ∈ gw := gw_of (List.mem_of_getElem? (i := 1115) (by decide +kernel)) rfl
theorem iX6_thread : Cond.instanceMethod yX6_thread ∈ gw := w1115
theorem w1116 : Cond.selects RX6 yX6_thread yX6_thread ∈ gw := gw_of (List.mem_of_getElem? (i := 1116) (by decide +kernel)) rfl
theorem sX6_thread : Cond.selects RX6 yX6_thread yX6_thread ∈ gw := w1116
def mX6_entry : MS := (yX6_entry, cX6_entry, 3, (some .int), 0, 0, 0, 0)
theorem w1121 : Cond.code yX6_entry cX6_entry 3 (some .int) ∈ gw := gw_of (List.mem_of_getElem? (i := 1121) (by decide +kernel)) rfl
theorem oX6_entry : MOK mX6_entry 2 := ⟨by decide +kernel, ⟨by decide +kernel, by decide +kernel⟩, by decide +kernel, w1121, w124⟩
theorem w1119 : Cond.instanceMethod yX6_entry ∈ gw := gw_of (List.mem_of_getElem? (i := 1119) (by decide +kernel)) rfl
theorem iX6_entry : Cond.instanceMethod yX6_entry ∈ gw := w1119
theorem w1120 : Cond.selects RX6 yX6_entry yX6_entry ∈ gw := gw_of (List.mem_of_getElem? (i := 1120) (by decide +kernel)) rfl
theorem sX6_entry : Cond.selects RX6 yX6_entry yX6_entry ∈ gw := w1120
def mX6_filter : MS := (yX6_filter, cX6_filter, 5, (some .int), 1, 22, 0, 0)
theorem w1125 : Cond.code yX6_filter cX6_filter 5 (some .int) ∈ gw := gw_of (List.mem_of_getElem? (i := 1125) (by decide +kernel)) rfl
theorem oX6_filter : MOK mX6_filter 3 := ⟨by decide +kernel, ⟨by decide +kernel, by decide +kernel⟩, by decide +kernel, w1125, w124⟩
theorem w1123 : Cond.instanceMethod yX6_filter ∈ gw := gw_of (List.mem_of_getElem? (i := 1123) (by decide +kernel)) rfl
theorem iX6_filter : Cond.instanceMethod yX6_filter ∈ gw := w1123
theorem w1124 : Cond.selects RX6 yX6_filter yX6_filter ∈ gw := gw_of (List.mem_of_getElem? (i := 1124) (by decide +kernel)) rfl
theorem sX6_filter : Cond.selects RX6 yX6_filter yX6_filter ∈ gw := w1124
def mX6_isOneFit : MS := (yX6_isOneFit, cX6_isOneFit, 4, (some .boolean), 1, 23, 0, 0)
theorem w966 : Cond.code yX6_isOneFit cX6_isOneFit 4 (some .boolean) ∈ gw := gw_of (List.mem_of_getElem? (i := 966) (by decide +kernel)) rfl
theorem oX6_isOneFit : MOK mX6_isOneFit 2 := ⟨by decide +kernel, ⟨by decide +kernel, by decide +kernel⟩, by decide +kernel, w966, w124⟩
theorem w965 : Cond.instanceMethod yX6_isOneFit ∈ gw := gw_of (List.mem_of_getElem? (i := 965) (by decide +kernel)) rfl
theorem iX6_isOneFit : Cond.instanceMethod yX6_isOneFit ∈ gw := w965
theorem w87 : Cond.selects RX6 yX6_isOneFit yX6_isOneFit ∈ gw := gw_of (List.mem_of_getElem? (i := 87) (by decide +kernel)) rfl
theorem sX6_isOneFit : Cond.selects RX6 yX6_isOneFit yX6_isOneFit ∈ gw := w87
def mX6_isFit : MS := (yX6_isFit, cX6_isFit, 4, (some .boolean), 2, 46, 0, 0)
theorem w962 : Cond.code yX6_isFit cX6_isFit 4 (some .boolean) ∈ gw := gw_of (List.mem_of_getElem? (i := 962) (by decide +kernel)) rfl
theorem oX6_isFit : MOK mX6_isFit 2 := ⟨by decide +kernel, ⟨by decide +kernel, by decide +kernel⟩, by decide +kernel, w962, w124⟩
theorem w961 : Cond.instanceMethod yX6_isFit ∈ gw := gw_of (List.mem_of_getElem? (i := 961) (by decide +kernel)) rfl
theorem iX6_isFit : Cond.instanceMethod yX6_isFit ∈ gw := w961
theorem w86 : Cond.selects RX6 yX6_isFit yX6_isFit ∈ gw := gw_of (List.mem_of_getElem? (i := 86) (by decide +kernel)) rfl
theorem sX6_isFit : Cond.selects RX6 yX6_isFit yX6_isFit ∈ gw := w86
def mX6_fits : MS := (yX6_fits, cX6_fits, 3, (some .int), 3, 69, 0, 0)
theorem w1129 : Cond.code yX6_fits cX6_fits 3 (some .int) ∈ gw := gw_of (List.mem_of_getElem? (i := 1129) (by decide +kernel)) rfl
theorem oX6_fits : MOK mX6_fits 2 := ⟨by decide +kernel, ⟨by decide +kernel, by decide +kernel⟩, by decide +kernel, w1129, w124⟩
theorem w1127 : Cond.instanceMethod yX6_fits ∈ gw := gw_of (List.mem_of_getElem? (i := 1127) (by decide +kernel)) rfl
theorem iX6_fits : Cond.instanceMethod yX6_fits ∈ gw := w1127
theorem w1128 : Cond.selects RX6 yX6_fits yX6_fits ∈ gw := gw_of (List.mem_of_getElem? (i := 1128) (by decide +kernel)) rfl
theorem sX6_fits : Cond.selects RX6 yX6_fits yX6_fits ∈ gw := w1128
def mJ6_bitCount_0f7a4 : MS := (yJ6_bitCount_0f7a4, cJ6_bitCount_0f7a4, 1, (some .int), 0, 0, 0, 0)
theorem w706 : Cond.code yJ6_bitCount_0f7a4 cJ6_bitCount_0f7a4 1 (some .int) ∈ gw := gw_of (List.mem_of_getElem? (i := 706) (by decide +kernel)) rfl
theorem w126 : Cond.initialized RJ6 ∈ gw := gw_of (List.mem_of_getElem? (i := 126) (by decide +kernel)) rfl
theorem oJ6_bitCount_0f7a4 : MOK mJ6_bitCount_0f7a4 1 := ⟨by decide +kernel, ⟨by decide +kernel, by decide +kernel⟩, by decide +kernel, w706, w126⟩
theorem w705 : Cond.static yJ6_bitCount_0f7a4 ∈ gw := gw_of (List.mem_of_getElem? (i := 705) (by decide +kernel)) rfl
theorem iJ6_bitCount_0f7a4 : Cond.static yJ6_bitCount_0f7a4 ∈ gw := w705
theorem w132 : Cond.methodLink RX5 1 objectInit ∈ gw := gw_of (List.mem_of_getElem? (i := 132) (by decide +kernel)) rfl
theorem kX5_1 : Cond.methodLink RX5 1 objectInit ∈ gw := w132
theorem w141 : Cond.methodLinkNest RX5 27 yX2_init "MailCore" ∈ nw := nw_of (List.mem_of_getElem? (i := 141) (by decide +kernel)) rfl
theorem kX5_27 : LK RX5 27 yX2_init := Or.inr ⟨_, w141⟩
theorem w179 : Cond.methodLinkNest RX5 42 yX3_init "MailCore" ∈ nw := nw_of (List.mem_of_getElem? (i := 179) (by decide +kernel)) rfl
theorem kX5_42 : LK RX5 42 yX3_init := Or.inr ⟨_, w179⟩
theorem w203 : Cond.methodLinkNest RX5 49 yX1_init "MailCore" ∈ nw := nw_of (List.mem_of_getElem? (i := 203) (by decide +kernel)) rfl
theorem kX5_49 : LK RX5 49 yX1_init := Or.inr ⟨_, w203⟩
theorem w225 : Cond.methodLinkNest RX5 57 yX0_init "MailCore" ∈ nw := nw_of (List.mem_of_getElem? (i := 225) (by decide +kernel)) rfl
theorem kX5_57 : LK RX5 57 yX0_init := Or.inr ⟨_, w225⟩
theorem w277 : Cond.methodLinkNest RX5 58 yX4_init "MailCore" ∈ nw := nw_of (List.mem_of_getElem? (i := 277) (by decide +kernel)) rfl
theorem kX5_58 : LK RX5 58 yX4_init := Or.inr ⟨_, w277⟩
theorem w340 : Cond.methodLink RX5 59 yX5_putOfIds ∈ gw := gw_of (List.mem_of_getElem? (i := 340) (by decide +kernel)) rfl
theorem kX5_59 : LK RX5 59 yX5_putOfIds := Or.inl w340
theorem w344 : Cond.methodLinkNest RX5 67 yX0_begin "MailCore" ∈ nw := nw_of (List.mem_of_getElem? (i := 344) (by decide +kernel)) rfl
theorem kX5_67 : LK RX5 67 yX0_begin := Or.inr ⟨_, w344⟩
theorem w360 : Cond.methodLink RX5 90 arraycopyName ∈ gw := gw_of (List.mem_of_getElem? (i := 360) (by decide +kernel)) rfl
theorem kX5_90 : Cond.methodLink RX5 90 arraycopyName ∈ gw := w360
theorem w379 : Cond.methodLinkNest RX5 103 yX4_clear "MailCore" ∈ nw := nw_of (List.mem_of_getElem? (i := 379) (by decide +kernel)) rfl
theorem kX5_103 : LK RX5 103 yX4_clear := Or.inr ⟨_, w379⟩
theorem w383 : Cond.methodLink RX5 106 yX5_refusalOf ∈ gw := gw_of (List.mem_of_getElem? (i := 383) (by decide +kernel)) rfl
theorem kX5_106 : LK RX5 106 yX5_refusalOf := Or.inl w383
theorem w432 : Cond.methodLink RX5 110 yX5_act ∈ gw := gw_of (List.mem_of_getElem? (i := 432) (by decide +kernel)) rfl
theorem kX5_110 : LK RX5 110 yX5_act := Or.inl w432
theorem w654 : Cond.methodLink RX5 114 yX5_logTouched ∈ gw := gw_of (List.mem_of_getElem? (i := 654) (by decide +kernel)) rfl
theorem kX5_114 : LK RX5 114 yX5_logTouched := Or.inl w654
theorem w425 : Cond.methodLinkNest RX5 120 yX4_count "MailCore" ∈ nw := nw_of (List.mem_of_getElem? (i := 425) (by decide +kernel)) rfl
theorem kX5_120 : LK RX5 120 yX4_count := Or.inr ⟨_, w425⟩
theorem w448 : Cond.methodLinkNest RX5 124 yX4_at "MailCore" ∈ nw := nw_of (List.mem_of_getElem? (i := 448) (by decide +kernel)) rfl
theorem kX5_124 : LK RX5 124 yX4_at := Or.inr ⟨_, w448⟩
theorem w390 : Cond.methodLink RX5 128 yX5_isKind ∈ gw := gw_of (List.mem_of_getElem? (i := 390) (by decide +kernel)) rfl
theorem kX5_128 : LK RX5 128 yX5_isKind := Or.inl w390
theorem w457 : Cond.methodLink RX5 132 yX5_kindOf ∈ gw := gw_of (List.mem_of_getElem? (i := 457) (by decide +kernel)) rfl
theorem kX5_132 : LK RX5 132 yX5_kindOf := Or.inl w457
theorem w691 : Cond.methodLinkNest RX5 139 yX2_howMany "MailCore" ∈ nw := nw_of (List.mem_of_getElem? (i := 691) (by decide +kernel)) rfl
theorem kX5_139 : LK RX5 139 yX2_howMany := Or.inr ⟨_, w691⟩
theorem w461 : Cond.methodLinkNest RX5 149 yX2_isThere "MailCore" ∈ nw := nw_of (List.mem_of_getElem? (i := 461) (by decide +kernel)) rfl
theorem kX5_149 : LK RX5 149 yX2_isThere := Or.inr ⟨_, w461⟩
theorem w485 : Cond.methodLinkNest RX5 152 yX2_value "MailCore" ∈ nw := nw_of (List.mem_of_getElem? (i := 485) (by decide +kernel)) rfl
theorem kX5_152 : LK RX5 152 yX2_value := Or.inr ⟨_, w485⟩
theorem w638 : Cond.methodLink RX5 155 yX5_mailsIn ∈ gw := gw_of (List.mem_of_getElem? (i := 638) (by decide +kernel)) rfl
theorem kX5_155 : LK RX5 155 yX5_mailsIn := Or.inl w638
theorem w632 : Cond.methodLinkNest RX5 158 yX2_howManyWith "MailCore" ∈ nw := nw_of (List.mem_of_getElem? (i := 632) (by decide +kernel)) rfl
theorem kX5_158 : LK RX5 158 yX2_howManyWith := Or.inr ⟨_, w632⟩
theorem w545 : Cond.methodLink RX5 161 yX5_depthOf ∈ gw := gw_of (List.mem_of_getElem? (i := 545) (by decide +kernel)) rfl
theorem kX5_161 : LK RX5 161 yX5_depthOf := Or.inl w545
theorem w704 : Cond.methodLink RX5 164 yJ6_bitCount_0f7a4 ∈ gw := gw_of (List.mem_of_getElem? (i := 704) (by decide +kernel)) rfl
theorem kX5_164 : LK RX5 164 yJ6_bitCount_0f7a4 := Or.inl w704
theorem w481 : Cond.methodLink RX5 169 yX5_isIn ∈ gw := gw_of (List.mem_of_getElem? (i := 481) (by decide +kernel)) rfl
theorem kX5_169 : LK RX5 169 yX5_isIn := Or.inl w481
theorem w714 : Cond.methodLinkNest RX5 173 yX2_idWith "MailCore" ∈ nw := nw_of (List.mem_of_getElem? (i := 714) (by decide +kernel)) rfl
theorem kX5_173 : LK RX5 173 yX2_idWith := Or.inr ⟨_, w714⟩
theorem w722 : Cond.methodLinkNest RX5 177 yX3_at "MailCore" ∈ nw := nw_of (List.mem_of_getElem? (i := 722) (by decide +kernel)) rfl
theorem kX5_177 : LK RX5 177 yX3_at := Or.inr ⟨_, w722⟩
theorem w727 : Cond.methodLinkNest RX5 178 yX1_isThere "MailCore" ∈ nw := nw_of (List.mem_of_getElem? (i := 727) (by decide +kernel)) rfl
theorem kX5_178 : LK RX5 178 yX1_isThere := Or.inr ⟨_, w727⟩
theorem w731 : Cond.methodLinkNest RX5 179 yX1_add "MailCore" ∈ nw := nw_of (List.mem_of_getElem? (i := 731) (by decide +kernel)) rfl
theorem kX5_179 : LK RX5 179 yX1_add := Or.inr ⟨_, w731⟩
theorem w473 : Cond.methodLink RX5 182 yX5_passes ∈ gw := gw_of (List.mem_of_getElem? (i := 473) (by decide +kernel)) rfl
theorem kX5_182 : LK RX5 182 yX5_passes := Or.inl w473
theorem w393 : Cond.methodLink RX5 194 yX5_isWithin ∈ gw := gw_of (List.mem_of_getElem? (i := 393) (by decide +kernel)) rfl
theorem kX5_194 : LK RX5 194 yX5_isWithin := Or.inl w393
theorem w396 : Cond.methodLink RX5 204 yX5_areIdsAsTold ∈ gw := gw_of (List.mem_of_getElem? (i := 396) (by decide +kernel)) rfl
theorem kX5_204 : LK RX5 204 yX5_areIdsAsTold := Or.inl w396
theorem w399 : Cond.methodLink RX5 208 yX5_isDraftAsTold ∈ gw := gw_of (List.mem_of_getElem? (i := 399) (by decide +kernel)) rfl
theorem kX5_208 : LK RX5 208 yX5_isDraftAsTold := Or.inl w399
theorem w407 : Cond.methodLink RX5 211 yX5_isChangeAsTold ∈ gw := gw_of (List.mem_of_getElem? (i := 407) (by decide +kernel)) rfl
theorem kX5_211 : LK RX5 211 yX5_isChangeAsTold := Or.inl w407
theorem w402 : Cond.methodLink RX5 214 yX5_isDraftedWithin ∈ gw := gw_of (List.mem_of_getElem? (i := 402) (by decide +kernel)) rfl
theorem kX5_214 : LK RX5 214 yX5_isDraftedWithin := Or.inl w402
theorem w410 : Cond.methodLink RX5 221 yX5_tellsOneByV ∈ gw := gw_of (List.mem_of_getElem? (i := 410) (by decide +kernel)) rfl
theorem kX5_221 : LK RX5 221 yX5_tellsOneByV := Or.inl w410
theorem w417 : Cond.methodLink RX5 224 yX5_isGoodAhead ∈ gw := gw_of (List.mem_of_getElem? (i := 417) (by decide +kernel)) rfl
theorem kX5_224 : LK RX5 224 yX5_isGoodAhead := Or.inl w417
theorem w421 : Cond.methodLink RX5 227 yX5_doesOneHold ∈ gw := gw_of (List.mem_of_getElem? (i := 421) (by decide +kernel)) rfl
theorem kX5_227 : LK RX5 227 yX5_doesOneHold := Or.inl w421
theorem w429 : Cond.methodLink RX5 230 yX5_oneBeside ∈ gw := gw_of (List.mem_of_getElem? (i := 429) (by decide +kernel)) rfl
theorem kX5_230 : LK RX5 230 yX5_oneBeside := Or.inl w429
theorem w444 : Cond.methodLink RX5 234 yX5_idOf ∈ gw := gw_of (List.mem_of_getElem? (i := 444) (by decide +kernel)) rfl
theorem kX5_234 : LK RX5 234 yX5_idOf := Or.inl w444
theorem w453 : Cond.methodLink RX5 240 yX5_addId ∈ gw := gw_of (List.mem_of_getElem? (i := 453) (by decide +kernel)) rfl
theorem kX5_240 : LK RX5 240 yX5_addId := Or.inl w453
theorem w387 : Cond.methodLink RX5 243 yX5_isAsTold ∈ gw := gw_of (List.mem_of_getElem? (i := 387) (by decide +kernel)) rfl
theorem kX5_243 : LK RX5 243 yX5_isAsTold := Or.inl w387
theorem w413 : Cond.methodLink RX5 246 yX5_doNamedHold ∈ gw := gw_of (List.mem_of_getElem? (i := 413) (by decide +kernel)) rfl
theorem kX5_246 : LK RX5 246 yX5_doNamedHold := Or.inl w413
theorem w436 : Cond.methodLink RX5 249 yX5_tellIds ∈ gw := gw_of (List.mem_of_getElem? (i := 436) (by decide +kernel)) rfl
theorem kX5_249 : LK RX5 249 yX5_tellIds := Or.inl w436
theorem w469 : Cond.methodLink RX5 252 yX5_tellFitting ∈ gw := gw_of (List.mem_of_getElem? (i := 469) (by decide +kernel)) rfl
theorem kX5_252 : LK RX5 252 yX5_tellFitting := Or.inl w469
theorem w503 : Cond.methodLinkNest RX5 255 yX3_tellChanges "MailCore" ∈ nw := nw_of (List.mem_of_getElem? (i := 503) (by decide +kernel)) rfl
theorem kX5_255 : LK RX5 255 yX3_tellChanges := Or.inr ⟨_, w503⟩
theorem w533 : Cond.methodLink RX5 259 yX5_makeBox ∈ gw := gw_of (List.mem_of_getElem? (i := 533) (by decide +kernel)) rfl
theorem kX5_259 : LK RX5 259 yX5_makeBox := Or.inl w533
theorem w566 : Cond.methodLink RX5 262 yX5_makeMail ∈ gw := gw_of (List.mem_of_getElem? (i := 566) (by decide +kernel)) rfl
theorem kX5_262 : LK RX5 262 yX5_makeMail := Or.inl w566
theorem w583 : Cond.methodLink RX5 265 yX5_changeIds ∈ gw := gw_of (List.mem_of_getElem? (i := 583) (by decide +kernel)) rfl
theorem kX5_265 : LK RX5 265 yX5_changeIds := Or.inl w583
theorem w624 : Cond.methodLink RX5 268 yX5_destroyIds ∈ gw := gw_of (List.mem_of_getElem? (i := 624) (by decide +kernel)) rfl
theorem kX5_268 : LK RX5 268 yX5_destroyIds := Or.inl w624
theorem w591 : Cond.methodLinkNest RX5 271 yX2_keep "MailCore" ∈ nw := nw_of (List.mem_of_getElem? (i := 591) (by decide +kernel)) rfl
theorem kX5_271 : LK RX5 271 yX2_keep := Or.inr ⟨_, w591⟩
theorem w612 : Cond.methodLinkNest RX5 274 yX2_bringBack "MailCore" ∈ nw := nw_of (List.mem_of_getElem? (i := 612) (by decide +kernel)) rfl
theorem kX5_274 : LK RX5 274 yX2_bringBack := Or.inr ⟨_, w612⟩
theorem w620 : Cond.methodLinkNest RX5 280 yX2_isTouched "MailCore" ∈ nw := nw_of (List.mem_of_getElem? (i := 620) (by decide +kernel)) rfl
theorem kX5_280 : LK RX5 280 yX2_isTouched := Or.inr ⟨_, w620⟩
theorem w658 : Cond.methodLinkNest RX5 286 yX3_add "MailCore" ∈ nw := nw_of (List.mem_of_getElem? (i := 658) (by decide +kernel)) rfl
theorem kX5_286 : LK RX5 286 yX3_add := Or.inr ⟨_, w658⟩
theorem w666 : Cond.methodLinkNest RX5 289 yX2_forgetTouched "MailCore" ∈ nw := nw_of (List.mem_of_getElem? (i := 666) (by decide +kernel)) rfl
theorem kX5_289 : LK RX5 289 yX2_forgetTouched := Or.inr ⟨_, w666⟩
theorem w440 : Cond.methodLink RX5 292 yX5_takeIds ∈ gw := gw_of (List.mem_of_getElem? (i := 440) (by decide +kernel)) rfl
theorem kX5_292 : LK RX5 292 yX5_takeIds := Or.inl w440
theorem w465 : Cond.methodLinkNest RX5 296 yX4_add "MailCore" ∈ nw := nw_of (List.mem_of_getElem? (i := 465) (by decide +kernel)) rfl
theorem kX5_296 : LK RX5 296 yX4_add := Or.inr ⟨_, w465⟩
theorem w495 : Cond.methodLink RX5 298 yX5_sortIds ∈ gw := gw_of (List.mem_of_getElem? (i := 495) (by decide +kernel)) rfl
theorem kX5_298 : LK RX5 298 yX5_sortIds := Or.inl w495
theorem w499 : Cond.methodLink RX5 301 yX5_weightOf ∈ gw := gw_of (List.mem_of_getElem? (i := 499) (by decide +kernel)) rfl
theorem kX5_301 : LK RX5 301 yX5_weightOf := Or.inl w499
theorem w537 : Cond.methodLink RX5 304 yX5_parentOf ∈ gw := gw_of (List.mem_of_getElem? (i := 537) (by decide +kernel)) rfl
theorem kX5_304 : LK RX5 304 yX5_parentOf := Or.inl w537
theorem w541 : Cond.methodLink RX5 307 yX5_isNameTaken ∈ gw := gw_of (List.mem_of_getElem? (i := 541) (by decide +kernel)) rfl
theorem kX5_307 : LK RX5 307 yX5_isNameTaken := Or.inl w541
theorem w549 : Cond.methodLinkNest RX5 310 yX2_isFull "MailCore" ∈ nw := nw_of (List.mem_of_getElem? (i := 549) (by decide +kernel)) rfl
theorem kX5_310 : LK RX5 310 yX2_isFull := Or.inr ⟨_, w549⟩
theorem w553 : Cond.methodLinkNest RX5 314 yX2_add "MailCore" ∈ nw := nw_of (List.mem_of_getElem? (i := 553) (by decide +kernel)) rfl
theorem kX5_314 : LK RX5 314 yX2_add := Or.inr ⟨_, w553⟩
theorem w565 : Cond.methodLinkNest RX5 316 yX2_set "MailCore" ∈ nw := nw_of (List.mem_of_getElem? (i := 565) (by decide +kernel)) rfl
theorem kX5_316 : LK RX5 316 yX2_set := Or.inr ⟨_, w565⟩
theorem w489 : Cond.methodLink RX5 320 yX5_bitOf ∈ gw := gw_of (List.mem_of_getElem? (i := 489) (by decide +kernel)) rfl
theorem kX5_320 : LK RX5 320 yX5_bitOf := Or.inl w489
theorem w570 : Cond.methodLink RX5 323 yX5_comeToThread ∈ gw := gw_of (List.mem_of_getElem? (i := 570) (by decide +kernel)) rfl
theorem kX5_323 : LK RX5 323 yX5_comeToThread := Or.inl w570
theorem w587 : Cond.methodLink RX5 326 yX5_keepAll ∈ gw := gw_of (List.mem_of_getElem? (i := 587) (by decide +kernel)) rfl
theorem kX5_326 : LK RX5 326 yX5_keepAll := Or.inl w587
theorem w596 : Cond.methodLink RX5 329 yX5_changeBox ∈ gw := gw_of (List.mem_of_getElem? (i := 596) (by decide +kernel)) rfl
theorem kX5_329 : LK RX5 329 yX5_changeBox := Or.inl w596
theorem w604 : Cond.methodLink RX5 332 yX5_changeMail ∈ gw := gw_of (List.mem_of_getElem? (i := 604) (by decide +kernel)) rfl
theorem kX5_332 : LK RX5 332 yX5_changeMail := Or.inl w604
theorem w608 : Cond.methodLink RX5 335 yX5_bringAllBack ∈ gw := gw_of (List.mem_of_getElem? (i := 608) (by decide +kernel)) rfl
theorem kX5_335 : LK RX5 335 yX5_bringAllBack := Or.inl w608
theorem w582 : Cond.methodLinkNest RX5 338 yX2_touch "MailCore" ∈ nw := nw_of (List.mem_of_getElem? (i := 582) (by decide +kernel)) rfl
theorem kX5_338 : LK RX5 338 yX2_touch := Or.inr ⟨_, w582⟩
theorem w600 : Cond.methodLink RX5 341 yX5_isAnyTooDeep ∈ gw := gw_of (List.mem_of_getElem? (i := 600) (by decide +kernel)) rfl
theorem kX5_341 : LK RX5 341 yX5_isAnyTooDeep := Or.inl w600
theorem w628 : Cond.methodLink RX5 344 yX5_destroyBox ∈ gw := gw_of (List.mem_of_getElem? (i := 628) (by decide +kernel)) rfl
theorem kX5_344 : LK RX5 344 yX5_destroyBox := Or.inl w628
theorem w646 : Cond.methodLink RX5 347 yX5_destroyMail ∈ gw := gw_of (List.mem_of_getElem? (i := 646) (by decide +kernel)) rfl
theorem kX5_347 : LK RX5 347 yX5_destroyMail := Or.inl w646
theorem w642 : Cond.methodLinkNest RX5 350 yX2_remove "MailCore" ∈ nw := nw_of (List.mem_of_getElem? (i := 642) (by decide +kernel)) rfl
theorem kX5_350 : LK RX5 350 yX2_remove := Or.inr ⟨_, w642⟩
theorem w650 : Cond.methodLink RX5 353 yX5_leaveThread ∈ gw := gw_of (List.mem_of_getElem? (i := 650) (by decide +kernel)) rfl
theorem kX5_353 : LK RX5 353 yX5_leaveThread := Or.inl w650
theorem w574 : Cond.methodLink RX5 360 yX5_threadFor ∈ gw := gw_of (List.mem_of_getElem? (i := 574) (by decide +kernel)) rfl
theorem kX5_360 : LK RX5 360 yX5_threadFor := Or.inl w574
theorem w578 : Cond.methodLink RX5 363 yX5_doNumbersMeet ∈ gw := gw_of (List.mem_of_getElem? (i := 578) (by decide +kernel)) rfl
theorem kX5_363 : LK RX5 363 yX5_doNumbersMeet := Or.inl w578
theorem w477 : Cond.methodLink RX5 366 yX5_passesOne ∈ gw := gw_of (List.mem_of_getElem? (i := 477) (by decide +kernel)) rfl
theorem kX5_366 : LK RX5 366 yX5_passesOne := Or.inl w477
theorem w492 : Cond.methodLink RX5 369 yX5_hasBit ∈ gw := gw_of (List.mem_of_getElem? (i := 492) (by decide +kernel)) rfl
theorem kX5_369 : LK RX5 369 yX5_hasBit := Or.inl w492
theorem w228 : Cond.methodLink RX0 3 objectInit ∈ gw := gw_of (List.mem_of_getElem? (i := 228) (by decide +kernel)) rfl
theorem kX0_3 : Cond.methodLink RX0 3 objectInit ∈ gw := w228
theorem w206 : Cond.methodLink RX1 3 objectInit ∈ gw := gw_of (List.mem_of_getElem? (i := 206) (by decide +kernel)) rfl
theorem kX1_3 : Cond.methodLink RX1 3 objectInit ∈ gw := w206
theorem w144 : Cond.methodLink RX2 3 objectInit ∈ gw := gw_of (List.mem_of_getElem? (i := 144) (by decide +kernel)) rfl
theorem kX2_3 : Cond.methodLink RX2 3 objectInit ∈ gw := w144
theorem w557 : Cond.methodLink RX2 30 yX2_set ∈ gw := gw_of (List.mem_of_getElem? (i := 557) (by decide +kernel)) rfl
theorem kX2_30 : LK RX2 30 yX2_set := Or.inl w557
theorem w561 : Cond.methodLink RX2 34 yX2_touch ∈ gw := gw_of (List.mem_of_getElem? (i := 561) (by decide +kernel)) rfl
theorem kX2_34 : LK RX2 34 yX2_touch := Or.inl w561
theorem w695 : Cond.methodLink RX2 42 yX2_howManyWith ∈ gw := gw_of (List.mem_of_getElem? (i := 695) (by decide +kernel)) rfl
theorem kX2_42 : LK RX2 42 yX2_howManyWith := Or.inl w695
theorem w636 : Cond.methodLink RX2 46 yX2_isThere ∈ gw := gw_of (List.mem_of_getElem? (i := 636) (by decide +kernel)) rfl
theorem kX2_46 : LK RX2 46 yX2_isThere := Or.inl w636
theorem w637 : Cond.methodLink RX2 50 yX2_value ∈ gw := gw_of (List.mem_of_getElem? (i := 637) (by decide +kernel)) rfl
theorem kX2_50 : LK RX2 50 yX2_value := Or.inl w637
theorem w595 : Cond.methodLink RX2 53 arraycopyName ∈ gw := gw_of (List.mem_of_getElem? (i := 595) (by decide +kernel)) rfl
theorem kX2_53 : Cond.methodLink RX2 53 arraycopyName ∈ gw := w595
theorem w616 : Cond.methodLink RX2 62 yX2_forgetTouched ∈ gw := gw_of (List.mem_of_getElem? (i := 616) (by decide +kernel)) rfl
theorem kX2_62 : LK RX2 62 yX2_forgetTouched := Or.inl w616
theorem w182 : Cond.methodLink RX3 3 objectInit ∈ gw := gw_of (List.mem_of_getElem? (i := 182) (by decide +kernel)) rfl
theorem kX3_3 : Cond.methodLink RX3 3 objectInit ∈ gw := w182
theorem w662 : Cond.methodLink RX3 30 yX3_driveOut ∈ gw := gw_of (List.mem_of_getElem? (i := 662) (by decide +kernel)) rfl
theorem kX3_30 : LK RX3 30 yX3_driveOut := Or.inl w662
theorem w520 : Cond.methodLink RX3 33 yX3_at ∈ gw := gw_of (List.mem_of_getElem? (i := 520) (by decide +kernel)) rfl
theorem kX3_33 : LK RX3 33 yX3_at := Or.inl w520
theorem w507 : Cond.methodLinkNest RX3 37 yX5_isKind "MailCore" ∈ nw := nw_of (List.mem_of_getElem? (i := 507) (by decide +kernel)) rfl
theorem kX3_37 : LK RX3 37 yX5_isKind := Or.inr ⟨_, w507⟩
theorem w508 : Cond.methodLink RX3 52 yX3_lastTellable ∈ gw := gw_of (List.mem_of_getElem? (i := 508) (by decide +kernel)) rfl
theorem kX3_52 : LK RX3 52 yX3_lastTellable := Or.inl w508
theorem w512 : Cond.methodLink RX3 56 yX3_forget ∈ gw := gw_of (List.mem_of_getElem? (i := 512) (by decide +kernel)) rfl
theorem kX3_56 : LK RX3 56 yX3_forget := Or.inl w512
theorem w516 : Cond.methodLink RX3 59 yX3_isOf ∈ gw := gw_of (List.mem_of_getElem? (i := 516) (by decide +kernel)) rfl
theorem kX3_59 : LK RX3 59 yX3_isOf := Or.inl w516
theorem w524 : Cond.methodLink RX3 63 yX3_meet ∈ gw := gw_of (List.mem_of_getElem? (i := 524) (by decide +kernel)) rfl
theorem kX3_63 : LK RX3 63 yX3_meet := Or.inl w524
theorem w532 : Cond.methodLinkNest RX3 66 yX4_add "MailCore" ∈ nw := nw_of (List.mem_of_getElem? (i := 532) (by decide +kernel)) rfl
theorem kX3_66 : LK RX3 66 yX4_add := Or.inr ⟨_, w532⟩
theorem w528 : Cond.methodLink RX3 72 yX3_isLastOfState ∈ gw := gw_of (List.mem_of_getElem? (i := 528) (by decide +kernel)) rfl
theorem kX3_72 : LK RX3 72 yX3_isLastOfState := Or.inl w528
theorem w280 : Cond.methodLink RX4 3 objectInit ∈ gw := gw_of (List.mem_of_getElem? (i := 280) (by decide +kernel)) rfl
theorem kX4_3 : Cond.methodLink RX4 3 objectInit ∈ gw := w280
theorem w452 : Cond.methodLink RX4 20 yX4_count ∈ gw := gw_of (List.mem_of_getElem? (i := 452) (by decide +kernel)) rfl
theorem kX4_20 : LK RX4 20 yX4_count := Or.inl w452
theorem w744 : Cond.methodLink RX6 1 objectInit ∈ gw := gw_of (List.mem_of_getElem? (i := 744) (by decide +kernel)) rfl
theorem kX6_1 : Cond.methodLink RX6 1 objectInit ∈ gw := w744
theorem w935 : Cond.methodLink RX6 81 yX6_isMail ∈ gw := gw_of (List.mem_of_getElem? (i := 935) (by decide +kernel)) rfl
theorem kX6_81 : LK RX6 81 yX6_isMail := Or.inl w935
theorem w943 : Cond.methodLink RX6 85 yX6_mailPart ∈ gw := gw_of (List.mem_of_getElem? (i := 943) (by decide +kernel)) rfl
theorem kX6_85 : LK RX6 85 yX6_mailPart := Or.inl w943
theorem w931 : Cond.methodLink RX6 89 yX6_isBox ∈ gw := gw_of (List.mem_of_getElem? (i := 931) (by decide +kernel)) rfl
theorem kX6_89 : LK RX6 89 yX6_isBox := Or.inl w931
theorem w939 : Cond.methodLink RX6 92 yX6_mailsOf ∈ gw := gw_of (List.mem_of_getElem? (i := 939) (by decide +kernel)) rfl
theorem kX6_92 : LK RX6 92 yX6_mailsOf := Or.inl w939
theorem w1011 : Cond.methodLink RX6 96 yX6_boxPart ∈ gw := gw_of (List.mem_of_getElem? (i := 1011) (by decide +kernel)) rfl
theorem kX6_96 : LK RX6 96 yX6_boxPart := Or.inl w1011
theorem w838 : Cond.methodLink RX6 99 yX6_within ∈ gw := gw_of (List.mem_of_getElem? (i := 838) (by decide +kernel)) rfl
theorem kX6_99 : LK RX6 99 yX6_within := Or.inl w838
theorem w845 : Cond.methodLink RX6 106 yX6_comes ∈ gw := gw_of (List.mem_of_getElem? (i := 845) (by decide +kernel)) rfl
theorem kX6_106 : LK RX6 106 yX6_comes := Or.inl w845
theorem w927 : Cond.methodLink RX6 113 yX6_isThere ∈ gw := gw_of (List.mem_of_getElem? (i := 927) (by decide +kernel)) rfl
theorem kX6_113 : LK RX6 113 yX6_isThere := Or.inl w927
theorem w1050 : Cond.methodLink RX6 117 yX6_isOther ∈ gw := gw_of (List.mem_of_getElem? (i := 1050) (by decide +kernel)) rfl
theorem kX6_117 : LK RX6 117 yX6_isOther := Or.inl w1050
theorem w1066 : Cond.methodLink RX6 121 yX6_whatOf ∈ gw := gw_of (List.mem_of_getElem? (i := 1066) (by decide +kernel)) rfl
theorem kX6_121 : LK RX6 121 yX6_whatOf := Or.inl w1066
theorem w1070 : Cond.methodLink RX6 125 yX6_note ∈ gw := gw_of (List.mem_of_getElem? (i := 1070) (by decide +kernel)) rfl
theorem kX6_125 : LK RX6 125 yX6_note := Or.inl w1070
theorem w915 : Cond.methodLink RX6 132 yX6_isKnown ∈ gw := gw_of (List.mem_of_getElem? (i := 915) (by decide +kernel)) rfl
theorem kX6_132 : LK RX6 132 yX6_isKnown := Or.inl w915
theorem w911 : Cond.methodLink RX6 136 yX6_isOne ∈ gw := gw_of (List.mem_of_getElem? (i := 911) (by decide +kernel)) rfl
theorem kX6_136 : LK RX6 136 yX6_isOne := Or.inl w911
theorem w923 : Cond.methodLink RX6 139 yX6_oneOf ∈ gw := gw_of (List.mem_of_getElem? (i := 923) (by decide +kernel)) rfl
theorem kX6_139 : LK RX6 139 yX6_oneOf := Or.inl w923
theorem w900 : Cond.methodLink RX6 146 yX6_number ∈ gw := gw_of (List.mem_of_getElem? (i := 900) (by decide +kernel)) rfl
theorem kX6_146 : LK RX6 146 yX6_number := Or.inl w900
theorem w904 : Cond.methodLink RX6 149 yX6_isRow ∈ gw := gw_of (List.mem_of_getElem? (i := 904) (by decide +kernel)) rfl
theorem kX6_149 : LK RX6 149 yX6_isRow := Or.inl w904
theorem w907 : Cond.methodLink RX6 152 yX6_areIds ∈ gw := gw_of (List.mem_of_getElem? (i := 907) (by decide +kernel)) rfl
theorem kX6_152 : LK RX6 152 yX6_areIds := Or.inl w907
theorem w919 : Cond.methodLink RX6 155 yX6_takeIds ∈ gw := gw_of (List.mem_of_getElem? (i := 919) (by decide +kernel)) rfl
theorem kX6_155 : LK RX6 155 yX6_takeIds := Or.inl w919
theorem w947 : Cond.methodLink RX6 159 yX6_isGiven ∈ gw := gw_of (List.mem_of_getElem? (i := 947) (by decide +kernel)) rfl
theorem kX6_159 : LK RX6 159 yX6_isGiven := Or.inl w947
theorem w951 : Cond.methodLink RX6 162 yX6_give ∈ gw := gw_of (List.mem_of_getElem? (i := 951) (by decide +kernel)) rfl
theorem kX6_162 : LK RX6 162 yX6_give := Or.inl w951
theorem w959 : Cond.methodLink RX6 169 yX6_isFit ∈ gw := gw_of (List.mem_of_getElem? (i := 959) (by decide +kernel)) rfl
theorem kX6_169 : LK RX6 169 yX6_isFit := Or.inl w959
theorem w967 : Cond.methodLink RX6 172 yX6_isBehind ∈ gw := gw_of (List.mem_of_getElem? (i := 967) (by decide +kernel)) rfl
theorem kX6_172 : LK RX6 172 yX6_isBehind := Or.inl w967
theorem w971 : Cond.methodLink RX6 175 yX6_keyOf ∈ gw := gw_of (List.mem_of_getElem? (i := 971) (by decide +kernel)) rfl
theorem kX6_175 : LK RX6 175 yX6_keyOf := Or.inl w971
theorem w983 : Cond.methodLink RX6 178 yX6_between ∈ gw := gw_of (List.mem_of_getElem? (i := 983) (by decide +kernel)) rfl
theorem kX6_178 : LK RX6 178 yX6_between := Or.inl w983
theorem w987 : Cond.methodLink RX6 182 yX6_rowOf ∈ gw := gw_of (List.mem_of_getElem? (i := 987) (by decide +kernel)) rfl
theorem kX6_182 : LK RX6 182 yX6_rowOf := Or.inl w987
theorem w979 : Cond.methodLink RX6 185 yX6_countBetween ∈ gw := gw_of (List.mem_of_getElem? (i := 979) (by decide +kernel)) rfl
theorem kX6_185 : LK RX6 185 yX6_countBetween := Or.inl w979
theorem w1003 : Cond.methodLink RX6 189 yX6_drafted ∈ gw := gw_of (List.mem_of_getElem? (i := 1003) (by decide +kernel)) rfl
theorem kX6_189 : LK RX6 189 yX6_drafted := Or.inl w1003
theorem w999 : Cond.methodLink RX6 192 yX6_isDraft ∈ gw := gw_of (List.mem_of_getElem? (i := 999) (by decide +kernel)) rfl
theorem kX6_192 : LK RX6 192 yX6_isDraft := Or.inl w999
theorem w1007 : Cond.methodLink RX6 195 yX6_deep ∈ gw := gw_of (List.mem_of_getElem? (i := 1007) (by decide +kernel)) rfl
theorem kX6_195 : LK RX6 195 yX6_deep := Or.inl w1007
theorem w1015 : Cond.methodLink RX6 198 yX6_isNamed ∈ gw := gw_of (List.mem_of_getElem? (i := 1015) (by decide +kernel)) rfl
theorem kX6_198 : LK RX6 198 yX6_isNamed := Or.inl w1015
theorem w1030 : Cond.methodLink RX6 202 yX6_hasNumber ∈ gw := gw_of (List.mem_of_getElem? (i := 1030) (by decide +kernel)) rfl
theorem kX6_202 : LK RX6 202 yX6_hasNumber := Or.inl w1030
theorem w1023 : Cond.methodLink RX6 205 yX6_isName ∈ gw := gw_of (List.mem_of_getElem? (i := 1023) (by decide +kernel)) rfl
theorem kX6_205 : LK RX6 205 yX6_isName := Or.inl w1023
theorem w1026 : Cond.methodLink RX6 208 yX6_gathers ∈ gw := gw_of (List.mem_of_getElem? (i := 1026) (by decide +kernel)) rfl
theorem kX6_208 : LK RX6 208 yX6_gathers := Or.inl w1026
theorem w995 : Cond.methodLink RX6 211 yX6_makeBox ∈ gw := gw_of (List.mem_of_getElem? (i := 995) (by decide +kernel)) rfl
theorem kX6_211 : LK RX6 211 yX6_makeBox := Or.inl w995
theorem w1019 : Cond.methodLink RX6 215 yX6_makeMail ∈ gw := gw_of (List.mem_of_getElem? (i := 1019) (by decide +kernel)) rfl
theorem kX6_215 : LK RX6 215 yX6_makeMail := Or.inl w1019
theorem w1042 : Cond.methodLink RX6 218 yX6_under ∈ gw := gw_of (List.mem_of_getElem? (i := 1042) (by decide +kernel)) rfl
theorem kX6_218 : LK RX6 218 yX6_under := Or.inl w1042
theorem w1038 : Cond.methodLink RX6 221 yX6_changeBox ∈ gw := gw_of (List.mem_of_getElem? (i := 1038) (by decide +kernel)) rfl
theorem kX6_221 : LK RX6 221 yX6_changeBox := Or.inl w1038
theorem w1046 : Cond.methodLink RX6 224 yX6_changeMail ∈ gw := gw_of (List.mem_of_getElem? (i := 1046) (by decide +kernel)) rfl
theorem kX6_224 : LK RX6 224 yX6_changeMail := Or.inl w1046
theorem w1058 : Cond.methodLink RX6 227 yX6_destroyOne ∈ gw := gw_of (List.mem_of_getElem? (i := 1058) (by decide +kernel)) rfl
theorem kX6_227 : LK RX6 227 yX6_destroyOne := Or.inl w1058
theorem w896 : Cond.methodLink RX6 230 yX6_doGet ∈ gw := gw_of (List.mem_of_getElem? (i := 896) (by decide +kernel)) rfl
theorem kX6_230 : LK RX6 230 yX6_doGet := Or.inl w896
theorem w955 : Cond.methodLink RX6 233 yX6_doQuery ∈ gw := gw_of (List.mem_of_getElem? (i := 955) (by decide +kernel)) rfl
theorem kX6_233 : LK RX6 233 yX6_doQuery := Or.inl w955
theorem w975 : Cond.methodLink RX6 236 yX6_doChanges ∈ gw := gw_of (List.mem_of_getElem? (i := 975) (by decide +kernel)) rfl
theorem kX6_236 : LK RX6 236 yX6_doChanges := Or.inl w975
theorem w991 : Cond.methodLink RX6 239 yX6_doMake ∈ gw := gw_of (List.mem_of_getElem? (i := 991) (by decide +kernel)) rfl
theorem kX6_239 : LK RX6 239 yX6_doMake := Or.inl w991
theorem w1034 : Cond.methodLink RX6 242 yX6_doChange ∈ gw := gw_of (List.mem_of_getElem? (i := 1034) (by decide +kernel)) rfl
theorem kX6_242 : LK RX6 242 yX6_doChange := Or.inl w1034
theorem w1054 : Cond.methodLink RX6 245 yX6_doDestroy ∈ gw := gw_of (List.mem_of_getElem? (i := 1054) (by decide +kernel)) rfl
theorem kX6_245 : LK RX6 245 yX6_doDestroy := Or.inl w1054
theorem w881 : Cond.methodLink RX6 248 yX6_copy ∈ gw := gw_of (List.mem_of_getElem? (i := 881) (by decide +kernel)) rfl
theorem kX6_248 : LK RX6 248 yX6_copy := Or.inl w881
theorem w884 : Cond.methodLink RX6 252 yX6_keepEntries ∈ gw := gw_of (List.mem_of_getElem? (i := 884) (by decide +kernel)) rfl
theorem kX6_252 : LK RX6 252 yX6_keepEntries := Or.inl w884
theorem w888 : Cond.methodLink RX6 255 yX6_clearRows ∈ gw := gw_of (List.mem_of_getElem? (i := 888) (by decide +kernel)) rfl
theorem kX6_255 : LK RX6 255 yX6_clearRows := Or.inl w888
theorem w892 : Cond.methodLink RX6 259 yX6_doCall ∈ gw := gw_of (List.mem_of_getElem? (i := 892) (by decide +kernel)) rfl
theorem kX6_259 : LK RX6 259 yX6_doCall := Or.inl w892
theorem w1062 : Cond.methodLink RX6 262 yX6_settle ∈ gw := gw_of (List.mem_of_getElem? (i := 1062) (by decide +kernel)) rfl
theorem kX6_262 : LK RX6 262 yX6_settle := Or.inl w1062
theorem w1074 : Cond.methodLink RX6 268 yX6_backToEntries ∈ gw := gw_of (List.mem_of_getElem? (i := 1074) (by decide +kernel)) rfl
theorem kX6_268 : LK RX6 268 yX6_backToEntries := Or.inl w1074
theorem w1082 : Cond.methodLink RX6 271 yX6_isCall ∈ gw := gw_of (List.mem_of_getElem? (i := 1082) (by decide +kernel)) rfl
theorem kX6_271 : LK RX6 271 yX6_isCall := Or.inl w1082
theorem w1102 : Cond.methodLink RX6 274 yX6_thereOf ∈ gw := gw_of (List.mem_of_getElem? (i := 1102) (by decide +kernel)) rfl
theorem kX6_274 : LK RX6 274 yX6_thereOf := Or.inl w1102
theorem w963 : Cond.methodLink RX6 277 yX6_isOneFit ∈ gw := gw_of (List.mem_of_getElem? (i := 963) (by decide +kernel)) rfl
theorem kX6_277 : LK RX6 277 yX6_isOneFit := Or.inl w963
theorem w133 : Cond.instanceMethod objectInit ∈ gw := gw_of (List.mem_of_getElem? (i := 133) (by decide +kernel)) rfl
theorem w134 : Cond.code objectInit ⟨#[0xb1]⟩ 1 none ∈ gw := gw_of (List.mem_of_getElem? (i := 134) (by decide +kernel)) rfl
theorem wObj : Cond.instanceMethod objectInit ∈ gw ∧ Cond.code objectInit ⟨#[0xb1]⟩ 1 none ∈ gw := ⟨w133, w134⟩
theorem w362 : Cond.native arraycopyName ∈ gw := gw_of (List.mem_of_getElem? (i := 362) (by decide +kernel)) rfl
theorem w361 : Cond.static arraycopyName ∈ gw := gw_of (List.mem_of_getElem? (i := 361) (by decide +kernel)) rfl
theorem w125 : Cond.initialized "java/lang/System" ∈ gw := gw_of (List.mem_of_getElem? (i := 125) (by decide +kernel)) rfl
theorem wAcp : Cond.native arraycopyName ∈ gw ∧ Cond.static arraycopyName ∈ gw ∧ Cond.initialized "java/lang/System" ∈ gw := ⟨w362, w361, w125⟩
theorem w176 : Cond.arrayClass .int ∈ gw := gw_of (List.mem_of_getElem? (i := 176) (by decide +kernel)) rfl
theorem wArr_int : Cond.arrayClass .int ∈ gw := w176
theorem w833 : Cond.arrayClass .boolean ∈ gw := gw_of (List.mem_of_getElem? (i := 833) (by decide +kernel)) rfl
theorem wArr_boolean : Cond.arrayClass .boolean ∈ gw := w833
theorem w145 : Cond.classLink RX2 9 "[[I" ∈ gw := gw_of (List.mem_of_getElem? (i := 145) (by decide +kernel)) rfl
theorem wCL_X2_9 : Cond.classLink RX2 9 "[[I" ∈ gw := w145
theorem w183 : Cond.classLink RX3 9 "[[I" ∈ gw := gw_of (List.mem_of_getElem? (i := 183) (by decide +kernel)) rfl
theorem wCL_X3_9 : Cond.classLink RX3 9 "[[I" ∈ gw := w183
theorem w281 : Cond.classLink RX4 9 "[[I" ∈ gw := gw_of (List.mem_of_getElem? (i := 281) (by decide +kernel)) rfl
theorem wCL_X4_9 : Cond.classLink RX4 9 "[[I" ∈ gw := w281
theorem w707 : Cond.constant RJ6 265 1431655765 ∈ gw := gw_of (List.mem_of_getElem? (i := 707) (by decide +kernel)) rfl
theorem wCo_265 : Cond.constant RJ6 265 1431655765 ∈ gw := w707
theorem w708 : Cond.constant RJ6 266 858993459 ∈ gw := gw_of (List.mem_of_getElem? (i := 708) (by decide +kernel)) rfl
theorem wCo_266 : Cond.constant RJ6 266 858993459 ∈ gw := w708
theorem w709 : Cond.constant RJ6 267 252645135 ∈ gw := gw_of (List.mem_of_getElem? (i := 709) (by decide +kernel)) rfl
theorem wCo_267 : Cond.constant RJ6 267 252645135 ∈ gw := w709
theorem w405 : Cond.fieldLink RX5 218 "MailCore" "DRAFT_TOP" "[I" ∈ gw := gw_of (List.mem_of_getElem? (i := 405) (by decide +kernel)) rfl
theorem wTop : Cond.fieldLink RX5 218 "MailCore" "DRAFT_TOP" "[I" ∈ gw := w405
