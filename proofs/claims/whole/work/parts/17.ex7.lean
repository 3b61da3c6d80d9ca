def eX6_changeMail (a1 : Int32) (a2 : Int32) (a3 : Int32) (V : Mm) : Option (Int32 × Mm) :=
  (eX6_isMail 1 a1 V).bind fun r1 =>
  if r1 = 0 then
    some ((-1), V)
  else
    if a2 = 0 then
      if ((80 + (10 * a1)) + 7) < 0 ∨ 586 ≤ ((80 + (10 * a1)) + 7).toNatClampNeg then none else
      some (0, (wr V 1 (((80 + (10 * a1)) + 7).toNatClampNeg) a3))
    else
      (eX6_isBox 1 a3 V).bind fun r5 =>
      if r5 = 0 then
        some ((-1), V)
      else
        if a2 = 1 then
          if ((80 + (10 * a1)) + 9) < 0 ∨ 586 ≤ ((80 + (10 * a1)) + 9).toNatClampNeg then none else
          if ((V 1 (((80 + (10 * a1)) + 9).toNatClampNeg)) ||| (1 <<< (a3 &&& 31))) = 0 then
            some ((-3), V)
          else
            if ((80 + (10 * a1)) + 9) < 0 ∨ 586 ≤ ((80 + (10 * a1)) + 9).toNatClampNeg then none else
            some (0, (wr V 1 (((80 + (10 * a1)) + 9).toNatClampNeg) ((V 1 (((80 + (10 * a1)) + 9).toNatClampNeg)) ||| (1 <<< (a3 &&& 31)))))
        else
          if ((80 + (10 * a1)) + 9) < 0 ∨ 586 ≤ ((80 + (10 * a1)) + 9).toNatClampNeg then none else
          if ((V 1 (((80 + (10 * a1)) + 9).toNatClampNeg)) &&& ((1 <<< (a3 &&& 31)) ^^^ (-1))) = 0 then
            some ((-3), V)
          else
            if ((80 + (10 * a1)) + 9) < 0 ∨ 586 ≤ ((80 + (10 * a1)) + 9).toNatClampNeg then none else
            some (0, (wr V 1 (((80 + (10 * a1)) + 9).toNatClampNeg) ((V 1 (((80 + (10 * a1)) + 9).toNatClampNeg)) &&& ((1 <<< (a3 &&& 31)) ^^^ (-1)))))
set_option maxHeartbeats 4000000 in
set_option maxRecDepth 100000 in
theorem E_X6_changeMail {a1 : Int32} {a2 : Int32} {a3 : Int32} {V : Mm} {res : Int32 × Mm}  (h : eX6_changeMail a1 a2 a3 V = some res) : Ev mX6_changeMail [.ref 0, .int a1, .int a2, .int a3] (hM V) (some (.int res.1)) (hM res.2) := by
  refine Ev.of (n := 2) oX6_changeMail.1 (Nat.le_of_ble_eq_true rfl) ?_
  unfold eX6_changeMail at h
  show Go mX6_changeMail 0 [some (.ref 0), some (.int a1), some (.int a2), some (.int a3), none, none] [] (hM V) 0 0 (some (.int res.1)) (hM res.2)
  refine go_aload_n (pc := 0) dX6_changeMail_0 rfl rfl ?_
  refine go_aload_n (pc := 1) dX6_changeMail_1 rfl rfl ?_
  refine go_getP (pc := 2) (a := 1) fX6_7 (by decide) (show TM 0 = (6 + 5, 29) from rfl) rfl dX6_changeMail_2 ?_
  refine go_iload_n (pc := 5) dX6_changeMail_5 rfl rfl ?_
  obtain ⟨r1, e2, h⟩ := ok_bind h
  refine go_cV (pc := 6) (ci := 6) (As := [.ref 1, .int a1]) (st := []) (E_X6_isMail isW_1 e2) rfl oX6_isMail iX6_isMail sX6_isMail kX6_81 rfl (show TM 0 = (6 + 5, 29) from rfl) rfl (Nat.le_of_ble_eq_true rfl) ⟨Nat.le_of_ble_eq_true rfl, Nat.le_of_ble_eq_true rfl⟩ ⟨rfl, rfl⟩ dX6_changeMail_6 (st2 := [.int r1]) rfl ?_
  refine go_if_ne (pc := 9) (tgt := 14) dX6_changeMail_9 rfl (fun c3 => ?_) (fun c3 => ?_)
  · replace h := ifn h c3
    refine go_bipush (pc := 14) (v := 80) dX6_changeMail_14 cb_80 ?_
    refine go_bipush (pc := 16) (v := 10) dX6_changeMail_16 cb_10 ?_
    refine go_iload_n (pc := 18) dX6_changeMail_18 rfl rfl ?_
    refine go_imul (pc := 19) dX6_changeMail_19 ?_
    refine go_iadd (pc := 20) dX6_changeMail_20 ?_
    refine go_istore (pc := 21) (i := 4) dX6_changeMail_21 (Nat.le_of_ble_eq_true rfl) (L2 := [some (.ref 0), some (.int a1), some (.int a2), some (.int a3), some (.int (80 + (10 * a1))), none]) rfl ?_
    refine go_iload_n (pc := 23) dX6_changeMail_23 rfl rfl ?_
    refine go_if_ne (pc := 24) (tgt := 40) dX6_changeMail_24 rfl (fun c4 => ?_) (fun c4 => ?_)
    · replace h := ifn h c4
      refine go_aload_n (pc := 40) dX6_changeMail_40 rfl rfl ?_
      refine go_aload_n (pc := 41) dX6_changeMail_41 rfl rfl ?_
      refine go_getP (pc := 42) (a := 1) fX6_7 (by decide) (show TM 0 = (6 + 5, 29) from rfl) rfl dX6_changeMail_42 ?_
      refine go_iload_n (pc := 45) dX6_changeMail_45 rfl rfl ?_
      obtain ⟨r5, e6, h⟩ := ok_bind h
      refine go_cV (pc := 46) (ci := 6) (As := [.ref 1, .int a3]) (st := []) (E_X6_isBox isW_1 e6) rfl oX6_isBox iX6_isBox sX6_isBox kX6_89 rfl (show TM 0 = (6 + 5, 29) from rfl) rfl (Nat.le_of_ble_eq_true rfl) ⟨Nat.le_of_ble_eq_true rfl, Nat.le_of_ble_eq_true rfl⟩ ⟨rfl, rfl⟩ dX6_changeMail_46 (st2 := [.int r5]) rfl ?_
      refine go_if_ne (pc := 49) (tgt := 54) dX6_changeMail_49 rfl (fun c7 => ?_) (fun c7 => ?_)
      · replace h := ifn h c7
        refine go_iload_n (pc := 54) dX6_changeMail_54 rfl rfl ?_
        refine go_iconst (pc := 55) (v := 1) dX6_changeMail_55 ci_1 ?_
        refine go_icmp_ne (pc := 56) (tgt := 76) dX6_changeMail_56 rfl (fun c8 => ?_) (fun c8 => ?_)
        · replace h := ifn h c8
          refine go_aload_n (pc := 76) dX6_changeMail_76 rfl rfl ?_
          refine go_getP (pc := 77) (a := 1) fX6_7 (by decide) (show TM 0 = (6 + 5, 29) from rfl) rfl dX6_changeMail_77 ?_
          refine go_iload (pc := 80) dX6_changeMail_80 rfl ?_
          refine go_bipush (pc := 82) (v := 9) dX6_changeMail_82 cb_9 ?_
          refine go_iadd (pc := 84) dX6_changeMail_84 ?_
          obtain ⟨c9, h⟩ := ok_not h
          refine go_ia (pc := 85) (v := V 1 (((80 + (10 * a1)) + 9).toNatClampNeg)) (show TM 1 = (0, 586) from rfl) (vin c9) dX6_changeMail_85 rfl ?_
          refine go_iconst (pc := 86) (v := 1) dX6_changeMail_86 ci_1 ?_
          refine go_iload_n (pc := 87) dX6_changeMail_87 rfl rfl ?_
          refine go_ishl (pc := 88) dX6_changeMail_88 ?_
          refine go_iconst (pc := 89) (v := (-1)) dX6_changeMail_89 ci_m1 ?_
          refine go_ixor (pc := 90) dX6_changeMail_90 ?_
          refine go_iand (pc := 91) dX6_changeMail_91 ?_
          refine go_istore (pc := 92) (i := 5) dX6_changeMail_92 (Nat.le_of_ble_eq_true rfl) (L2 := [some (.ref 0), some (.int a1), some (.int a2), some (.int a3), some (.int (80 + (10 * a1))), some (.int ((V 1 (((80 + (10 * a1)) + 9).toNatClampNeg)) &&& ((1 <<< (a3 &&& 31)) ^^^ (-1))))]) rfl ?_
          refine go_iload (pc := 94) dX6_changeMail_94 rfl ?_
          refine go_if_ne (pc := 96) (tgt := 102) dX6_changeMail_96 rfl (fun c10 => ?_) (fun c10 => ?_)
          · replace h := ifn h c10
            refine go_aload_n (pc := 102) dX6_changeMail_102 rfl rfl ?_
            refine go_getP (pc := 103) (a := 1) fX6_7 (by decide) (show TM 0 = (6 + 5, 29) from rfl) rfl dX6_changeMail_103 ?_
            refine go_iload (pc := 106) dX6_changeMail_106 rfl ?_
            refine go_bipush (pc := 108) (v := 9) dX6_changeMail_108 cb_9 ?_
            refine go_iadd (pc := 110) dX6_changeMail_110 ?_
            refine go_iload (pc := 111) dX6_changeMail_111 rfl ?_
            obtain ⟨c11, h⟩ := ok_not h
            refine go_iast (pc := 113) (show TM 1 = (0, 586) from rfl) (vin c11) dX6_changeMail_113 ?_
            refine go_iconst (pc := 114) (v := 0) dX6_changeMail_114 ci_0 ?_
            cases h
            exact go_iret (pc := 115) (Or.inl rfl) ⟨Nat.zero_le _, Nat.zero_le _⟩ dX6_changeMail_115
          · replace h := ifp h c10
            refine go_bipush (pc := 99) (v := (-3)) dX6_changeMail_99 cb_m3 ?_
            cases h
            exact go_iret (pc := 101) (Or.inl rfl) ⟨Nat.zero_le _, Nat.zero_le _⟩ dX6_changeMail_101
        · replace h := ifp h c8
          refine go_aload_n (pc := 59) dX6_changeMail_59 rfl rfl ?_
          refine go_getP (pc := 60) (a := 1) fX6_7 (by decide) (show TM 0 = (6 + 5, 29) from rfl) rfl dX6_changeMail_60 ?_
          refine go_iload (pc := 63) dX6_changeMail_63 rfl ?_
          refine go_bipush (pc := 65) (v := 9) dX6_changeMail_65 cb_9 ?_
          refine go_iadd (pc := 67) dX6_changeMail_67 ?_
          obtain ⟨c12, h⟩ := ok_not h
          refine go_ia (pc := 68) (v := V 1 (((80 + (10 * a1)) + 9).toNatClampNeg)) (show TM 1 = (0, 586) from rfl) (vin c12) dX6_changeMail_68 rfl ?_
          refine go_iconst (pc := 69) (v := 1) dX6_changeMail_69 ci_1 ?_
          refine go_iload_n (pc := 70) dX6_changeMail_70 rfl rfl ?_
          refine go_ishl (pc := 71) dX6_changeMail_71 ?_
          refine go_ior (pc := 72) dX6_changeMail_72 ?_
          refine go_goto (pc := 73) (tgt := 92) dX6_changeMail_73 rfl ?_
          refine go_istore (pc := 92) (i := 5) dX6_changeMail_92 (Nat.le_of_ble_eq_true rfl) (L2 := [some (.ref 0), some (.int a1), some (.int a2), some (.int a3), some (.int (80 + (10 * a1))), some (.int ((V 1 (((80 + (10 * a1)) + 9).toNatClampNeg)) ||| (1 <<< (a3 &&& 31))))]) rfl ?_
          refine go_iload (pc := 94) dX6_changeMail_94 rfl ?_
          refine go_if_ne (pc := 96) (tgt := 102) dX6_changeMail_96 rfl (fun c13 => ?_) (fun c13 => ?_)
          · replace h := ifn h c13
            refine go_aload_n (pc := 102) dX6_changeMail_102 rfl rfl ?_
            refine go_getP (pc := 103) (a := 1) fX6_7 (by decide) (show TM 0 = (6 + 5, 29) from rfl) rfl dX6_changeMail_103 ?_
            refine go_iload (pc := 106) dX6_changeMail_106 rfl ?_
            refine go_bipush (pc := 108) (v := 9) dX6_changeMail_108 cb_9 ?_
            refine go_iadd (pc := 110) dX6_changeMail_110 ?_
            refine go_iload (pc := 111) dX6_changeMail_111 rfl ?_
            obtain ⟨c14, h⟩ := ok_not h
            refine go_iast (pc := 113) (show TM 1 = (0, 586) from rfl) (vin c14) dX6_changeMail_113 ?_
            refine go_iconst (pc := 114) (v := 0) dX6_changeMail_114 ci_0 ?_
            cases h
            exact go_iret (pc := 115) (Or.inl rfl) ⟨Nat.zero_le _, Nat.zero_le _⟩ dX6_changeMail_115
          · replace h := ifp h c13
            refine go_bipush (pc := 99) (v := (-3)) dX6_changeMail_99 cb_m3 ?_
            cases h
            exact go_iret (pc := 101) (Or.inl rfl) ⟨Nat.zero_le _, Nat.zero_le _⟩ dX6_changeMail_101
      · replace h := ifp h c7
        refine go_iconst (pc := 52) (v := (-1)) dX6_changeMail_52 ci_m1 ?_
        cases h
        exact go_iret (pc := 53) (Or.inl rfl) ⟨Nat.zero_le _, Nat.zero_le _⟩ dX6_changeMail_53
    · replace h := ifp h c4
      refine go_aload_n (pc := 27) dX6_changeMail_27 rfl rfl ?_
      refine go_getP (pc := 28) (a := 1) fX6_7 (by decide) (show TM 0 = (6 + 5, 29) from rfl) rfl dX6_changeMail_28 ?_
      refine go_iload (pc := 31) dX6_changeMail_31 rfl ?_
      refine go_bipush (pc := 33) (v := 7) dX6_changeMail_33 cb_7 ?_
      refine go_iadd (pc := 35) dX6_changeMail_35 ?_
      refine go_iload_n (pc := 36) dX6_changeMail_36 rfl rfl ?_
      obtain ⟨c15, h⟩ := ok_not h
      refine go_iast (pc := 37) (show TM 1 = (0, 586) from rfl) (vin c15) dX6_changeMail_37 ?_
      refine go_iconst (pc := 38) (v := 0) dX6_changeMail_38 ci_0 ?_
      cases h
      exact go_iret (pc := 39) (Or.inl rfl) ⟨Nat.zero_le _, Nat.zero_le _⟩ dX6_changeMail_39
  · replace h := ifp h c3
    refine go_iconst (pc := 12) (v := (-1)) dX6_changeMail_12 ci_m1 ?_
    cases h
    exact go_iret (pc := 13) (Or.inl rfl) ⟨Nat.zero_le _, Nat.zero_le _⟩ dX6_changeMail_13
def eX6_doChange_b298 : Nat → Int32 → Int32 → Mm → Option (Int32 × Mm)
  | 0, _, _, _ => none
  | n + 1, l1, l7, V => 
    if (V 0 20) ≤ l7 then
      some (0, V)
    else
      if l7 < 0 ∨ 50 ≤ l7.toNatClampNeg then none else
      (eX6_isOther l1 (V 16 l7.toNatClampNeg) V).bind fun r44 =>
      if r44 = 0 then
        eX6_doChange_b298 n l1 (l7 + 1) V
      else
        if l7 < 0 ∨ 50 ≤ l7.toNatClampNeg then none else
        (eX6_isGiven (V 0 21) 2 (V 16 l7.toNatClampNeg) V).bind fun r48 =>
        if r48 = 0 then
          if l7 < 0 ∨ 50 ≤ l7.toNatClampNeg then none else
          (eX6_give (V 0 21) 2 (V 16 l7.toNatClampNeg) V).bind fun r52 =>
          eX6_doChange_b298 n l1 (l7 + 1) r52
        else
          eX6_doChange_b298 n l1 (l7 + 1) V
set_option maxHeartbeats 4000000 in
set_option maxRecDepth 100000 in
theorem gX6_doChange_b298 : ∀ (n : Nat) (l1 : Int32) (l7 : Int32) (V : Mm) (res : Int32 × Mm) , eX6_doChange_b298 n l1 l7 V = some res → Go mX6_doChange 298 [some (.ref 0), some (.int l1), none, none, none, none, none, some (.int l7), none] [] (hM V) 0 0 (some (.int res.1)) (hM res.2) := by
  intro n
  induction n with
  | zero =>
    intro l1 l7 V res  h
    cases h
  | succ n ih =>
    intro l1 l7 V res  h
    rw [eX6_doChange_b298] at h
    refine go_iload (pc := 298) dX6_doChange_298 rfl ?_
    refine go_aload_n (pc := 300) dX6_doChange_300 rfl rfl ?_
    refine go_gI (pc := 301) (v := V 0 20) fX6_143 (by decide) (show TM 0 = (6 + 5, 29) from rfl) dX6_doChange_301 rfl ?_
    refine go_icmp_ge (pc := 304) (tgt := 363) dX6_doChange_304 rfl (fun c42 => ?_) (fun c42 => ?_)
    · replace h := ifp h c42
      refine go_iconst (pc := 363) (v := 0) dX6_doChange_363 ci_0 ?_
      cases h
      exact go_iret (pc := 364) (Or.inl rfl) ⟨Nat.zero_le _, Nat.zero_le _⟩ dX6_doChange_364
    · replace h := ifn h c42
      refine go_aload_n (pc := 307) dX6_doChange_307 rfl rfl ?_
      refine go_iload_n (pc := 308) dX6_doChange_308 rfl rfl ?_
      refine go_aload_n (pc := 309) dX6_doChange_309 rfl rfl ?_
      refine go_getP (pc := 310) (a := 16) fX6_59 (by decide) (show TM 0 = (6 + 5, 29) from rfl) rfl dX6_doChange_310 ?_
      refine go_iload (pc := 313) dX6_doChange_313 rfl ?_
      obtain ⟨c43, h⟩ := ok_not h
      refine go_ia (pc := 315) (v := V 16 l7.toNatClampNeg) (show TM 16 = (0, 50) from rfl) (vin c43) dX6_doChange_315 rfl ?_
      obtain ⟨r44, e45, h⟩ := ok_bind h
      refine go_cV (pc := 316) (ci := 6) (As := [.int l1, .int (V 16 l7.toNatClampNeg)]) (st := []) (E_X6_isOther e45) rfl oX6_isOther iX6_isOther sX6_isOther kX6_117 rfl (show TM 0 = (6 + 5, 29) from rfl) rfl (Nat.le_of_ble_eq_true rfl) ⟨Nat.le_of_ble_eq_true rfl, Nat.le_of_ble_eq_true rfl⟩ ⟨rfl, rfl⟩ dX6_doChange_316 (st2 := [.int r44]) rfl ?_
      refine go_if_eq (pc := 319) (tgt := 357) dX6_doChange_319 rfl (fun c46 => ?_) (fun c46 => ?_)
      · replace h := ifp h c46
        refine go_iinc (pc := 357) (v := (l7 + 1)) dX6_doChange_357 rfl (by rw [ci_1]) (Nat.le_of_ble_eq_true rfl) (L2 := [some (.ref 0), some (.int l1), none, none, none, none, none, some (.int (l7 + 1)), none]) rfl ?_
        refine go_goto (pc := 360) (tgt := 298) dX6_doChange_360 rfl ?_
        exact ih _ _ _ _  h
      · replace h := ifn h c46
        refine go_aload_n (pc := 322) dX6_doChange_322 rfl rfl ?_
        refine go_aload_n (pc := 323) dX6_doChange_323 rfl rfl ?_
        refine go_gI (pc := 324) (v := V 0 21) fX6_129 (by decide) (show TM 0 = (6 + 5, 29) from rfl) dX6_doChange_324 rfl ?_
        refine go_iconst (pc := 327) (v := 2) dX6_doChange_327 ci_2 ?_
        refine go_aload_n (pc := 328) dX6_doChange_328 rfl rfl ?_
        refine go_getP (pc := 329) (a := 16) fX6_59 (by decide) (show TM 0 = (6 + 5, 29) from rfl) rfl dX6_doChange_329 ?_
        refine go_iload (pc := 332) dX6_doChange_332 rfl ?_
        obtain ⟨c47, h⟩ := ok_not h
        refine go_ia (pc := 334) (v := V 16 l7.toNatClampNeg) (show TM 16 = (0, 50) from rfl) (vin c47) dX6_doChange_334 rfl ?_
        obtain ⟨r48, e49, h⟩ := ok_bind h
        refine go_cV (pc := 335) (ci := 6) (As := [.int (V 0 21), .int 2, .int (V 16 l7.toNatClampNeg)]) (st := []) (E_X6_isGiven e49) rfl oX6_isGiven iX6_isGiven sX6_isGiven kX6_159 rfl (show TM 0 = (6 + 5, 29) from rfl) rfl (Nat.le_of_ble_eq_true rfl) ⟨Nat.le_of_ble_eq_true rfl, Nat.le_of_ble_eq_true rfl⟩ ⟨rfl, rfl⟩ dX6_doChange_335 (st2 := [.int r48]) rfl ?_
        refine go_if_ne (pc := 338) (tgt := 357) dX6_doChange_338 rfl (fun c50 => ?_) (fun c50 => ?_)
        · replace h := ifn h c50
          refine go_iinc (pc := 357) (v := (l7 + 1)) dX6_doChange_357 rfl (by rw [ci_1]) (Nat.le_of_ble_eq_true rfl) (L2 := [some (.ref 0), some (.int l1), none, none, none, none, none, some (.int (l7 + 1)), none]) rfl ?_
          refine go_goto (pc := 360) (tgt := 298) dX6_doChange_360 rfl ?_
          exact ih _ _ _ _  h
        · replace h := ifp h c50
          refine go_aload_n (pc := 341) dX6_doChange_341 rfl rfl ?_
          refine go_aload_n (pc := 342) dX6_doChange_342 rfl rfl ?_
          refine go_gI (pc := 343) (v := V 0 21) fX6_129 (by decide) (show TM 0 = (6 + 5, 29) from rfl) dX6_doChange_343 rfl ?_
          refine go_iconst (pc := 346) (v := 2) dX6_doChange_346 ci_2 ?_
          refine go_aload_n (pc := 347) dX6_doChange_347 rfl rfl ?_
          refine go_getP (pc := 348) (a := 16) fX6_59 (by decide) (show TM 0 = (6 + 5, 29) from rfl) rfl dX6_doChange_348 ?_
          refine go_iload (pc := 351) dX6_doChange_351 rfl ?_
          obtain ⟨c51, h⟩ := ok_not h
          refine go_ia (pc := 353) (v := V 16 l7.toNatClampNeg) (show TM 16 = (0, 50) from rfl) (vin c51) dX6_doChange_353 rfl ?_
          obtain ⟨r52, e53, h⟩ := ok_bind h
          refine go_cV (pc := 354) (ci := 6) (As := [.int (V 0 21), .int 2, .int (V 16 l7.toNatClampNeg)]) (st := []) (E_X6_give e53) rfl oX6_give iX6_give sX6_give kX6_162 rfl (show TM 0 = (6 + 5, 29) from rfl) rfl (Nat.le_of_ble_eq_true rfl) ⟨Nat.le_of_ble_eq_true rfl, Nat.le_of_ble_eq_true rfl⟩ ⟨rfl, rfl⟩ dX6_doChange_354 (st2 := []) rfl ?_
          refine go_iinc (pc := 357) (v := (l7 + 1)) dX6_doChange_357 rfl (by rw [ci_1]) (Nat.le_of_ble_eq_true rfl) (L2 := [some (.ref 0), some (.int l1), none, none, none, none, none, some (.int (l7 + 1)), none]) rfl ?_
          refine go_goto (pc := 360) (tgt := 298) dX6_doChange_360 rfl ?_
          exact ih _ _ _ _  h
def eX6_doChange_b235 : Nat → Int32 → Int32 → Int32 → Int32 → Mm → Option (Int32 × Mm)
  | 0, _, _, _, _, _ => none
  | n + 1, l1, l2, l6, l7, V => 
    if (V 0 20) ≤ l7 then
      eX6_doChange_b298 fu l1 0 V
    else
      if l1 = 0 then
        if l7 < 0 ∨ 50 ≤ l7.toNatClampNeg then none else
        (eX6_changeBox (V 16 l7.toNatClampNeg) l2 l6 V).bind fun r60 =>
        if r60.1 = 0 then
          eX6_doChange_b235 n l1 l2 l6 (l7 + 1) r60.2
        else
          some (r60.1, r60.2)
      else
        if l7 < 0 ∨ 50 ≤ l7.toNatClampNeg then none else
        (eX6_changeMail (V 16 l7.toNatClampNeg) l2 l6 V).bind fun r56 =>
        if r56.1 = 0 then
          eX6_doChange_b235 n l1 l2 l6 (l7 + 1) r56.2
        else
          some (r56.1, r56.2)
set_option maxHeartbeats 4000000 in
set_option maxRecDepth 100000 in
theorem gX6_doChange_b235 : ∀ (n : Nat) (l1 : Int32) (l2 : Int32) (l6 : Int32) (l7 : Int32) (V : Mm) (res : Int32 × Mm) , eX6_doChange_b235 n l1 l2 l6 l7 V = some res → Go mX6_doChange 235 [some (.ref 0), some (.int l1), some (.int l2), none, none, none, some (.int l6), some (.int l7), none] [] (hM V) 0 0 (some (.int res.1)) (hM res.2) := by
  intro n
  induction n with
  | zero =>
    intro l1 l2 l6 l7 V res  h
    cases h
  | succ n ih =>
    intro l1 l2 l6 l7 V res  h
    rw [eX6_doChange_b235] at h
    refine go_iload (pc := 235) dX6_doChange_235 rfl ?_
    refine go_aload_n (pc := 237) dX6_doChange_237 rfl rfl ?_
    refine go_gI (pc := 238) (v := V 0 20) fX6_143 (by decide) (show TM 0 = (6 + 5, 29) from rfl) dX6_doChange_238 rfl ?_
    refine go_icmp_ge (pc := 241) (tgt := 295) dX6_doChange_241 rfl (fun c41 => ?_) (fun c41 => ?_)
    · replace h := ifp h c41
      refine go_iconst (pc := 295) (v := 0) dX6_doChange_295 ci_0 ?_
      refine go_istore (pc := 296) (i := 7) dX6_doChange_296 (Nat.le_of_ble_eq_true rfl) (L2 := [some (.ref 0), some (.int l1), some (.int l2), none, none, none, some (.int l6), some (.int 0), none]) rfl ?_
      refine go_le (lle_s (lle_s (lle_n (lle_n (lle_n (lle_n (lle_n (lle_s (lle_n lle_0))))))))) ?_
      exact gX6_doChange_b298 _ _ _ _ _  h
    · replace h := ifn h c41
      refine go_iload_n (pc := 244) dX6_doChange_244 rfl rfl ?_
      refine go_if_ne (pc := 245) (tgt := 265) dX6_doChange_245 rfl (fun c54 => ?_) (fun c54 => ?_)
      · replace h := ifn h c54
        refine go_aload_n (pc := 265) dX6_doChange_265 rfl rfl ?_
        refine go_aload_n (pc := 266) dX6_doChange_266 rfl rfl ?_
        refine go_getP (pc := 267) (a := 16) fX6_59 (by decide) (show TM 0 = (6 + 5, 29) from rfl) rfl dX6_doChange_267 ?_
        refine go_iload (pc := 270) dX6_doChange_270 rfl ?_
        obtain ⟨c55, h⟩ := ok_not h
        refine go_ia (pc := 272) (v := V 16 l7.toNatClampNeg) (show TM 16 = (0, 50) from rfl) (vin c55) dX6_doChange_272 rfl ?_
        refine go_iload_n (pc := 273) dX6_doChange_273 rfl rfl ?_
        refine go_iload (pc := 274) dX6_doChange_274 rfl ?_
        obtain ⟨r56, e57, h⟩ := ok_bind h
        refine go_cV (pc := 276) (ci := 6) (As := [.int (V 16 l7.toNatClampNeg), .int l2, .int l6]) (st := []) (E_X6_changeMail e57) rfl oX6_changeMail iX6_changeMail sX6_changeMail kX6_224 rfl (show TM 0 = (6 + 5, 29) from rfl) rfl (Nat.le_of_ble_eq_true rfl) ⟨Nat.le_of_ble_eq_true rfl, Nat.le_of_ble_eq_true rfl⟩ ⟨rfl, rfl⟩ dX6_doChange_276 (st2 := [.int r56.1]) rfl ?_
        refine go_istore (pc := 279) (i := 8) dX6_doChange_279 (Nat.le_of_ble_eq_true rfl) (L2 := [some (.ref 0), some (.int l1), some (.int l2), none, none, none, some (.int l6), some (.int l7), some (.int r56.1)]) rfl ?_
        refine go_iload (pc := 281) dX6_doChange_281 rfl ?_
        refine go_if_eq (pc := 283) (tgt := 289) dX6_doChange_283 rfl (fun c58 => ?_) (fun c58 => ?_)
        · replace h := ifp h c58
          refine go_iinc (pc := 289) (v := (l7 + 1)) dX6_doChange_289 rfl (by rw [ci_1]) (Nat.le_of_ble_eq_true rfl) (L2 := [some (.ref 0), some (.int l1), some (.int l2), none, none, none, some (.int l6), some (.int (l7 + 1)), some (.int r56.1)]) rfl ?_
          refine go_goto (pc := 292) (tgt := 235) dX6_doChange_292 rfl ?_
          refine go_le (lle_s (lle_s (lle_s (lle_n (lle_n (lle_n (lle_s (lle_s (lle_n lle_0))))))))) ?_
          exact ih _ _ _ _ _ _  h
        · replace h := ifn h c58
          refine go_iload (pc := 286) dX6_doChange_286 rfl ?_
          cases h
          exact go_iret (pc := 288) (Or.inl rfl) ⟨Nat.zero_le _, Nat.zero_le _⟩ dX6_doChange_288
      · replace h := ifp h c54
        refine go_aload_n (pc := 248) dX6_doChange_248 rfl rfl ?_
        refine go_aload_n (pc := 249) dX6_doChange_249 rfl rfl ?_
        refine go_getP (pc := 250) (a := 16) fX6_59 (by decide) (show TM 0 = (6 + 5, 29) from rfl) rfl dX6_doChange_250 ?_
        refine go_iload (pc := 253) dX6_doChange_253 rfl ?_
        obtain ⟨c59, h⟩ := ok_not h
        refine go_ia (pc := 255) (v := V 16 l7.toNatClampNeg) (show TM 16 = (0, 50) from rfl) (vin c59) dX6_doChange_255 rfl ?_
        refine go_iload_n (pc := 256) dX6_doChange_256 rfl rfl ?_
        refine go_iload (pc := 257) dX6_doChange_257 rfl ?_
        obtain ⟨r60, e61, h⟩ := ok_bind h
        refine go_cV (pc := 259) (ci := 6) (As := [.int (V 16 l7.toNatClampNeg), .int l2, .int l6]) (st := []) (E_X6_changeBox e61) rfl oX6_changeBox iX6_changeBox sX6_changeBox kX6_221 rfl (show TM 0 = (6 + 5, 29) from rfl) rfl (Nat.le_of_ble_eq_true rfl) ⟨Nat.le_of_ble_eq_true rfl, Nat.le_of_ble_eq_true rfl⟩ ⟨rfl, rfl⟩ dX6_doChange_259 (st2 := [.int r60.1]) rfl ?_
        refine go_goto (pc := 262) (tgt := 279) dX6_doChange_262 rfl ?_
        refine go_istore (pc := 279) (i := 8) dX6_doChange_279 (Nat.le_of_ble_eq_true rfl) (L2 := [some (.ref 0), some (.int l1), some (.int l2), none, none, none, some (.int l6), some (.int l7), some (.int r60.1)]) rfl ?_
        refine go_iload (pc := 281) dX6_doChange_281 rfl ?_
        refine go_if_eq (pc := 283) (tgt := 289) dX6_doChange_283 rfl (fun c62 => ?_) (fun c62 => ?_)
        · replace h := ifp h c62
          refine go_iinc (pc := 289) (v := (l7 + 1)) dX6_doChange_289 rfl (by rw [ci_1]) (Nat.le_of_ble_eq_true rfl) (L2 := [some (.ref 0), some (.int l1), some (.int l2), none, none, none, some (.int l6), some (.int (l7 + 1)), some (.int r60.1)]) rfl ?_
          refine go_goto (pc := 292) (tgt := 235) dX6_doChange_292 rfl ?_
          refine go_le (lle_s (lle_s (lle_s (lle_n (lle_n (lle_n (lle_s (lle_s (lle_n lle_0))))))))) ?_
          exact ih _ _ _ _ _ _  h
        · replace h := ifn h c62
          refine go_iload (pc := 286) dX6_doChange_286 rfl ?_
          cases h
          exact go_iret (pc := 288) (Or.inl rfl) ⟨Nat.zero_le _, Nat.zero_le _⟩ dX6_doChange_288
def eX6_doChange_b188 (l1 : Int32) (l2 : Int32) (l3 : Int32) (l4 : Int32) (V : Mm) : Option (Int32 × Mm) :=
  (eX6_number 1 V).bind fun r33 =>
  (eX6_number 2 V).bind fun r35 =>
  (eX6_takeIds r33 r35 V).bind fun r37 =>
  if l4 = 0 then
    if l1 = 0 then
      if l2 = 1 then
        eX6_doChange_b235 fu l1 l2 (-9) 0 r37
      else
        eX6_doChange_b235 fu l1 l2 l3 0 r37
    else
      eX6_doChange_b235 fu l1 l2 l3 0 r37
  else
    (eX6_oneOf l3 r37).bind fun r64 =>
    eX6_doChange_b235 fu l1 l2 r64 0 r37
set_option maxHeartbeats 4000000 in
set_option maxRecDepth 100000 in
theorem gX6_doChange_b188 {l1 : Int32} {l2 : Int32} {l3 : Int32} {l4 : Int32} {V : Mm} {res : Int32 × Mm}  (h : eX6_doChange_b188 l1 l2 l3 l4 V = some res) : Go mX6_doChange 188 [some (.ref 0), some (.int l1), some (.int l2), some (.int l3), some (.int l4), none, none, none, none] [] (hM V) 0 0 (some (.int res.1)) (hM res.2) := by
  unfold eX6_doChange_b188 at h
  refine go_aload_n (pc := 188) dX6_doChange_188 rfl rfl ?_
  refine go_aload_n (pc := 189) dX6_doChange_189 rfl rfl ?_
  refine go_iconst (pc := 190) (v := 1) dX6_doChange_190 ci_1 ?_
  obtain ⟨r33, e34, h⟩ := ok_bind h
  refine go_cV (pc := 191) (ci := 6) (As := [.int 1]) (st := [.ref 0]) (E_X6_number e34) rfl oX6_number iX6_number sX6_number kX6_146 rfl (show TM 0 = (6 + 5, 29) from rfl) rfl (Nat.le_of_ble_eq_true rfl) ⟨Nat.le_of_ble_eq_true rfl, Nat.le_of_ble_eq_true rfl⟩ ⟨rfl, rfl⟩ dX6_doChange_191 (st2 := [.int r33, .ref 0]) rfl ?_
  refine go_aload_n (pc := 194) dX6_doChange_194 rfl rfl ?_
  refine go_iconst (pc := 195) (v := 2) dX6_doChange_195 ci_2 ?_
  obtain ⟨r35, e36, h⟩ := ok_bind h
  refine go_cV (pc := 196) (ci := 6) (As := [.int 2]) (st := [.int r33, .ref 0]) (E_X6_number e36) rfl oX6_number iX6_number sX6_number kX6_146 rfl (show TM 0 = (6 + 5, 29) from rfl) rfl (Nat.le_of_ble_eq_true rfl) ⟨Nat.le_of_ble_eq_true rfl, Nat.le_of_ble_eq_true rfl⟩ ⟨rfl, rfl⟩ dX6_doChange_196 (st2 := [.int r35, .int r33, .ref 0]) rfl ?_
  obtain ⟨r37, e38, h⟩ := ok_bind h
  refine go_cV (pc := 199) (ci := 6) (As := [.int r33, .int r35]) (st := []) (E_X6_takeIds e38) rfl oX6_takeIds iX6_takeIds sX6_takeIds kX6_155 rfl (show TM 0 = (6 + 5, 29) from rfl) rfl (Nat.le_of_ble_eq_true rfl) ⟨Nat.le_of_ble_eq_true rfl, Nat.le_of_ble_eq_true rfl⟩ ⟨rfl, rfl⟩ dX6_doChange_199 (st2 := []) rfl ?_
  refine go_iload (pc := 202) dX6_doChange_202 rfl ?_
  refine go_if_eq (pc := 204) (tgt := 215) dX6_doChange_204 rfl (fun c39 => ?_) (fun c39 => ?_)
  · replace h := ifp h c39
    refine go_iload_n (pc := 215) dX6_doChange_215 rfl rfl ?_
    refine go_if_ne (pc := 216) (tgt := 229) dX6_doChange_216 rfl (fun c40 => ?_) (fun c40 => ?_)
    · replace h := ifn h c40
      refine go_iload_n (pc := 229) dX6_doChange_229 rfl rfl ?_
      refine go_istore (pc := 230) (i := 6) dX6_doChange_230 (Nat.le_of_ble_eq_true rfl) (L2 := [some (.ref 0), some (.int l1), some (.int l2), some (.int l3), some (.int l4), none, some (.int l3), none, none]) rfl ?_
      refine go_iconst (pc := 232) (v := 0) dX6_doChange_232 ci_0 ?_
      refine go_istore (pc := 233) (i := 7) dX6_doChange_233 (Nat.le_of_ble_eq_true rfl) (L2 := [some (.ref 0), some (.int l1), some (.int l2), some (.int l3), some (.int l4), none, some (.int l3), some (.int 0), none]) rfl ?_
      refine go_le (lle_s (lle_s (lle_s (lle_n (lle_n (lle_n (lle_s (lle_s (lle_n lle_0))))))))) ?_
      exact gX6_doChange_b235 _ _ _ _ _ _ _  h
    · replace h := ifp h c40
      refine go_iload_n (pc := 219) dX6_doChange_219 rfl rfl ?_
      refine go_iconst (pc := 220) (v := 1) dX6_doChange_220 ci_1 ?_
      refine go_icmp_ne (pc := 221) (tgt := 229) dX6_doChange_221 rfl (fun c63 => ?_) (fun c63 => ?_)
      · replace h := ifn h c63
        refine go_iload_n (pc := 229) dX6_doChange_229 rfl rfl ?_
        refine go_istore (pc := 230) (i := 6) dX6_doChange_230 (Nat.le_of_ble_eq_true rfl) (L2 := [some (.ref 0), some (.int l1), some (.int l2), some (.int l3), some (.int l4), none, some (.int l3), none, none]) rfl ?_
        refine go_iconst (pc := 232) (v := 0) dX6_doChange_232 ci_0 ?_
        refine go_istore (pc := 233) (i := 7) dX6_doChange_233 (Nat.le_of_ble_eq_true rfl) (L2 := [some (.ref 0), some (.int l1), some (.int l2), some (.int l3), some (.int l4), none, some (.int l3), some (.int 0), none]) rfl ?_
        refine go_le (lle_s (lle_s (lle_s (lle_n (lle_n (lle_n (lle_s (lle_s (lle_n lle_0))))))))) ?_
        exact gX6_doChange_b235 _ _ _ _ _ _ _  h
      · replace h := ifp h c63
        refine go_bipush (pc := 224) (v := (-9)) dX6_doChange_224 cb_m9 ?_
        refine go_goto (pc := 226) (tgt := 230) dX6_doChange_226 rfl ?_
        refine go_istore (pc := 230) (i := 6) dX6_doChange_230 (Nat.le_of_ble_eq_true rfl) (L2 := [some (.ref 0), some (.int l1), some (.int l2), some (.int l3), some (.int l4), none, some (.int (-9)), none, none]) rfl ?_
        refine go_iconst (pc := 232) (v := 0) dX6_doChange_232 ci_0 ?_
        refine go_istore (pc := 233) (i := 7) dX6_doChange_233 (Nat.le_of_ble_eq_true rfl) (L2 := [some (.ref 0), some (.int l1), some (.int l2), some (.int l3), some (.int l4), none, some (.int (-9)), some (.int 0), none]) rfl ?_
        refine go_le (lle_s (lle_s (lle_s (lle_n (lle_n (lle_n (lle_s (lle_s (lle_n lle_0))))))))) ?_
        exact gX6_doChange_b235 _ _ _ _ _ _ _  h
  · replace h := ifn h c39
    refine go_aload_n (pc := 207) dX6_doChange_207 rfl rfl ?_
    refine go_iload_n (pc := 208) dX6_doChange_208 rfl rfl ?_
    obtain ⟨r64, e65, h⟩ := ok_bind h
    refine go_cV (pc := 209) (ci := 6) (As := [.int l3]) (st := []) (E_X6_oneOf e65) rfl oX6_oneOf iX6_oneOf sX6_oneOf kX6_139 rfl (show TM 0 = (6 + 5, 29) from rfl) rfl (Nat.le_of_ble_eq_true rfl) ⟨Nat.le_of_ble_eq_true rfl, Nat.le_of_ble_eq_true rfl⟩ ⟨rfl, rfl⟩ dX6_doChange_209 (st2 := [.int r64]) rfl ?_
    refine go_goto (pc := 212) (tgt := 230) dX6_doChange_212 rfl ?_
    refine go_istore (pc := 230) (i := 6) dX6_doChange_230 (Nat.le_of_ble_eq_true rfl) (L2 := [some (.ref 0), some (.int l1), some (.int l2), some (.int l3), some (.int l4), none, some (.int r64), none, none]) rfl ?_
    refine go_iconst (pc := 232) (v := 0) dX6_doChange_232 ci_0 ?_
    refine go_istore (pc := 233) (i := 7) dX6_doChange_233 (Nat.le_of_ble_eq_true rfl) (L2 := [some (.ref 0), some (.int l1), some (.int l2), some (.int l3), some (.int l4), none, some (.int r64), some (.int 0), none]) rfl ?_
    refine go_le (lle_s (lle_s (lle_s (lle_n (lle_n (lle_n (lle_s (lle_s (lle_n lle_0))))))))) ?_
    exact gX6_doChange_b235 _ _ _ _ _ _ _  h
def eX6_doChange_b145 (l1 : Int32) (l2 : Int32) (l3 : Int32) (l4 : Int32) (s0 : Int32) (V : Mm) : Option (Int32 × Mm) :=
  if s0 = 0 then
    some ((-2), V)
  else
    (eX6_number 1 V).bind fun r25 =>
    (eX6_number 2 V).bind fun r27 =>
    (eX6_areIds r25 r27 V).bind fun r29 =>
    if r29 = 0 then
      some ((-5), V)
    else
      if l4 = 0 then
        eX6_doChange_b188 l1 l2 l3 l4 V
      else
        (eX6_isOne l3 V).bind fun r66 =>
        if r66 = 0 then
          some ((-5), V)
        else
          eX6_doChange_b188 l1 l2 l3 l4 V
set_option maxHeartbeats 4000000 in
set_option maxRecDepth 100000 in
theorem gX6_doChange_b145 {l1 : Int32} {l2 : Int32} {l3 : Int32} {l4 : Int32} {s0 : Int32} {V : Mm} {res : Int32 × Mm}  (h : eX6_doChange_b145 l1 l2 l3 l4 s0 V = some res) : Go mX6_doChange 145 [some (.ref 0), some (.int l1), some (.int l2), some (.int l3), some (.int l4), none, none, none, none] [.int s0] (hM V) 0 0 (some (.int res.1)) (hM res.2) := by
  unfold eX6_doChange_b145 at h
  refine go_istore (pc := 145) (i := 5) dX6_doChange_145 (Nat.le_of_ble_eq_true rfl) (L2 := [some (.ref 0), some (.int l1), some (.int l2), some (.int l3), some (.int l4), some (.int s0), none, none, none]) rfl ?_
  refine go_iload (pc := 147) dX6_doChange_147 rfl ?_
  refine go_if_ne (pc := 149) (tgt := 155) dX6_doChange_149 rfl (fun c24 => ?_) (fun c24 => ?_)
  · replace h := ifn h c24
    refine go_aload_n (pc := 155) dX6_doChange_155 rfl rfl ?_
    refine go_aload_n (pc := 156) dX6_doChange_156 rfl rfl ?_
    refine go_iconst (pc := 157) (v := 1) dX6_doChange_157 ci_1 ?_
    obtain ⟨r25, e26, h⟩ := ok_bind h
    refine go_cV (pc := 158) (ci := 6) (As := [.int 1]) (st := [.ref 0]) (E_X6_number e26) rfl oX6_number iX6_number sX6_number kX6_146 rfl (show TM 0 = (6 + 5, 29) from rfl) rfl (Nat.le_of_ble_eq_true rfl) ⟨Nat.le_of_ble_eq_true rfl, Nat.le_of_ble_eq_true rfl⟩ ⟨rfl, rfl⟩ dX6_doChange_158 (st2 := [.int r25, .ref 0]) rfl ?_
    refine go_aload_n (pc := 161) dX6_doChange_161 rfl rfl ?_
    refine go_iconst (pc := 162) (v := 2) dX6_doChange_162 ci_2 ?_
    obtain ⟨r27, e28, h⟩ := ok_bind h
    refine go_cV (pc := 163) (ci := 6) (As := [.int 2]) (st := [.int r25, .ref 0]) (E_X6_number e28) rfl oX6_number iX6_number sX6_number kX6_146 rfl (show TM 0 = (6 + 5, 29) from rfl) rfl (Nat.le_of_ble_eq_true rfl) ⟨Nat.le_of_ble_eq_true rfl, Nat.le_of_ble_eq_true rfl⟩ ⟨rfl, rfl⟩ dX6_doChange_163 (st2 := [.int r27, .int r25, .ref 0]) rfl ?_
    obtain ⟨r29, e30, h⟩ := ok_bind h
    refine go_cV (pc := 166) (ci := 6) (As := [.int r25, .int r27]) (st := []) (E_X6_areIds e30) rfl oX6_areIds iX6_areIds sX6_areIds kX6_152 rfl (show TM 0 = (6 + 5, 29) from rfl) rfl (Nat.le_of_ble_eq_true rfl) ⟨Nat.le_of_ble_eq_true rfl, Nat.le_of_ble_eq_true rfl⟩ ⟨rfl, rfl⟩ dX6_doChange_166 (st2 := [.int r29]) rfl ?_
    refine go_if_eq (pc := 169) (tgt := 185) dX6_doChange_169 rfl (fun c31 => ?_) (fun c31 => ?_)
    · replace h := ifp h c31
      refine go_bipush (pc := 185) (v := (-5)) dX6_doChange_185 cb_m5 ?_
      cases h
      exact go_iret (pc := 187) (Or.inl rfl) ⟨Nat.zero_le _, Nat.zero_le _⟩ dX6_doChange_187
    · replace h := ifn h c31
      refine go_iload (pc := 172) dX6_doChange_172 rfl ?_
      refine go_if_eq (pc := 174) (tgt := 188) dX6_doChange_174 rfl (fun c32 => ?_) (fun c32 => ?_)
      · replace h := ifp h c32
        refine go_le (lle_s (lle_s (lle_s (lle_s (lle_s (lle_n (lle_n (lle_n (lle_n lle_0))))))))) ?_
        exact gX6_doChange_b188  h
      · replace h := ifn h c32
        refine go_aload_n (pc := 177) dX6_doChange_177 rfl rfl ?_
        refine go_iload_n (pc := 178) dX6_doChange_178 rfl rfl ?_
        obtain ⟨r66, e67, h⟩ := ok_bind h
        refine go_cV (pc := 179) (ci := 6) (As := [.int l3]) (st := []) (E_X6_isOne e67) rfl oX6_isOne iX6_isOne sX6_isOne kX6_136 rfl (show TM 0 = (6 + 5, 29) from rfl) rfl (Nat.le_of_ble_eq_true rfl) ⟨Nat.le_of_ble_eq_true rfl, Nat.le_of_ble_eq_true rfl⟩ ⟨rfl, rfl⟩ dX6_doChange_179 (st2 := [.int r66]) rfl ?_
        refine go_if_ne (pc := 182) (tgt := 188) dX6_doChange_182 rfl (fun c68 => ?_) (fun c68 => ?_)
        · replace h := ifn h c68
          refine go_le (lle_s (lle_s (lle_s (lle_s (lle_s (lle_n (lle_n (lle_n (lle_n lle_0))))))))) ?_
          exact gX6_doChange_b188  h
        · replace h := ifp h c68
          refine go_bipush (pc := 185) (v := (-5)) dX6_doChange_185 cb_m5 ?_
          cases h
          exact go_iret (pc := 187) (Or.inl rfl) ⟨Nat.zero_le _, Nat.zero_le _⟩ dX6_doChange_187
  · replace h := ifp h c24
    refine go_bipush (pc := 152) (v := (-2)) dX6_doChange_152 cb_m2 ?_
    cases h
    exact go_iret (pc := 154) (Or.inl rfl) ⟨Nat.zero_le _, Nat.zero_le _⟩ dX6_doChange_154
def eX6_doChange_b88 (l1 : Int32) (l2 : Int32) (l3 : Int32) (s0 : Int32) (V : Mm) : Option (Int32 × Mm) :=
  if l1 = 0 then
    if l2 = 1 then
      eX6_doChange_b145 l1 l2 l3 s0 1 V
    else
      if l2 = 0 then
        (eX6_within l3 0 99 V).bind fun r77 =>
        if r77 = 0 then
          eX6_doChange_b145 l1 l2 l3 s0 0 V
        else
          eX6_doChange_b145 l1 l2 l3 s0 1 V
      else
        (eX6_within l3 0 9 V).bind fun r74 =>
        if r74 = 0 then
          eX6_doChange_b145 l1 l2 l3 s0 0 V
        else
          eX6_doChange_b145 l1 l2 l3 s0 1 V
  else
    if 0 < l2 then
      eX6_doChange_b145 l1 l2 l3 s0 1 V
    else
      (eX6_within l3 0 15 V).bind fun r69 =>
      if r69 = 0 then
        eX6_doChange_b145 l1 l2 l3 s0 0 V
      else
        eX6_doChange_b145 l1 l2 l3 s0 1 V
set_option maxHeartbeats 4000000 in
set_option maxRecDepth 100000 in
theorem gX6_doChange_b88 {l1 : Int32} {l2 : Int32} {l3 : Int32} {s0 : Int32} {V : Mm} {res : Int32 × Mm}  (h : eX6_doChange_b88 l1 l2 l3 s0 V = some res) : Go mX6_doChange 88 [some (.ref 0), some (.int l1), some (.int l2), some (.int l3), none, none, none, none, none] [.int s0] (hM V) 0 0 (some (.int res.1)) (hM res.2) := by
  unfold eX6_doChange_b88 at h
  refine go_istore (pc := 88) (i := 4) dX6_doChange_88 (Nat.le_of_ble_eq_true rfl) (L2 := [some (.ref 0), some (.int l1), some (.int l2), some (.int l3), some (.int s0), none, none, none, none]) rfl ?_
  refine go_iload_n (pc := 90) dX6_doChange_90 rfl rfl ?_
  refine go_if_ne (pc := 91) (tgt := 126) dX6_doChange_91 rfl (fun c22 => ?_) (fun c22 => ?_)
  · replace h := ifn h c22
    refine go_iload_n (pc := 126) dX6_doChange_126 rfl rfl ?_
    refine go_if_gt (pc := 127) (tgt := 140) dX6_doChange_127 rfl (fun c23 => ?_) (fun c23 => ?_)
    · replace h := ifp h c23
      refine go_iconst (pc := 140) (v := 1) dX6_doChange_140 ci_1 ?_
      refine go_goto (pc := 141) (tgt := 145) dX6_doChange_141 rfl ?_
      exact gX6_doChange_b145  h
    · replace h := ifn h c23
      refine go_iload_n (pc := 130) dX6_doChange_130 rfl rfl ?_
      refine go_iconst (pc := 131) (v := 0) dX6_doChange_131 ci_0 ?_
      refine go_bipush (pc := 132) (v := 15) dX6_doChange_132 cb_15 ?_
      obtain ⟨r69, e70, h⟩ := ok_bind h
      refine go_cS (pc := 134) (As := [.int l3, .int 0, .int 15]) (st := []) (E_X6_within e70) rfl oX6_within iX6_within kX6_99 rfl (Nat.le_of_ble_eq_true rfl) ⟨Nat.le_of_ble_eq_true rfl, Nat.le_of_ble_eq_true rfl⟩ ⟨rfl, rfl⟩ dX6_doChange_134 (st2 := [.int r69]) rfl ?_
      refine go_if_eq (pc := 137) (tgt := 144) dX6_doChange_137 rfl (fun c71 => ?_) (fun c71 => ?_)
      · replace h := ifp h c71
        refine go_iconst (pc := 144) (v := 0) dX6_doChange_144 ci_0 ?_
        exact gX6_doChange_b145  h
      · replace h := ifn h c71
        refine go_iconst (pc := 140) (v := 1) dX6_doChange_140 ci_1 ?_
        refine go_goto (pc := 141) (tgt := 145) dX6_doChange_141 rfl ?_
        exact gX6_doChange_b145  h
  · replace h := ifp h c22
    refine go_iload_n (pc := 94) dX6_doChange_94 rfl rfl ?_
    refine go_iconst (pc := 95) (v := 1) dX6_doChange_95 ci_1 ?_
    refine go_icmp_eq (pc := 96) (tgt := 118) dX6_doChange_96 rfl (fun c72 => ?_) (fun c72 => ?_)
    · replace h := ifp h c72
      refine go_iconst (pc := 118) (v := 1) dX6_doChange_118 ci_1 ?_
      refine go_goto (pc := 119) (tgt := 145) dX6_doChange_119 rfl ?_
      exact gX6_doChange_b145  h
    · replace h := ifn h c72
      refine go_iload_n (pc := 99) dX6_doChange_99 rfl rfl ?_
      refine go_iconst (pc := 100) (v := 0) dX6_doChange_100 ci_0 ?_
      refine go_iload_n (pc := 101) dX6_doChange_101 rfl rfl ?_
      refine go_if_ne (pc := 102) (tgt := 110) dX6_doChange_102 rfl (fun c73 => ?_) (fun c73 => ?_)
      · replace h := ifn h c73
        refine go_bipush (pc := 110) (v := 9) dX6_doChange_110 cb_9 ?_
        obtain ⟨r74, e75, h⟩ := ok_bind h
        refine go_cS (pc := 112) (As := [.int l3, .int 0, .int 9]) (st := []) (E_X6_within e75) rfl oX6_within iX6_within kX6_99 rfl (Nat.le_of_ble_eq_true rfl) ⟨Nat.le_of_ble_eq_true rfl, Nat.le_of_ble_eq_true rfl⟩ ⟨rfl, rfl⟩ dX6_doChange_112 (st2 := [.int r74]) rfl ?_
        refine go_if_eq (pc := 115) (tgt := 122) dX6_doChange_115 rfl (fun c76 => ?_) (fun c76 => ?_)
        · replace h := ifp h c76
          refine go_iconst (pc := 122) (v := 0) dX6_doChange_122 ci_0 ?_
          refine go_goto (pc := 123) (tgt := 145) dX6_doChange_123 rfl ?_
          exact gX6_doChange_b145  h
        · replace h := ifn h c76
          refine go_iconst (pc := 118) (v := 1) dX6_doChange_118 ci_1 ?_
          refine go_goto (pc := 119) (tgt := 145) dX6_doChange_119 rfl ?_
          exact gX6_doChange_b145  h
      · replace h := ifp h c73
        refine go_bipush (pc := 105) (v := 99) dX6_doChange_105 cb_99 ?_
        refine go_goto (pc := 107) (tgt := 112) dX6_doChange_107 rfl ?_
        obtain ⟨r77, e78, h⟩ := ok_bind h
        refine go_cS (pc := 112) (As := [.int l3, .int 0, .int 99]) (st := []) (E_X6_within e78) rfl oX6_within iX6_within kX6_99 rfl (Nat.le_of_ble_eq_true rfl) ⟨Nat.le_of_ble_eq_true rfl, Nat.le_of_ble_eq_true rfl⟩ ⟨rfl, rfl⟩ dX6_doChange_112 (st2 := [.int r77]) rfl ?_
        refine go_if_eq (pc := 115) (tgt := 122) dX6_doChange_115 rfl (fun c79 => ?_) (fun c79 => ?_)
        · replace h := ifp h c79
          refine go_iconst (pc := 122) (v := 0) dX6_doChange_122 ci_0 ?_
          refine go_goto (pc := 123) (tgt := 145) dX6_doChange_123 rfl ?_
          exact gX6_doChange_b145  h
        · replace h := ifn h c79
          refine go_iconst (pc := 118) (v := 1) dX6_doChange_118 ci_1 ?_
          refine go_goto (pc := 119) (tgt := 145) dX6_doChange_119 rfl ?_
          exact gX6_doChange_b145  h
def eX6_doChange  (V : Mm) : Option (Int32 × Mm) :=
  (eX6_number 0 V).bind fun r1 =>
  (eX6_number 3 V).bind fun r3 =>
  (eX6_number 4 V).bind fun r5 =>
  (eX6_within r1 0 1 V).bind fun r7 =>
  if r7 = 0 then
    some ((-2), V)
  else
    (eX6_number 1 V).bind fun r10 =>
    (eX6_number 2 V).bind fun r12 =>
    (eX6_isRow r10 r12 V).bind fun r14 =>
    if r14 = 0 then
      some ((-2), V)
    else
      (eX6_within r3 0 2 V).bind fun r17 =>
      if r17 = 0 then
        some ((-2), V)
      else
        if r1 = 0 then
          if r3 = 1 then
            if r5 = 1000 then
              eX6_doChange_b88 r1 r3 r5 0 V
            else
              eX6_doChange_b88 r1 r3 r5 1 V
          else
            eX6_doChange_b88 r1 r3 r5 0 V
        else
          if r3 ≤ 0 then
            eX6_doChange_b88 r1 r3 r5 0 V
          else
            eX6_doChange_b88 r1 r3 r5 1 V
set_option maxHeartbeats 4000000 in
set_option maxRecDepth 100000 in
theorem E_X6_doChange  {V : Mm} {res : Int32 × Mm}  (h : eX6_doChange V = some res) : Ev mX6_doChange [.ref 0] (hM V) (some (.int res.1)) (hM res.2) := by
  refine Ev.of (n := 8) oX6_doChange.1 (Nat.le_of_ble_eq_true rfl) ?_
  unfold eX6_doChange at h
  show Go mX6_doChange 0 [some (.ref 0), none, none, none, none, none, none, none, none] [] (hM V) 0 0 (some (.int res.1)) (hM res.2)
  refine go_aload_n (pc := 0) dX6_doChange_0 rfl rfl ?_
  refine go_iconst (pc := 1) (v := 0) dX6_doChange_1 ci_0 ?_
  obtain ⟨r1, e2, h⟩ := ok_bind h
  refine go_cV (pc := 2) (ci := 6) (As := [.int 0]) (st := []) (E_X6_number e2) rfl oX6_number iX6_number sX6_number kX6_146 rfl (show TM 0 = (6 + 5, 29) from rfl) rfl (Nat.le_of_ble_eq_true rfl) ⟨Nat.le_of_ble_eq_true rfl, Nat.le_of_ble_eq_true rfl⟩ ⟨rfl, rfl⟩ dX6_doChange_2 (st2 := [.int r1]) rfl ?_
  refine go_istore_n (pc := 5) (i := 1) dX6_doChange_5 rfl (Nat.le_of_ble_eq_true rfl) (L2 := [some (.ref 0), some (.int r1), none, none, none, none, none, none, none]) rfl ?_
  refine go_aload_n (pc := 6) dX6_doChange_6 rfl rfl ?_
  refine go_iconst (pc := 7) (v := 3) dX6_doChange_7 ci_3 ?_
  obtain ⟨r3, e4, h⟩ := ok_bind h
  refine go_cV (pc := 8) (ci := 6) (As := [.int 3]) (st := []) (E_X6_number e4) rfl oX6_number iX6_number sX6_number kX6_146 rfl (show TM 0 = (6 + 5, 29) from rfl) rfl (Nat.le_of_ble_eq_true rfl) ⟨Nat.le_of_ble_eq_true rfl, Nat.le_of_ble_eq_true rfl⟩ ⟨rfl, rfl⟩ dX6_doChange_8 (st2 := [.int r3]) rfl ?_
  refine go_istore_n (pc := 11) (i := 2) dX6_doChange_11 rfl (Nat.le_of_ble_eq_true rfl) (L2 := [some (.ref 0), some (.int r1), some (.int r3), none, none, none, none, none, none]) rfl ?_
  refine go_aload_n (pc := 12) dX6_doChange_12 rfl rfl ?_
  refine go_iconst (pc := 13) (v := 4) dX6_doChange_13 ci_4 ?_
  obtain ⟨r5, e6, h⟩ := ok_bind h
  refine go_cV (pc := 14) (ci := 6) (As := [.int 4]) (st := []) (E_X6_number e6) rfl oX6_number iX6_number sX6_number kX6_146 rfl (show TM 0 = (6 + 5, 29) from rfl) rfl (Nat.le_of_ble_eq_true rfl) ⟨Nat.le_of_ble_eq_true rfl, Nat.le_of_ble_eq_true rfl⟩ ⟨rfl, rfl⟩ dX6_doChange_14 (st2 := [.int r5]) rfl ?_
  refine go_istore_n (pc := 17) (i := 3) dX6_doChange_17 rfl (Nat.le_of_ble_eq_true rfl) (L2 := [some (.ref 0), some (.int r1), some (.int r3), some (.int r5), none, none, none, none, none]) rfl ?_
  refine go_iload_n (pc := 18) dX6_doChange_18 rfl rfl ?_
  refine go_iconst (pc := 19) (v := 0) dX6_doChange_19 ci_0 ?_
  refine go_iconst (pc := 20) (v := 1) dX6_doChange_20 ci_1 ?_
  obtain ⟨r7, e8, h⟩ := ok_bind h
  refine go_cS (pc := 21) (As := [.int r1, .int 0, .int 1]) (st := []) (E_X6_within e8) rfl oX6_within iX6_within kX6_99 rfl (Nat.le_of_ble_eq_true rfl) ⟨Nat.le_of_ble_eq_true rfl, Nat.le_of_ble_eq_true rfl⟩ ⟨rfl, rfl⟩ dX6_doChange_21 (st2 := [.int r7]) rfl ?_
  refine go_if_eq (pc := 24) (tgt := 52) dX6_doChange_24 rfl (fun c9 => ?_) (fun c9 => ?_)
  · replace h := ifp h c9
    refine go_bipush (pc := 52) (v := (-2)) dX6_doChange_52 cb_m2 ?_
    cases h
    exact go_iret (pc := 54) (Or.inl rfl) ⟨Nat.zero_le _, Nat.zero_le _⟩ dX6_doChange_54
  · replace h := ifn h c9
    refine go_aload_n (pc := 27) dX6_doChange_27 rfl rfl ?_
    refine go_iconst (pc := 28) (v := 1) dX6_doChange_28 ci_1 ?_
    obtain ⟨r10, e11, h⟩ := ok_bind h
    refine go_cV (pc := 29) (ci := 6) (As := [.int 1]) (st := []) (E_X6_number e11) rfl oX6_number iX6_number sX6_number kX6_146 rfl (show TM 0 = (6 + 5, 29) from rfl) rfl (Nat.le_of_ble_eq_true rfl) ⟨Nat.le_of_ble_eq_true rfl, Nat.le_of_ble_eq_true rfl⟩ ⟨rfl, rfl⟩ dX6_doChange_29 (st2 := [.int r10]) rfl ?_
    refine go_aload_n (pc := 32) dX6_doChange_32 rfl rfl ?_
    refine go_iconst (pc := 33) (v := 2) dX6_doChange_33 ci_2 ?_
    obtain ⟨r12, e13, h⟩ := ok_bind h
    refine go_cV (pc := 34) (ci := 6) (As := [.int 2]) (st := [.int r10]) (E_X6_number e13) rfl oX6_number iX6_number sX6_number kX6_146 rfl (show TM 0 = (6 + 5, 29) from rfl) rfl (Nat.le_of_ble_eq_true rfl) ⟨Nat.le_of_ble_eq_true rfl, Nat.le_of_ble_eq_true rfl⟩ ⟨rfl, rfl⟩ dX6_doChange_34 (st2 := [.int r12, .int r10]) rfl ?_
    obtain ⟨r14, e15, h⟩ := ok_bind h
    refine go_cS (pc := 37) (As := [.int r10, .int r12]) (st := []) (E_X6_isRow e15) rfl oX6_isRow iX6_isRow kX6_149 rfl (Nat.le_of_ble_eq_true rfl) ⟨Nat.le_of_ble_eq_true rfl, Nat.le_of_ble_eq_true rfl⟩ ⟨rfl, rfl⟩ dX6_doChange_37 (st2 := [.int r14]) rfl ?_
    refine go_if_eq (pc := 40) (tgt := 52) dX6_doChange_40 rfl (fun c16 => ?_) (fun c16 => ?_)
    · replace h := ifp h c16
      refine go_bipush (pc := 52) (v := (-2)) dX6_doChange_52 cb_m2 ?_
      cases h
      exact go_iret (pc := 54) (Or.inl rfl) ⟨Nat.zero_le _, Nat.zero_le _⟩ dX6_doChange_54
    · replace h := ifn h c16
      refine go_iload_n (pc := 43) dX6_doChange_43 rfl rfl ?_
      refine go_iconst (pc := 44) (v := 0) dX6_doChange_44 ci_0 ?_
      refine go_iconst (pc := 45) (v := 2) dX6_doChange_45 ci_2 ?_
      obtain ⟨r17, e18, h⟩ := ok_bind h
      refine go_cS (pc := 46) (As := [.int r3, .int 0, .int 2]) (st := []) (E_X6_within e18) rfl oX6_within iX6_within kX6_99 rfl (Nat.le_of_ble_eq_true rfl) ⟨Nat.le_of_ble_eq_true rfl, Nat.le_of_ble_eq_true rfl⟩ ⟨rfl, rfl⟩ dX6_doChange_46 (st2 := [.int r17]) rfl ?_
      refine go_if_ne (pc := 49) (tgt := 55) dX6_doChange_49 rfl (fun c19 => ?_) (fun c19 => ?_)
      · replace h := ifn h c19
        refine go_iload_n (pc := 55) dX6_doChange_55 rfl rfl ?_
        refine go_if_ne (pc := 56) (tgt := 79) dX6_doChange_56 rfl (fun c20 => ?_) (fun c20 => ?_)
        · replace h := ifn h c20
          refine go_iload_n (pc := 79) dX6_doChange_79 rfl rfl ?_
          refine go_if_le (pc := 80) (tgt := 87) dX6_doChange_80 rfl (fun c21 => ?_) (fun c21 => ?_)
          · replace h := ifp h c21
            refine go_iconst (pc := 87) (v := 0) dX6_doChange_87 ci_0 ?_
            exact gX6_doChange_b88  h
          · replace h := ifn h c21
            refine go_iconst (pc := 83) (v := 1) dX6_doChange_83 ci_1 ?_
            refine go_goto (pc := 84) (tgt := 88) dX6_doChange_84 rfl ?_
            exact gX6_doChange_b88  h
        · replace h := ifp h c20
          refine go_iload_n (pc := 59) dX6_doChange_59 rfl rfl ?_
          refine go_iconst (pc := 60) (v := 1) dX6_doChange_60 ci_1 ?_
          refine go_icmp_ne (pc := 61) (tgt := 75) dX6_doChange_61 rfl (fun c80 => ?_) (fun c80 => ?_)
          · replace h := ifn h c80
            refine go_iconst (pc := 75) (v := 0) dX6_doChange_75 ci_0 ?_
            refine go_goto (pc := 76) (tgt := 88) dX6_doChange_76 rfl ?_
            exact gX6_doChange_b88  h
          · replace h := ifp h c80
            refine go_iload_n (pc := 64) dX6_doChange_64 rfl rfl ?_
            refine go_sipush (pc := 65) (v := 1000) dX6_doChange_65 cs_1000 ?_
            refine go_icmp_eq (pc := 68) (tgt := 75) dX6_doChange_68 rfl (fun c81 => ?_) (fun c81 => ?_)
            · replace h := ifp h c81
              refine go_iconst (pc := 75) (v := 0) dX6_doChange_75 ci_0 ?_
              refine go_goto (pc := 76) (tgt := 88) dX6_doChange_76 rfl ?_
              exact gX6_doChange_b88  h
            · replace h := ifn h c81
              refine go_iconst (pc := 71) (v := 1) dX6_doChange_71 ci_1 ?_
              refine go_goto (pc := 72) (tgt := 88) dX6_doChange_72 rfl ?_
              exact gX6_doChange_b88  h
      · replace h := ifp h c19
        refine go_bipush (pc := 52) (v := (-2)) dX6_doChange_52 cb_m2 ?_
        cases h
        exact go_iret (pc := 54) (Or.inl rfl) ⟨Nat.zero_le _, Nat.zero_le _⟩ dX6_doChange_54
def eX6_destroyOne_b86 : Nat → Int32 → Int32 → Mm → Option (Int32 × Mm)
  | 0, _, _, _ => none
  | n + 1, l2, l3, V => 
    if (V 1 581) ≤ l3 then
      if (4 * l2) < 0 ∨ 586 ≤ (4 * l2).toNatClampNeg then none else
      some (0, (wr V 1 ((4 * l2).toNatClampNeg) 0))
    else
      (eX6_isMail 1 l3 V).bind fun r8 =>
      if r8 = 0 then
        eX6_destroyOne_b86 n l2 (l3 + 1) V
      else
        (eX6_mailPart 1 l3 9 V).bind fun r11 =>
        if ((r11 >>> (l2 &&& 31)) &&& 1) = 1 then
          some ((-3), V)
        else
          eX6_destroyOne_b86 n l2 (l3 + 1) V
set_option maxHeartbeats 4000000 in
set_option maxRecDepth 100000 in
theorem gX6_destroyOne_b86 : ∀ (n : Nat) (l2 : Int32) (l3 : Int32) (V : Mm) (res : Int32 × Mm) , eX6_destroyOne_b86 n l2 l3 V = some res → Go mX6_destroyOne 86 [some (.ref 0), none, some (.int l2), some (.int l3)] [] (hM V) 0 0 (some (.int res.1)) (hM res.2) := by
  intro n
  induction n with
  | zero =>
    intro l2 l3 V res  h
    cases h
  | succ n ih =>
    intro l2 l3 V res  h
    rw [eX6_destroyOne_b86] at h
    refine go_iload_n (pc := 86) dX6_destroyOne_86 rfl rfl ?_
    refine go_aload_n (pc := 87) dX6_destroyOne_87 rfl rfl ?_
    refine go_getP (pc := 88) (a := 1) fX6_7 (by decide) (show TM 0 = (6 + 5, 29) from rfl) rfl dX6_destroyOne_88 ?_
    refine go_sipush (pc := 91) (v := 581) dX6_destroyOne_91 cs_581 ?_
    refine go_ia (pc := 94) (v := V 1 581) (show TM 1 = (0, 586) from rfl) (vin (by decide)) dX6_destroyOne_94 rfl ?_
    refine go_icmp_ge (pc := 95) (tgt := 138) dX6_destroyOne_95 rfl (fun c6 => ?_) (fun c6 => ?_)
    · replace h := ifp h c6
      refine go_aload_n (pc := 138) dX6_destroyOne_138 rfl rfl ?_
      refine go_getP (pc := 139) (a := 1) fX6_7 (by decide) (show TM 0 = (6 + 5, 29) from rfl) rfl dX6_destroyOne_139 ?_
      refine go_iconst (pc := 142) (v := 4) dX6_destroyOne_142 ci_4 ?_
      refine go_iload_n (pc := 143) dX6_destroyOne_143 rfl rfl ?_
      refine go_imul (pc := 144) dX6_destroyOne_144 ?_
      refine go_iconst (pc := 145) (v := 0) dX6_destroyOne_145 ci_0 ?_
      obtain ⟨c7, h⟩ := ok_not h
      refine go_iast (pc := 146) (show TM 1 = (0, 586) from rfl) (vin c7) dX6_destroyOne_146 ?_
      refine go_iconst (pc := 147) (v := 0) dX6_destroyOne_147 ci_0 ?_
      cases h
      exact go_iret (pc := 148) (Or.inl rfl) ⟨Nat.zero_le _, Nat.zero_le _⟩ dX6_destroyOne_148
    · replace h := ifn h c6
      refine go_aload_n (pc := 98) dX6_destroyOne_98 rfl rfl ?_
      refine go_aload_n (pc := 99) dX6_destroyOne_99 rfl rfl ?_
      refine go_getP (pc := 100) (a := 1) fX6_7 (by decide) (show TM 0 = (6 + 5, 29) from rfl) rfl dX6_destroyOne_100 ?_
      refine go_iload_n (pc := 103) dX6_destroyOne_103 rfl rfl ?_
      obtain ⟨r8, e9, h⟩ := ok_bind h
      refine go_cV (pc := 104) (ci := 6) (As := [.ref 1, .int l3]) (st := []) (E_X6_isMail isW_1 e9) rfl oX6_isMail iX6_isMail sX6_isMail kX6_81 rfl (show TM 0 = (6 + 5, 29) from rfl) rfl (Nat.le_of_ble_eq_true rfl) ⟨Nat.le_of_ble_eq_true rfl, Nat.le_of_ble_eq_true rfl⟩ ⟨rfl, rfl⟩ dX6_destroyOne_104 (st2 := [.int r8]) rfl ?_
      refine go_if_eq (pc := 107) (tgt := 132) dX6_destroyOne_107 rfl (fun c10 => ?_) (fun c10 => ?_)
      · replace h := ifp h c10
        refine go_iinc (pc := 132) (v := (l3 + 1)) dX6_destroyOne_132 rfl (by rw [ci_1]) (Nat.le_of_ble_eq_true rfl) (L2 := [some (.ref 0), none, some (.int l2), some (.int (l3 + 1))]) rfl ?_
        refine go_goto (pc := 135) (tgt := 86) dX6_destroyOne_135 rfl ?_
        exact ih _ _ _ _  h
      · replace h := ifn h c10
        refine go_aload_n (pc := 110) dX6_destroyOne_110 rfl rfl ?_
        refine go_aload_n (pc := 111) dX6_destroyOne_111 rfl rfl ?_
        refine go_getP (pc := 112) (a := 1) fX6_7 (by decide) (show TM 0 = (6 + 5, 29) from rfl) rfl dX6_destroyOne_112 ?_
        refine go_iload_n (pc := 115) dX6_destroyOne_115 rfl rfl ?_
        refine go_bipush (pc := 116) (v := 9) dX6_destroyOne_116 cb_9 ?_
        obtain ⟨r11, e12, h⟩ := ok_bind h
        refine go_cV (pc := 118) (ci := 6) (As := [.ref 1, .int l3, .int 9]) (st := []) (E_X6_mailPart isW_1 e12) rfl oX6_mailPart iX6_mailPart sX6_mailPart kX6_85 rfl (show TM 0 = (6 + 5, 29) from rfl) rfl (Nat.le_of_ble_eq_true rfl) ⟨Nat.le_of_ble_eq_true rfl, Nat.le_of_ble_eq_true rfl⟩ ⟨rfl, rfl⟩ dX6_destroyOne_118 (st2 := [.int r11]) rfl ?_
        refine go_iload_n (pc := 121) dX6_destroyOne_121 rfl rfl ?_
        refine go_ishr (pc := 122) dX6_destroyOne_122 ?_
        refine go_iconst (pc := 123) (v := 1) dX6_destroyOne_123 ci_1 ?_
        refine go_iand (pc := 124) dX6_destroyOne_124 ?_
        refine go_iconst (pc := 125) (v := 1) dX6_destroyOne_125 ci_1 ?_
        refine go_icmp_ne (pc := 126) (tgt := 132) dX6_destroyOne_126 rfl (fun c13 => ?_) (fun c13 => ?_)
        · replace h := ifn h c13
          refine go_iinc (pc := 132) (v := (l3 + 1)) dX6_destroyOne_132 rfl (by rw [ci_1]) (Nat.le_of_ble_eq_true rfl) (L2 := [some (.ref 0), none, some (.int l2), some (.int (l3 + 1))]) rfl ?_
          refine go_goto (pc := 135) (tgt := 86) dX6_destroyOne_135 rfl ?_
          exact ih _ _ _ _  h
        · replace h := ifp h c13
          refine go_bipush (pc := 129) (v := (-3)) dX6_destroyOne_129 cb_m3 ?_
          cases h
          exact go_iret (pc := 131) (Or.inl rfl) ⟨Nat.zero_le _, Nat.zero_le _⟩ dX6_destroyOne_131
def eX6_destroyOne_b37 : Nat → Int32 → Int32 → Mm → Option (Int32 × Mm)
  | 0, _, _, _ => none
  | n + 1, l2, l3, V => 
    if (V 1 580) ≤ l3 then
      eX6_destroyOne_b86 fu l2 0 V
    else
      (eX6_isBox 1 l3 V).bind fun r14 =>
      if r14 = 0 then
        eX6_destroyOne_b37 n l2 (l3 + 1) V
      else
        (eX6_boxPart 1 l3 2 V).bind fun r17 =>
        if r17 = l2 then
          some ((-3), V)
        else
          eX6_destroyOne_b37 n l2 (l3 + 1) V
set_option maxHeartbeats 4000000 in
set_option maxRecDepth 100000 in
theorem gX6_destroyOne_b37 : ∀ (n : Nat) (l2 : Int32) (l3 : Int32) (V : Mm) (res : Int32 × Mm) , eX6_destroyOne_b37 n l2 l3 V = some res → Go mX6_destroyOne 37 [some (.ref 0), none, some (.int l2), some (.int l3)] [] (hM V) 0 0 (some (.int res.1)) (hM res.2) := by
  intro n
  induction n with
  | zero =>
    intro l2 l3 V res  h
    cases h
  | succ n ih =>
    intro l2 l3 V res  h
    rw [eX6_destroyOne_b37] at h
    refine go_iload_n (pc := 37) dX6_destroyOne_37 rfl rfl ?_
    refine go_aload_n (pc := 38) dX6_destroyOne_38 rfl rfl ?_
    refine go_getP (pc := 39) (a := 1) fX6_7 (by decide) (show TM 0 = (6 + 5, 29) from rfl) rfl dX6_destroyOne_39 ?_
    refine go_sipush (pc := 42) (v := 580) dX6_destroyOne_42 cs_580 ?_
    refine go_ia (pc := 45) (v := V 1 580) (show TM 1 = (0, 586) from rfl) (vin (by decide)) dX6_destroyOne_45 rfl ?_
    refine go_icmp_ge (pc := 46) (tgt := 84) dX6_destroyOne_46 rfl (fun c5 => ?_) (fun c5 => ?_)
    · replace h := ifp h c5
      refine go_iconst (pc := 84) (v := 0) dX6_destroyOne_84 ci_0 ?_
      refine go_istore_n (pc := 85) (i := 3) dX6_destroyOne_85 rfl (Nat.le_of_ble_eq_true rfl) (L2 := [some (.ref 0), none, some (.int l2), some (.int 0)]) rfl ?_
      exact gX6_destroyOne_b86 _ _ _ _ _  h
    · replace h := ifn h c5
      refine go_aload_n (pc := 49) dX6_destroyOne_49 rfl rfl ?_
      refine go_aload_n (pc := 50) dX6_destroyOne_50 rfl rfl ?_
      refine go_getP (pc := 51) (a := 1) fX6_7 (by decide) (show TM 0 = (6 + 5, 29) from rfl) rfl dX6_destroyOne_51 ?_
      refine go_iload_n (pc := 54) dX6_destroyOne_54 rfl rfl ?_
      obtain ⟨r14, e15, h⟩ := ok_bind h
      refine go_cV (pc := 55) (ci := 6) (As := [.ref 1, .int l3]) (st := []) (E_X6_isBox isW_1 e15) rfl oX6_isBox iX6_isBox sX6_isBox kX6_89 rfl (show TM 0 = (6 + 5, 29) from rfl) rfl (Nat.le_of_ble_eq_true rfl) ⟨Nat.le_of_ble_eq_true rfl, Nat.le_of_ble_eq_true rfl⟩ ⟨rfl, rfl⟩ dX6_destroyOne_55 (st2 := [.int r14]) rfl ?_
      refine go_if_eq (pc := 58) (tgt := 78) dX6_destroyOne_58 rfl (fun c16 => ?_) (fun c16 => ?_)
      · replace h := ifp h c16
        refine go_iinc (pc := 78) (v := (l3 + 1)) dX6_destroyOne_78 rfl (by rw [ci_1]) (Nat.le_of_ble_eq_true rfl) (L2 := [some (.ref 0), none, some (.int l2), some (.int (l3 + 1))]) rfl ?_
        refine go_goto (pc := 81) (tgt := 37) dX6_destroyOne_81 rfl ?_
        exact ih _ _ _ _  h
      · replace h := ifn h c16
        refine go_aload_n (pc := 61) dX6_destroyOne_61 rfl rfl ?_
        refine go_aload_n (pc := 62) dX6_destroyOne_62 rfl rfl ?_
        refine go_getP (pc := 63) (a := 1) fX6_7 (by decide) (show TM 0 = (6 + 5, 29) from rfl) rfl dX6_destroyOne_63 ?_
        refine go_iload_n (pc := 66) dX6_destroyOne_66 rfl rfl ?_
        refine go_iconst (pc := 67) (v := 2) dX6_destroyOne_67 ci_2 ?_
        obtain ⟨r17, e18, h⟩ := ok_bind h
        refine go_cV (pc := 68) (ci := 6) (As := [.ref 1, .int l3, .int 2]) (st := []) (E_X6_boxPart isW_1 e18) rfl oX6_boxPart iX6_boxPart sX6_boxPart kX6_96 rfl (show TM 0 = (6 + 5, 29) from rfl) rfl (Nat.le_of_ble_eq_true rfl) ⟨Nat.le_of_ble_eq_true rfl, Nat.le_of_ble_eq_true rfl⟩ ⟨rfl, rfl⟩ dX6_destroyOne_68 (st2 := [.int r17]) rfl ?_
        refine go_iload_n (pc := 71) dX6_destroyOne_71 rfl rfl ?_
        refine go_icmp_ne (pc := 72) (tgt := 78) dX6_destroyOne_72 rfl (fun c19 => ?_) (fun c19 => ?_)
        · replace h := ifn h c19
          refine go_iinc (pc := 78) (v := (l3 + 1)) dX6_destroyOne_78 rfl (by rw [ci_1]) (Nat.le_of_ble_eq_true rfl) (L2 := [some (.ref 0), none, some (.int l2), some (.int (l3 + 1))]) rfl ?_
          refine go_goto (pc := 81) (tgt := 37) dX6_destroyOne_81 rfl ?_
          exact ih _ _ _ _  h
        · replace h := ifp h c19
          refine go_bipush (pc := 75) (v := (-3)) dX6_destroyOne_75 cb_m3 ?_
          cases h
          exact go_iret (pc := 77) (Or.inl rfl) ⟨Nat.zero_le _, Nat.zero_le _⟩ dX6_destroyOne_77
def eX6_destroyOne (a1 : Int32) (a2 : Int32) (V : Mm) : Option (Int32 × Mm) :=
  (eX6_isThere 1 a1 a2 V).bind fun r1 =>
  if r1 = 0 then
    some ((-1), V)
  else
    if a1 = 1 then
      if (80 + (10 * a2)) < 0 ∨ 586 ≤ (80 + (10 * a2)).toNatClampNeg then none else
      some (0, (wr V 1 ((80 + (10 * a2)).toNatClampNeg) 0))
    else
      eX6_destroyOne_b37 fu a2 0 V
set_option maxHeartbeats 4000000 in
set_option maxRecDepth 100000 in
theorem E_X6_destroyOne {a1 : Int32} {a2 : Int32} {V : Mm} {res : Int32 × Mm}  (h : eX6_destroyOne a1 a2 V = some res) : Ev mX6_destroyOne [.ref 0, .int a1, .int a2] (hM V) (some (.int res.1)) (hM res.2) := by
  refine Ev.of (n := 1) oX6_destroyOne.1 (Nat.le_of_ble_eq_true rfl) ?_
  unfold eX6_destroyOne at h
  show Go mX6_destroyOne 0 [some (.ref 0), some (.int a1), some (.int a2), none] [] (hM V) 0 0 (some (.int res.1)) (hM res.2)
  refine go_aload_n (pc := 0) dX6_destroyOne_0 rfl rfl ?_
  refine go_aload_n (pc := 1) dX6_destroyOne_1 rfl rfl ?_
  refine go_getP (pc := 2) (a := 1) fX6_7 (by decide) (show TM 0 = (6 + 5, 29) from rfl) rfl dX6_destroyOne_2 ?_
  refine go_iload_n (pc := 5) dX6_destroyOne_5 rfl rfl ?_
  refine go_iload_n (pc := 6) dX6_destroyOne_6 rfl rfl ?_
  obtain ⟨r1, e2, h⟩ := ok_bind h
  refine go_cV (pc := 7) (ci := 6) (As := [.ref 1, .int a1, .int a2]) (st := []) (E_X6_isThere isW_1 e2) rfl oX6_isThere iX6_isThere sX6_isThere kX6_113 rfl (show TM 0 = (6 + 5, 29) from rfl) rfl (Nat.le_of_ble_eq_true rfl) ⟨Nat.le_of_ble_eq_true rfl, Nat.le_of_ble_eq_true rfl⟩ ⟨rfl, rfl⟩ dX6_destroyOne_7 (st2 := [.int r1]) rfl ?_
  refine go_if_ne (pc := 10) (tgt := 15) dX6_destroyOne_10 rfl (fun c3 => ?_) (fun c3 => ?_)
  · replace h := ifn h c3
    refine go_iload_n (pc := 15) dX6_destroyOne_15 rfl rfl ?_
    refine go_iconst (pc := 16) (v := 1) dX6_destroyOne_16 ci_1 ?_
    refine go_icmp_ne (pc := 17) (tgt := 35) dX6_destroyOne_17 rfl (fun c4 => ?_) (fun c4 => ?_)
    · replace h := ifn h c4
      refine go_iconst (pc := 35) (v := 0) dX6_destroyOne_35 ci_0 ?_
      refine go_istore_n (pc := 36) (i := 3) dX6_destroyOne_36 rfl (Nat.le_of_ble_eq_true rfl) (L2 := [some (.ref 0), some (.int a1), some (.int a2), some (.int 0)]) rfl ?_
      refine go_le (lle_s (lle_n (lle_s (lle_s lle_0)))) ?_
      exact gX6_destroyOne_b37 _ _ _ _ _  h
    · replace h := ifp h c4
      refine go_aload_n (pc := 20) dX6_destroyOne_20 rfl rfl ?_
      refine go_getP (pc := 21) (a := 1) fX6_7 (by decide) (show TM 0 = (6 + 5, 29) from rfl) rfl dX6_destroyOne_21 ?_
      refine go_bipush (pc := 24) (v := 80) dX6_destroyOne_24 cb_80 ?_
      refine go_bipush (pc := 26) (v := 10) dX6_destroyOne_26 cb_10 ?_
      refine go_iload_n (pc := 28) dX6_destroyOne_28 rfl rfl ?_
      refine go_imul (pc := 29) dX6_destroyOne_29 ?_
      refine go_iadd (pc := 30) dX6_destroyOne_30 ?_
      refine go_iconst (pc := 31) (v := 0) dX6_destroyOne_31 ci_0 ?_
      obtain ⟨c20, h⟩ := ok_not h
      refine go_iast (pc := 32) (show TM 1 = (0, 586) from rfl) (vin c20) dX6_destroyOne_32 ?_
      refine go_iconst (pc := 33) (v := 0) dX6_destroyOne_33 ci_0 ?_
      cases h
      exact go_iret (pc := 34) (Or.inl rfl) ⟨Nat.zero_le _, Nat.zero_le _⟩ dX6_destroyOne_34
  · replace h := ifp h c3
    refine go_iconst (pc := 13) (v := (-1)) dX6_destroyOne_13 ci_m1 ?_
    cases h
    exact go_iret (pc := 14) (Or.inl rfl) ⟨Nat.zero_le _, Nat.zero_le _⟩ dX6_destroyOne_14
def eX6_doDestroy_b104 : Nat → Int32 → Mm → Option (Int32 × Mm)
  | 0, _, _ => none
  | n + 1, l2, V => 
    if (V 0 20) ≤ l2 then
      some (0, V)
    else
      if l2 < 0 ∨ 50 ≤ l2.toNatClampNeg then none else
      (eX6_give (V 0 21) 3 (V 16 l2.toNatClampNeg) V).bind fun r29 =>
      eX6_doDestroy_b104 n (l2 + 1) r29
set_option maxHeartbeats 4000000 in
set_option maxRecDepth 100000 in
theorem gX6_doDestroy_b104 : ∀ (n : Nat) (l2 : Int32) (V : Mm) (res : Int32 × Mm) , eX6_doDestroy_b104 n l2 V = some res → Go mX6_doDestroy 104 [some (.ref 0), none, some (.int l2), none] [] (hM V) 0 0 (some (.int res.1)) (hM res.2) := by
  intro n
  induction n with
  | zero =>
    intro l2 V res  h
    cases h
  | succ n ih =>
    intro l2 V res  h
    rw [eX6_doDestroy_b104] at h
    refine go_iload_n (pc := 104) dX6_doDestroy_104 rfl rfl ?_
    refine go_aload_n (pc := 105) dX6_doDestroy_105 rfl rfl ?_
    refine go_gI (pc := 106) (v := V 0 20) fX6_143 (by decide) (show TM 0 = (6 + 5, 29) from rfl) dX6_doDestroy_106 rfl ?_
    refine go_icmp_ge (pc := 109) (tgt := 133) dX6_doDestroy_109 rfl (fun c27 => ?_) (fun c27 => ?_)
    · replace h := ifp h c27
      refine go_iconst (pc := 133) (v := 0) dX6_doDestroy_133 ci_0 ?_
      cases h
      exact go_iret (pc := 134) (Or.inl rfl) ⟨Nat.zero_le _, Nat.zero_le _⟩ dX6_doDestroy_134
    · replace h := ifn h c27
      refine go_aload_n (pc := 112) dX6_doDestroy_112 rfl rfl ?_
      refine go_aload_n (pc := 113) dX6_doDestroy_113 rfl rfl ?_
      refine go_gI (pc := 114) (v := V 0 21) fX6_129 (by decide) (show TM 0 = (6 + 5, 29) from rfl) dX6_doDestroy_114 rfl ?_
      refine go_iconst (pc := 117) (v := 3) dX6_doDestroy_117 ci_3 ?_
      refine go_aload_n (pc := 118) dX6_doDestroy_118 rfl rfl ?_
      refine go_getP (pc := 119) (a := 16) fX6_59 (by decide) (show TM 0 = (6 + 5, 29) from rfl) rfl dX6_doDestroy_119 ?_
      refine go_iload_n (pc := 122) dX6_doDestroy_122 rfl rfl ?_
      obtain ⟨c28, h⟩ := ok_not h
      refine go_ia (pc := 123) (v := V 16 l2.toNatClampNeg) (show TM 16 = (0, 50) from rfl) (vin c28) dX6_doDestroy_123 rfl ?_
      obtain ⟨r29, e30, h⟩ := ok_bind h
      refine go_cV (pc := 124) (ci := 6) (As := [.int (V 0 21), .int 3, .int (V 16 l2.toNatClampNeg)]) (st := []) (E_X6_give e30) rfl oX6_give iX6_give sX6_give kX6_162 rfl (show TM 0 = (6 + 5, 29) from rfl) rfl (Nat.le_of_ble_eq_true rfl) ⟨Nat.le_of_ble_eq_true rfl, Nat.le_of_ble_eq_true rfl⟩ ⟨rfl, rfl⟩ dX6_doDestroy_124 (st2 := []) rfl ?_
      refine go_iinc (pc := 127) (v := (l2 + 1)) dX6_doDestroy_127 rfl (by rw [ci_1]) (Nat.le_of_ble_eq_true rfl) (L2 := [some (.ref 0), none, some (.int (l2 + 1)), none]) rfl ?_
      refine go_goto (pc := 130) (tgt := 104) dX6_doDestroy_130 rfl ?_
      exact ih _ _ _  h
def eX6_doDestroy_b70 : Nat → Int32 → Int32 → Mm → Option (Int32 × Mm)
  | 0, _, _, _ => none
  | n + 1, l1, l2, V => 
    if (V 0 20) ≤ l2 then
      eX6_doDestroy_b104 fu 0 V
    else
      if l2 < 0 ∨ 50 ≤ l2.toNatClampNeg then none else
      (eX6_destroyOne l1 (V 16 l2.toNatClampNeg) V).bind fun r32 =>
      if r32.1 = 0 then
        eX6_doDestroy_b70 n l1 (l2 + 1) r32.2
      else
        some (r32.1, r32.2)
set_option maxHeartbeats 4000000 in
set_option maxRecDepth 100000 in
theorem gX6_doDestroy_b70 : ∀ (n : Nat) (l1 : Int32) (l2 : Int32) (V : Mm) (res : Int32 × Mm) , eX6_doDestroy_b70 n l1 l2 V = some res → Go mX6_doDestroy 70 [some (.ref 0), some (.int l1), some (.int l2), none] [] (hM V) 0 0 (some (.int res.1)) (hM res.2) := by
  intro n
  induction n with
  | zero =>
    intro l1 l2 V res  h
    cases h
  | succ n ih =>
    intro l1 l2 V res  h
    rw [eX6_doDestroy_b70] at h
    refine go_iload_n (pc := 70) dX6_doDestroy_70 rfl rfl ?_
    refine go_aload_n (pc := 71) dX6_doDestroy_71 rfl rfl ?_
    refine go_gI (pc := 72) (v := V 0 20) fX6_143 (by decide) (show TM 0 = (6 + 5, 29) from rfl) dX6_doDestroy_72 rfl ?_
    refine go_icmp_ge (pc := 75) (tgt := 102) dX6_doDestroy_75 rfl (fun c26 => ?_) (fun c26 => ?_)
    · replace h := ifp h c26
      refine go_iconst (pc := 102) (v := 0) dX6_doDestroy_102 ci_0 ?_
      refine go_istore_n (pc := 103) (i := 2) dX6_doDestroy_103 rfl (Nat.le_of_ble_eq_true rfl) (L2 := [some (.ref 0), some (.int l1), some (.int 0), none]) rfl ?_
      refine go_le (lle_s (lle_n (lle_s (lle_n lle_0)))) ?_
      exact gX6_doDestroy_b104 _ _ _ _  h
    · replace h := ifn h c26
      refine go_aload_n (pc := 78) dX6_doDestroy_78 rfl rfl ?_
      refine go_iload_n (pc := 79) dX6_doDestroy_79 rfl rfl ?_
      refine go_aload_n (pc := 80) dX6_doDestroy_80 rfl rfl ?_
      refine go_getP (pc := 81) (a := 16) fX6_59 (by decide) (show TM 0 = (6 + 5, 29) from rfl) rfl dX6_doDestroy_81 ?_
      refine go_iload_n (pc := 84) dX6_doDestroy_84 rfl rfl ?_
      obtain ⟨c31, h⟩ := ok_not h
      refine go_ia (pc := 85) (v := V 16 l2.toNatClampNeg) (show TM 16 = (0, 50) from rfl) (vin c31) dX6_doDestroy_85 rfl ?_
      obtain ⟨r32, e33, h⟩ := ok_bind h
      refine go_cV (pc := 86) (ci := 6) (As := [.int l1, .int (V 16 l2.toNatClampNeg)]) (st := []) (E_X6_destroyOne e33) rfl oX6_destroyOne iX6_destroyOne sX6_destroyOne kX6_227 rfl (show TM 0 = (6 + 5, 29) from rfl) rfl (Nat.le_of_ble_eq_true rfl) ⟨Nat.le_of_ble_eq_true rfl, Nat.le_of_ble_eq_true rfl⟩ ⟨rfl, rfl⟩ dX6_doDestroy_86 (st2 := [.int r32.1]) rfl ?_
      refine go_istore_n (pc := 89) (i := 3) dX6_doDestroy_89 rfl (Nat.le_of_ble_eq_true rfl) (L2 := [some (.ref 0), some (.int l1), some (.int l2), some (.int r32.1)]) rfl ?_
      refine go_iload_n (pc := 90) dX6_doDestroy_90 rfl rfl ?_
      refine go_if_eq (pc := 91) (tgt := 96) dX6_doDestroy_91 rfl (fun c34 => ?_) (fun c34 => ?_)
      · replace h := ifp h c34
        refine go_iinc (pc := 96) (v := (l2 + 1)) dX6_doDestroy_96 rfl (by rw [ci_1]) (Nat.le_of_ble_eq_true rfl) (L2 := [some (.ref 0), some (.int l1), some (.int (l2 + 1)), some (.int r32.1)]) rfl ?_
        refine go_goto (pc := 99) (tgt := 70) dX6_doDestroy_99 rfl ?_
        refine go_le (lle_s (lle_s (lle_s (lle_n lle_0)))) ?_
        exact ih _ _ _ _  h
      · replace h := ifn h c34
        refine go_iload_n (pc := 94) dX6_doDestroy_94 rfl rfl ?_
        cases h
        exact go_iret (pc := 95) (Or.inl rfl) ⟨Nat.zero_le _, Nat.zero_le _⟩ dX6_doDestroy_95
def eX6_doDestroy  (V : Mm) : Option (Int32 × Mm) :=
  (eX6_number 0 V).bind fun r1 =>
  (eX6_within r1 0 1 V).bind fun r3 =>
  if r3 = 0 then
    some ((-2), V)
  else
    (eX6_number 1 V).bind fun r6 =>
    (eX6_number 2 V).bind fun r8 =>
    (eX6_isRow r6 r8 V).bind fun r10 =>
    if r10 = 0 then
      some ((-2), V)
    else
      (eX6_number 1 V).bind fun r13 =>
      (eX6_number 2 V).bind fun r15 =>
      (eX6_areIds r13 r15 V).bind fun r17 =>
      if r17 = 0 then
        some ((-5), V)
      else
        (eX6_number 1 V).bind fun r20 =>
        (eX6_number 2 V).bind fun r22 =>
        (eX6_takeIds r20 r22 V).bind fun r24 =>
        eX6_doDestroy_b70 fu r1 0 r24
set_option maxHeartbeats 4000000 in
set_option maxRecDepth 100000 in
theorem E_X6_doDestroy  {V : Mm} {res : Int32 × Mm}  (h : eX6_doDestroy V = some res) : Ev mX6_doDestroy [.ref 0] (hM V) (some (.int res.1)) (hM res.2) := by
  refine Ev.of (n := 3) oX6_doDestroy.1 (Nat.le_of_ble_eq_true rfl) ?_
  unfold eX6_doDestroy at h
  show Go mX6_doDestroy 0 [some (.ref 0), none, none, none] [] (hM V) 0 0 (some (.int res.1)) (hM res.2)
  refine go_aload_n (pc := 0) dX6_doDestroy_0 rfl rfl ?_
  refine go_iconst (pc := 1) (v := 0) dX6_doDestroy_1 ci_0 ?_
  obtain ⟨r1, e2, h⟩ := ok_bind h
  refine go_cV (pc := 2) (ci := 6) (As := [.int 0]) (st := []) (E_X6_number e2) rfl oX6_number iX6_number sX6_number kX6_146 rfl (show TM 0 = (6 + 5, 29) from rfl) rfl (Nat.le_of_ble_eq_true rfl) ⟨Nat.le_of_ble_eq_true rfl, Nat.le_of_ble_eq_true rfl⟩ ⟨rfl, rfl⟩ dX6_doDestroy_2 (st2 := [.int r1]) rfl ?_
  refine go_istore_n (pc := 5) (i := 1) dX6_doDestroy_5 rfl (Nat.le_of_ble_eq_true rfl) (L2 := [some (.ref 0), some (.int r1), none, none]) rfl ?_
  refine go_iload_n (pc := 6) dX6_doDestroy_6 rfl rfl ?_
  refine go_iconst (pc := 7) (v := 0) dX6_doDestroy_7 ci_0 ?_
  refine go_iconst (pc := 8) (v := 1) dX6_doDestroy_8 ci_1 ?_
  obtain ⟨r3, e4, h⟩ := ok_bind h
  refine go_cS (pc := 9) (As := [.int r1, .int 0, .int 1]) (st := []) (E_X6_within e4) rfl oX6_within iX6_within kX6_99 rfl (Nat.le_of_ble_eq_true rfl) ⟨Nat.le_of_ble_eq_true rfl, Nat.le_of_ble_eq_true rfl⟩ ⟨rfl, rfl⟩ dX6_doDestroy_9 (st2 := [.int r3]) rfl ?_
  refine go_if_eq (pc := 12) (tgt := 31) dX6_doDestroy_12 rfl (fun c5 => ?_) (fun c5 => ?_)
  · replace h := ifp h c5
    refine go_bipush (pc := 31) (v := (-2)) dX6_doDestroy_31 cb_m2 ?_
    cases h
    exact go_iret (pc := 33) (Or.inl rfl) ⟨Nat.zero_le _, Nat.zero_le _⟩ dX6_doDestroy_33
  · replace h := ifn h c5
    refine go_aload_n (pc := 15) dX6_doDestroy_15 rfl rfl ?_
    refine go_iconst (pc := 16) (v := 1) dX6_doDestroy_16 ci_1 ?_
    obtain ⟨r6, e7, h⟩ := ok_bind h
    refine go_cV (pc := 17) (ci := 6) (As := [.int 1]) (st := []) (E_X6_number e7) rfl oX6_number iX6_number sX6_number kX6_146 rfl (show TM 0 = (6 + 5, 29) from rfl) rfl (Nat.le_of_ble_eq_true rfl) ⟨Nat.le_of_ble_eq_true rfl, Nat.le_of_ble_eq_true rfl⟩ ⟨rfl, rfl⟩ dX6_doDestroy_17 (st2 := [.int r6]) rfl ?_
    refine go_aload_n (pc := 20) dX6_doDestroy_20 rfl rfl ?_
    refine go_iconst (pc := 21) (v := 2) dX6_doDestroy_21 ci_2 ?_
    obtain ⟨r8, e9, h⟩ := ok_bind h
    refine go_cV (pc := 22) (ci := 6) (As := [.int 2]) (st := [.int r6]) (E_X6_number e9) rfl oX6_number iX6_number sX6_number kX6_146 rfl (show TM 0 = (6 + 5, 29) from rfl) rfl (Nat.le_of_ble_eq_true rfl) ⟨Nat.le_of_ble_eq_true rfl, Nat.le_of_ble_eq_true rfl⟩ ⟨rfl, rfl⟩ dX6_doDestroy_22 (st2 := [.int r8, .int r6]) rfl ?_
    obtain ⟨r10, e11, h⟩ := ok_bind h
    refine go_cS (pc := 25) (As := [.int r6, .int r8]) (st := []) (E_X6_isRow e11) rfl oX6_isRow iX6_isRow kX6_149 rfl (Nat.le_of_ble_eq_true rfl) ⟨Nat.le_of_ble_eq_true rfl, Nat.le_of_ble_eq_true rfl⟩ ⟨rfl, rfl⟩ dX6_doDestroy_25 (st2 := [.int r10]) rfl ?_
    refine go_if_ne (pc := 28) (tgt := 34) dX6_doDestroy_28 rfl (fun c12 => ?_) (fun c12 => ?_)
    · replace h := ifn h c12
      refine go_aload_n (pc := 34) dX6_doDestroy_34 rfl rfl ?_
      refine go_aload_n (pc := 35) dX6_doDestroy_35 rfl rfl ?_
      refine go_iconst (pc := 36) (v := 1) dX6_doDestroy_36 ci_1 ?_
      obtain ⟨r13, e14, h⟩ := ok_bind h
      refine go_cV (pc := 37) (ci := 6) (As := [.int 1]) (st := [.ref 0]) (E_X6_number e14) rfl oX6_number iX6_number sX6_number kX6_146 rfl (show TM 0 = (6 + 5, 29) from rfl) rfl (Nat.le_of_ble_eq_true rfl) ⟨Nat.le_of_ble_eq_true rfl, Nat.le_of_ble_eq_true rfl⟩ ⟨rfl, rfl⟩ dX6_doDestroy_37 (st2 := [.int r13, .ref 0]) rfl ?_
      refine go_aload_n (pc := 40) dX6_doDestroy_40 rfl rfl ?_
      refine go_iconst (pc := 41) (v := 2) dX6_doDestroy_41 ci_2 ?_
      obtain ⟨r15, e16, h⟩ := ok_bind h
      refine go_cV (pc := 42) (ci := 6) (As := [.int 2]) (st := [.int r13, .ref 0]) (E_X6_number e16) rfl oX6_number iX6_number sX6_number kX6_146 rfl (show TM 0 = (6 + 5, 29) from rfl) rfl (Nat.le_of_ble_eq_true rfl) ⟨Nat.le_of_ble_eq_true rfl, Nat.le_of_ble_eq_true rfl⟩ ⟨rfl, rfl⟩ dX6_doDestroy_42 (st2 := [.int r15, .int r13, .ref 0]) rfl ?_
      obtain ⟨r17, e18, h⟩ := ok_bind h
      refine go_cV (pc := 45) (ci := 6) (As := [.int r13, .int r15]) (st := []) (E_X6_areIds e18) rfl oX6_areIds iX6_areIds sX6_areIds kX6_152 rfl (show TM 0 = (6 + 5, 29) from rfl) rfl (Nat.le_of_ble_eq_true rfl) ⟨Nat.le_of_ble_eq_true rfl, Nat.le_of_ble_eq_true rfl⟩ ⟨rfl, rfl⟩ dX6_doDestroy_45 (st2 := [.int r17]) rfl ?_
      refine go_if_ne (pc := 48) (tgt := 54) dX6_doDestroy_48 rfl (fun c19 => ?_) (fun c19 => ?_)
      · replace h := ifn h c19
        refine go_aload_n (pc := 54) dX6_doDestroy_54 rfl rfl ?_
        refine go_aload_n (pc := 55) dX6_doDestroy_55 rfl rfl ?_
        refine go_iconst (pc := 56) (v := 1) dX6_doDestroy_56 ci_1 ?_
        obtain ⟨r20, e21, h⟩ := ok_bind h
        refine go_cV (pc := 57) (ci := 6) (As := [.int 1]) (st := [.ref 0]) (E_X6_number e21) rfl oX6_number iX6_number sX6_number kX6_146 rfl (show TM 0 = (6 + 5, 29) from rfl) rfl (Nat.le_of_ble_eq_true rfl) ⟨Nat.le_of_ble_eq_true rfl, Nat.le_of_ble_eq_true rfl⟩ ⟨rfl, rfl⟩ dX6_doDestroy_57 (st2 := [.int r20, .ref 0]) rfl ?_
        refine go_aload_n (pc := 60) dX6_doDestroy_60 rfl rfl ?_
        refine go_iconst (pc := 61) (v := 2) dX6_doDestroy_61 ci_2 ?_
        obtain ⟨r22, e23, h⟩ := ok_bind h
        refine go_cV (pc := 62) (ci := 6) (As := [.int 2]) (st := [.int r20, .ref 0]) (E_X6_number e23) rfl oX6_number iX6_number sX6_number kX6_146 rfl (show TM 0 = (6 + 5, 29) from rfl) rfl (Nat.le_of_ble_eq_true rfl) ⟨Nat.le_of_ble_eq_true rfl, Nat.le_of_ble_eq_true rfl⟩ ⟨rfl, rfl⟩ dX6_doDestroy_62 (st2 := [.int r22, .int r20, .ref 0]) rfl ?_
        obtain ⟨r24, e25, h⟩ := ok_bind h
        refine go_cV (pc := 65) (ci := 6) (As := [.int r20, .int r22]) (st := []) (E_X6_takeIds e25) rfl oX6_takeIds iX6_takeIds sX6_takeIds kX6_155 rfl (show TM 0 = (6 + 5, 29) from rfl) rfl (Nat.le_of_ble_eq_true rfl) ⟨Nat.le_of_ble_eq_true rfl, Nat.le_of_ble_eq_true rfl⟩ ⟨rfl, rfl⟩ dX6_doDestroy_65 (st2 := []) rfl ?_
        refine go_iconst (pc := 68) (v := 0) dX6_doDestroy_68 ci_0 ?_
        refine go_istore_n (pc := 69) (i := 2) dX6_doDestroy_69 rfl (Nat.le_of_ble_eq_true rfl) (L2 := [some (.ref 0), some (.int r1), some (.int 0), none]) rfl ?_
        exact gX6_doDestroy_b70 _ _ _ _ _  h
      · replace h := ifp h c19
        refine go_bipush (pc := 51) (v := (-5)) dX6_doDestroy_51 cb_m5 ?_
        cases h
        exact go_iret (pc := 53) (Or.inl rfl) ⟨Nat.zero_le _, Nat.zero_le _⟩ dX6_doDestroy_53
    · replace h := ifp h c12
      refine go_bipush (pc := 31) (v := (-2)) dX6_doDestroy_31 cb_m2 ?_
      cases h
      exact go_iret (pc := 33) (Or.inl rfl) ⟨Nat.zero_le _, Nat.zero_le _⟩ dX6_doDestroy_33
def eX6_doCall  (V : Mm) : Option (Int32 × Mm) :=
  if V 0 21 < 0 ∨ 12 ≤ (V 0 21).toNatClampNeg then none else
  if (V 5 ((V 0 21).toNatClampNeg)) = 0 then
    (eX6_doGet V).bind fun r5 =>
    some (r5.1, r5.2)
  else
  if (V 5 ((V 0 21).toNatClampNeg)) = 1 then
    (eX6_doQuery V).bind fun r8 =>
    some (r8.1, r8.2)
  else
  if (V 5 ((V 0 21).toNatClampNeg)) = 2 then
    (eX6_doChanges V).bind fun r11 =>
    some (r11.1, r11.2)
  else
  if (V 5 ((V 0 21).toNatClampNeg)) = 3 then
    (eX6_doMake V).bind fun r14 =>
    some (r14.1, r14.2)
  else
  if (V 5 ((V 0 21).toNatClampNeg)) = 4 then
    (eX6_doChange V).bind fun r17 =>
    some (r17.1, r17.2)
  else
  (eX6_doDestroy V).bind fun r2 =>
  some (r2.1, r2.2)
set_option maxHeartbeats 4000000 in
set_option maxRecDepth 100000 in
theorem E_X6_doCall  {V : Mm} {res : Int32 × Mm}  (h : eX6_doCall V = some res) : Ev mX6_doCall [.ref 0] (hM V) (some (.int res.1)) (hM res.2) := by
  refine Ev.of (n := 0) oX6_doCall.1 (Nat.le_of_ble_eq_true rfl) ?_
  unfold eX6_doCall at h
  show Go mX6_doCall 0 [some (.ref 0)] [] (hM V) 0 0 (some (.int res.1)) (hM res.2)
  refine go_aload_n (pc := 0) dX6_doCall_0 rfl rfl ?_
  refine go_getP (pc := 1) (a := 5) fX6_22 (by decide) (show TM 0 = (6 + 5, 29) from rfl) rfl dX6_doCall_1 ?_
  refine go_aload_n (pc := 4) dX6_doCall_4 rfl rfl ?_
  refine go_gI (pc := 5) (v := V 0 21) fX6_129 (by decide) (show TM 0 = (6 + 5, 29) from rfl) dX6_doCall_5 rfl ?_
  obtain ⟨c1, h⟩ := ok_not h
  refine go_ia (pc := 8) (v := V 5 ((V 0 21).toNatClampNeg)) (show TM 5 = (0, 12) from rfl) (vin c1) dX6_doCall_8 rfl ?_
  by_cases c4 : (V 5 ((V 0 21).toNatClampNeg)) = 0
  · replace h := ifp h c4
    refine go_tabIn (pc := 9) (tgt := 44) dX6_doCall_9 (by rw [c4]; decide) (by rw [c4]; decide) (off := 35) (by rw [c4]; rfl) rfl ?_
    refine go_aload_n (pc := 44) dX6_doCall_44 rfl rfl ?_
    obtain ⟨r5, e6, h⟩ := ok_bind h
    refine go_cV (pc := 45) (ci := 6) (As := []) (st := []) (E_X6_doGet e6) rfl oX6_doGet iX6_doGet sX6_doGet kX6_230 rfl (show TM 0 = (6 + 5, 29) from rfl) rfl (Nat.le_of_ble_eq_true rfl) ⟨Nat.le_of_ble_eq_true rfl, Nat.le_of_ble_eq_true rfl⟩ ⟨rfl, rfl⟩ dX6_doCall_45 (st2 := [.int r5.1]) rfl ?_
    cases h
    exact go_iret (pc := 48) (Or.inl rfl) ⟨Nat.zero_le _, Nat.zero_le _⟩ dX6_doCall_48
  replace h := ifn h c4
  by_cases c7 : (V 5 ((V 0 21).toNatClampNeg)) = 1
  · replace h := ifp h c7
    refine go_tabIn (pc := 9) (tgt := 49) dX6_doCall_9 (by rw [c7]; decide) (by rw [c7]; decide) (off := 40) (by rw [c7]; rfl) rfl ?_
    refine go_aload_n (pc := 49) dX6_doCall_49 rfl rfl ?_
    obtain ⟨r8, e9, h⟩ := ok_bind h
    refine go_cV (pc := 50) (ci := 6) (As := []) (st := []) (E_X6_doQuery e9) rfl oX6_doQuery iX6_doQuery sX6_doQuery kX6_233 rfl (show TM 0 = (6 + 5, 29) from rfl) rfl (Nat.le_of_ble_eq_true rfl) ⟨Nat.le_of_ble_eq_true rfl, Nat.le_of_ble_eq_true rfl⟩ ⟨rfl, rfl⟩ dX6_doCall_50 (st2 := [.int r8.1]) rfl ?_
    cases h
    exact go_iret (pc := 53) (Or.inl rfl) ⟨Nat.zero_le _, Nat.zero_le _⟩ dX6_doCall_53
  replace h := ifn h c7
  by_cases c10 : (V 5 ((V 0 21).toNatClampNeg)) = 2
  · replace h := ifp h c10
    refine go_tabIn (pc := 9) (tgt := 54) dX6_doCall_9 (by rw [c10]; decide) (by rw [c10]; decide) (off := 45) (by rw [c10]; rfl) rfl ?_
    refine go_aload_n (pc := 54) dX6_doCall_54 rfl rfl ?_
    obtain ⟨r11, e12, h⟩ := ok_bind h
    refine go_cV (pc := 55) (ci := 6) (As := []) (st := []) (E_X6_doChanges e12) rfl oX6_doChanges iX6_doChanges sX6_doChanges kX6_236 rfl (show TM 0 = (6 + 5, 29) from rfl) rfl (Nat.le_of_ble_eq_true rfl) ⟨Nat.le_of_ble_eq_true rfl, Nat.le_of_ble_eq_true rfl⟩ ⟨rfl, rfl⟩ dX6_doCall_55 (st2 := [.int r11.1]) rfl ?_
    cases h
    exact go_iret (pc := 58) (Or.inl rfl) ⟨Nat.zero_le _, Nat.zero_le _⟩ dX6_doCall_58
  replace h := ifn h c10
  by_cases c13 : (V 5 ((V 0 21).toNatClampNeg)) = 3
  · replace h := ifp h c13
    refine go_tabIn (pc := 9) (tgt := 59) dX6_doCall_9 (by rw [c13]; decide) (by rw [c13]; decide) (off := 50) (by rw [c13]; rfl) rfl ?_
    refine go_aload_n (pc := 59) dX6_doCall_59 rfl rfl ?_
    obtain ⟨r14, e15, h⟩ := ok_bind h
    refine go_cV (pc := 60) (ci := 6) (As := []) (st := []) (E_X6_doMake e15) rfl oX6_doMake iX6_doMake sX6_doMake kX6_239 rfl (show TM 0 = (6 + 5, 29) from rfl) rfl (Nat.le_of_ble_eq_true rfl) ⟨Nat.le_of_ble_eq_true rfl, Nat.le_of_ble_eq_true rfl⟩ ⟨rfl, rfl⟩ dX6_doCall_60 (st2 := [.int r14.1]) rfl ?_
    cases h
    exact go_iret (pc := 63) (Or.inl rfl) ⟨Nat.zero_le _, Nat.zero_le _⟩ dX6_doCall_63
  replace h := ifn h c13
  by_cases c16 : (V 5 ((V 0 21).toNatClampNeg)) = 4
  · replace h := ifp h c16
    refine go_tabIn (pc := 9) (tgt := 64) dX6_doCall_9 (by rw [c16]; decide) (by rw [c16]; decide) (off := 55) (by rw [c16]; rfl) rfl ?_
    refine go_aload_n (pc := 64) dX6_doCall_64 rfl rfl ?_
    obtain ⟨r17, e18, h⟩ := ok_bind h
    refine go_cV (pc := 65) (ci := 6) (As := []) (st := []) (E_X6_doChange e18) rfl oX6_doChange iX6_doChange sX6_doChange kX6_242 rfl (show TM 0 = (6 + 5, 29) from rfl) rfl (Nat.le_of_ble_eq_true rfl) ⟨Nat.le_of_ble_eq_true rfl, Nat.le_of_ble_eq_true rfl⟩ ⟨rfl, rfl⟩ dX6_doCall_65 (st2 := [.int r17.1]) rfl ?_
    cases h
    exact go_iret (pc := 68) (Or.inl rfl) ⟨Nat.zero_le _, Nat.zero_le _⟩ dX6_doCall_68
  replace h := ifn h c16
  have hh19 : (V 5 ((V 0 21).toNatClampNeg) : Int32).toInt < 0 ∨ 4 < (V 5 ((V 0 21).toNatClampNeg) : Int32).toInt := by
    have nc4 := nti (K := 0) c4 (by decide)
    have nc7 := nti (K := 1) c7 (by decide)
    have nc10 := nti (K := 2) c10 (by decide)
    have nc13 := nti (K := 3) c13 (by decide)
    have nc16 := nti (K := 4) c16 (by decide)
    omega
  refine go_tabOut (pc := 9) (tgt := 69) dX6_doCall_9 hh19 rfl ?_
  refine go_aload_n (pc := 69) dX6_doCall_69 rfl rfl ?_
  obtain ⟨r2, e3, h⟩ := ok_bind h
  refine go_cV (pc := 70) (ci := 6) (As := []) (st := []) (E_X6_doDestroy e3) rfl oX6_doDestroy iX6_doDestroy sX6_doDestroy kX6_245 rfl (show TM 0 = (6 + 5, 29) from rfl) rfl (Nat.le_of_ble_eq_true rfl) ⟨Nat.le_of_ble_eq_true rfl, Nat.le_of_ble_eq_true rfl⟩ ⟨rfl, rfl⟩ dX6_doCall_70 (st2 := [.int r2.1]) rfl ?_
  cases h
  exact go_iret (pc := 73) (Or.inl rfl) ⟨Nat.zero_le _, Nat.zero_le _⟩ dX6_doCall_73
def eX6_keepEntries_b80 : Nat → Int32 → Mm → Option (Mm)
  | 0, _, _ => none
  | n + 1, l1, V => 
    if 3 ≤ l1 then
      some (wr V 18 243 (V 0 13))
    else
      if l1 < 0 ∨ 3 ≤ l1.toNatClampNeg then none else
      if (240 + l1) < 0 ∨ 244 ≤ (240 + l1).toNatClampNeg then none else
      eX6_keepEntries_b80 n (l1 + 1) (wr V 18 ((240 + l1).toNatClampNeg) (V 15 l1.toNatClampNeg))
set_option maxHeartbeats 4000000 in
set_option maxRecDepth 100000 in
theorem gX6_keepEntries_b80 : ∀ (n : Nat) (l1 : Int32) (V : Mm) (res : Mm) , eX6_keepEntries_b80 n l1 V = some res → Go mX6_keepEntries 80 [some (.ref 0), some (.int l1)] [] (hM V) 0 0 none (hM res) := by
  intro n
  induction n with
  | zero =>
    intro l1 V res  h
    cases h
  | succ n ih =>
    intro l1 V res  h
    rw [eX6_keepEntries_b80] at h
    refine go_iload_n (pc := 80) dX6_keepEntries_80 rfl rfl ?_
    refine go_iconst (pc := 81) (v := 3) dX6_keepEntries_81 ci_3 ?_
    refine go_icmp_ge (pc := 82) (tgt := 107) dX6_keepEntries_82 rfl (fun c2 => ?_) (fun c2 => ?_)
    · replace h := ifp h c2
      refine go_aload_n (pc := 107) dX6_keepEntries_107 rfl rfl ?_
      refine go_getP (pc := 108) (a := 18) fX6_65 (by decide) (show TM 0 = (6 + 5, 29) from rfl) rfl dX6_keepEntries_108 ?_
      refine go_sipush (pc := 111) (v := 243) dX6_keepEntries_111 cs_243 ?_
      refine go_aload_n (pc := 114) dX6_keepEntries_114 rfl rfl ?_
      refine go_gI (pc := 115) (v := V 0 13) fX6_110 (by decide) (show TM 0 = (6 + 5, 29) from rfl) dX6_keepEntries_115 rfl ?_
      refine go_iast (pc := 118) (show TM 18 = (0, 244) from rfl) (vin (by decide)) dX6_keepEntries_118 ?_
      cases h
      exact go_vret (pc := 119) rfl ⟨Nat.zero_le _, Nat.zero_le _⟩ dX6_keepEntries_119
    · replace h := ifn h c2
      refine go_aload_n (pc := 85) dX6_keepEntries_85 rfl rfl ?_
      refine go_getP (pc := 86) (a := 18) fX6_65 (by decide) (show TM 0 = (6 + 5, 29) from rfl) rfl dX6_keepEntries_86 ?_
      refine go_sipush (pc := 89) (v := 240) dX6_keepEntries_89 cs_240 ?_
      refine go_iload_n (pc := 92) dX6_keepEntries_92 rfl rfl ?_
      refine go_iadd (pc := 93) dX6_keepEntries_93 ?_
      refine go_aload_n (pc := 94) dX6_keepEntries_94 rfl rfl ?_
      refine go_getP (pc := 95) (a := 15) fX6_56 (by decide) (show TM 0 = (6 + 5, 29) from rfl) rfl dX6_keepEntries_95 ?_
      refine go_iload_n (pc := 98) dX6_keepEntries_98 rfl rfl ?_
      obtain ⟨c3, h⟩ := ok_not h
      refine go_ia (pc := 99) (v := V 15 l1.toNatClampNeg) (show TM 15 = (0, 3) from rfl) (vin c3) dX6_keepEntries_99 rfl ?_
      obtain ⟨c4, h⟩ := ok_not h
      refine go_iast (pc := 100) (show TM 18 = (0, 244) from rfl) (vin c4) dX6_keepEntries_100 ?_
      refine go_iinc (pc := 101) (v := (l1 + 1)) dX6_keepEntries_101 rfl (by rw [ci_1]) (Nat.le_of_ble_eq_true rfl) (L2 := [some (.ref 0), some (.int (l1 + 1))]) rfl ?_
      refine go_goto (pc := 104) (tgt := 80) dX6_keepEntries_104 rfl ?_
      exact ih _ _ _  h
def eX6_keepEntries_b2 : Nat → Int32 → Mm → Option (Mm)
  | 0, _, _ => none
  | n + 1, l1, V => 
    if (V 0 13) ≤ l1 then
      eX6_keepEntries_b80 fu 0 V
    else
      if l1 < 0 ∨ 60 ≤ l1.toNatClampNeg then none else
      if (4 * l1) < 0 ∨ 244 ≤ (4 * l1).toNatClampNeg then none else
      if l1 < 0 ∨ 60 ≤ l1.toNatClampNeg then none else
      if ((4 * l1) + 1) < 0 ∨ 244 ≤ ((4 * l1) + 1).toNatClampNeg then none else
      if l1 < 0 ∨ 60 ≤ l1.toNatClampNeg then none else
      if ((4 * l1) + 2) < 0 ∨ 244 ≤ ((4 * l1) + 2).toNatClampNeg then none else
      if l1 < 0 ∨ 60 ≤ l1.toNatClampNeg then none else
      if ((4 * l1) + 3) < 0 ∨ 244 ≤ ((4 * l1) + 3).toNatClampNeg then none else
      eX6_keepEntries_b2 n (l1 + 1) (wr (wr (wr (wr V 18 ((4 * l1).toNatClampNeg) (V 11 l1.toNatClampNeg)) 18 (((4 * l1) + 1).toNatClampNeg) (V 12 l1.toNatClampNeg)) 18 (((4 * l1) + 2).toNatClampNeg) (V 13 l1.toNatClampNeg)) 18 (((4 * l1) + 3).toNatClampNeg) (V 14 l1.toNatClampNeg))
set_option maxHeartbeats 4000000 in
set_option maxRecDepth 100000 in
theorem gX6_keepEntries_b2 : ∀ (n : Nat) (l1 : Int32) (V : Mm) (res : Mm) , eX6_keepEntries_b2 n l1 V = some res → Go mX6_keepEntries 2 [some (.ref 0), some (.int l1)] [] (hM V) 0 0 none (hM res) := by
  intro n
  induction n with
  | zero =>
    intro l1 V res  h
    cases h
  | succ n ih =>
    intro l1 V res  h
    rw [eX6_keepEntries_b2] at h
    refine go_iload_n (pc := 2) dX6_keepEntries_2 rfl rfl ?_
    refine go_aload_n (pc := 3) dX6_keepEntries_3 rfl rfl ?_
    refine go_gI (pc := 4) (v := V 0 13) fX6_110 (by decide) (show TM 0 = (6 + 5, 29) from rfl) dX6_keepEntries_4 rfl ?_
    refine go_icmp_ge (pc := 7) (tgt := 78) dX6_keepEntries_7 rfl (fun c1 => ?_) (fun c1 => ?_)
    · replace h := ifp h c1
      refine go_iconst (pc := 78) (v := 0) dX6_keepEntries_78 ci_0 ?_
      refine go_istore_n (pc := 79) (i := 1) dX6_keepEntries_79 rfl (Nat.le_of_ble_eq_true rfl) (L2 := [some (.ref 0), some (.int 0)]) rfl ?_
      exact gX6_keepEntries_b80 _ _ _ _  h
    · replace h := ifn h c1
      refine go_aload_n (pc := 10) dX6_keepEntries_10 rfl rfl ?_
      refine go_getP (pc := 11) (a := 18) fX6_65 (by decide) (show TM 0 = (6 + 5, 29) from rfl) rfl dX6_keepEntries_11 ?_
      refine go_iconst (pc := 14) (v := 4) dX6_keepEntries_14 ci_4 ?_
      refine go_iload_n (pc := 15) dX6_keepEntries_15 rfl rfl ?_
      refine go_imul (pc := 16) dX6_keepEntries_16 ?_
      refine go_aload_n (pc := 17) dX6_keepEntries_17 rfl rfl ?_
      refine go_getP (pc := 18) (a := 11) fX6_44 (by decide) (show TM 0 = (6 + 5, 29) from rfl) rfl dX6_keepEntries_18 ?_
      refine go_iload_n (pc := 21) dX6_keepEntries_21 rfl rfl ?_
      obtain ⟨c5, h⟩ := ok_not h
      refine go_ia (pc := 22) (v := V 11 l1.toNatClampNeg) (show TM 11 = (0, 60) from rfl) (vin c5) dX6_keepEntries_22 rfl ?_
      obtain ⟨c6, h⟩ := ok_not h
      refine go_iast (pc := 23) (show TM 18 = (0, 244) from rfl) (vin c6) dX6_keepEntries_23 ?_
      refine go_aload_n (pc := 24) dX6_keepEntries_24 rfl rfl ?_
      refine go_getP (pc := 25) (a := 18) fX6_65 (by decide) (show TM 0 = (6 + 5, 29) from rfl) rfl dX6_keepEntries_25 ?_
      refine go_iconst (pc := 28) (v := 4) dX6_keepEntries_28 ci_4 ?_
      refine go_iload_n (pc := 29) dX6_keepEntries_29 rfl rfl ?_
      refine go_imul (pc := 30) dX6_keepEntries_30 ?_
      refine go_iconst (pc := 31) (v := 1) dX6_keepEntries_31 ci_1 ?_
      refine go_iadd (pc := 32) dX6_keepEntries_32 ?_
      refine go_aload_n (pc := 33) dX6_keepEntries_33 rfl rfl ?_
      refine go_getP (pc := 34) (a := 12) fX6_47 (by decide) (show TM 0 = (6 + 5, 29) from rfl) rfl dX6_keepEntries_34 ?_
      refine go_iload_n (pc := 37) dX6_keepEntries_37 rfl rfl ?_
      obtain ⟨c7, h⟩ := ok_not h
      refine go_ia (pc := 38) (v := V 12 l1.toNatClampNeg) (show TM 12 = (0, 60) from rfl) (vin c7) dX6_keepEntries_38 rfl ?_
      obtain ⟨c8, h⟩ := ok_not h
      refine go_iast (pc := 39) (show TM 18 = (0, 244) from rfl) (vin c8) dX6_keepEntries_39 ?_
      refine go_aload_n (pc := 40) dX6_keepEntries_40 rfl rfl ?_
      refine go_getP (pc := 41) (a := 18) fX6_65 (by decide) (show TM 0 = (6 + 5, 29) from rfl) rfl dX6_keepEntries_41 ?_
      refine go_iconst (pc := 44) (v := 4) dX6_keepEntries_44 ci_4 ?_
      refine go_iload_n (pc := 45) dX6_keepEntries_45 rfl rfl ?_
      refine go_imul (pc := 46) dX6_keepEntries_46 ?_
      refine go_iconst (pc := 47) (v := 2) dX6_keepEntries_47 ci_2 ?_
      refine go_iadd (pc := 48) dX6_keepEntries_48 ?_
      refine go_aload_n (pc := 49) dX6_keepEntries_49 rfl rfl ?_
      refine go_getP (pc := 50) (a := 13) fX6_50 (by decide) (show TM 0 = (6 + 5, 29) from rfl) rfl dX6_keepEntries_50 ?_
      refine go_iload_n (pc := 53) dX6_keepEntries_53 rfl rfl ?_
      obtain ⟨c9, h⟩ := ok_not h
      refine go_ia (pc := 54) (v := V 13 l1.toNatClampNeg) (show TM 13 = (0, 60) from rfl) (vin c9) dX6_keepEntries_54 rfl ?_
      obtain ⟨c10, h⟩ := ok_not h
      refine go_iast (pc := 55) (show TM 18 = (0, 244) from rfl) (vin c10) dX6_keepEntries_55 ?_
      refine go_aload_n (pc := 56) dX6_keepEntries_56 rfl rfl ?_
      refine go_getP (pc := 57) (a := 18) fX6_65 (by decide) (show TM 0 = (6 + 5, 29) from rfl) rfl dX6_keepEntries_57 ?_
      refine go_iconst (pc := 60) (v := 4) dX6_keepEntries_60 ci_4 ?_
      refine go_iload_n (pc := 61) dX6_keepEntries_61 rfl rfl ?_
      refine go_imul (pc := 62) dX6_keepEntries_62 ?_
      refine go_iconst (pc := 63) (v := 3) dX6_keepEntries_63 ci_3 ?_
      refine go_iadd (pc := 64) dX6_keepEntries_64 ?_
      refine go_aload_n (pc := 65) dX6_keepEntries_65 rfl rfl ?_
      refine go_getP (pc := 66) (a := 14) fX6_53 (by decide) (show TM 0 = (6 + 5, 29) from rfl) rfl dX6_keepEntries_66 ?_
      refine go_iload_n (pc := 69) dX6_keepEntries_69 rfl rfl ?_
      obtain ⟨c11, h⟩ := ok_not h
      refine go_ia (pc := 70) (v := V 14 l1.toNatClampNeg) (show TM 14 = (0, 60) from rfl) (vin c11) dX6_keepEntries_70 rfl ?_
      obtain ⟨c12, h⟩ := ok_not h
      refine go_iast (pc := 71) (show TM 18 = (0, 244) from rfl) (vin c12) dX6_keepEntries_71 ?_
      refine go_iinc (pc := 72) (v := (l1 + 1)) dX6_keepEntries_72 rfl (by rw [ci_1]) (Nat.le_of_ble_eq_true rfl) (L2 := [some (.ref 0), some (.int (l1 + 1))]) rfl ?_
      refine go_goto (pc := 75) (tgt := 2) dX6_keepEntries_75 rfl ?_
      exact ih _ _ _  h
def eX6_keepEntries  (V : Mm) : Option (Mm) :=
  eX6_keepEntries_b2 fu 0 V
set_option maxHeartbeats 4000000 in
set_option maxRecDepth 100000 in
theorem E_X6_keepEntries  {V : Mm} {res : Mm}  (h : eX6_keepEntries V = some res) : Ev mX6_keepEntries [.ref 0] (hM V) none (hM res) := by
  refine Ev.of (n := 1) oX6_keepEntries.1 (Nat.le_of_ble_eq_true rfl) ?_
  unfold eX6_keepEntries at h
  show Go mX6_keepEntries 0 [some (.ref 0), none] [] (hM V) 0 0 none (hM res)
  refine go_iconst (pc := 0) (v := 0) dX6_keepEntries_0 ci_0 ?_
  refine go_istore_n (pc := 1) (i := 1) dX6_keepEntries_1 rfl (Nat.le_of_ble_eq_true rfl) (L2 := [some (.ref 0), some (.int 0)]) rfl ?_
  exact gX6_keepEntries_b2 _ _ _ _  h
def eX6_backToEntries_b92 : Nat → Int32 → Mm → Option (Mm)
  | 0, _, _ => none
  | n + 1, l1, V => 
    if 3 ≤ l1 then
      some V
    else
      if (240 + l1) < 0 ∨ 244 ≤ (240 + l1).toNatClampNeg then none else
      if l1 < 0 ∨ 3 ≤ l1.toNatClampNeg then none else
      eX6_backToEntries_b92 n (l1 + 1) (wr V 15 l1.toNatClampNeg (V 18 ((240 + l1).toNatClampNeg)))
set_option maxHeartbeats 4000000 in
set_option maxRecDepth 100000 in
theorem gX6_backToEntries_b92 : ∀ (n : Nat) (l1 : Int32) (V : Mm) (res : Mm) , eX6_backToEntries_b92 n l1 V = some res → Go mX6_backToEntries 92 [some (.ref 0), some (.int l1)] [] (hM V) 0 0 none (hM res) := by
  intro n
  induction n with
  | zero =>
    intro l1 V res  h
    cases h
  | succ n ih =>
    intro l1 V res  h
    rw [eX6_backToEntries_b92] at h
    refine go_iload_n (pc := 92) dX6_backToEntries_92 rfl rfl ?_
    refine go_iconst (pc := 93) (v := 3) dX6_backToEntries_93 ci_3 ?_
    refine go_icmp_ge (pc := 94) (tgt := 119) dX6_backToEntries_94 rfl (fun c2 => ?_) (fun c2 => ?_)
    · replace h := ifp h c2
      cases h
      exact go_vret (pc := 119) rfl ⟨Nat.zero_le _, Nat.zero_le _⟩ dX6_backToEntries_119
    · replace h := ifn h c2
      refine go_aload_n (pc := 97) dX6_backToEntries_97 rfl rfl ?_
      refine go_getP (pc := 98) (a := 15) fX6_56 (by decide) (show TM 0 = (6 + 5, 29) from rfl) rfl dX6_backToEntries_98 ?_
      refine go_iload_n (pc := 101) dX6_backToEntries_101 rfl rfl ?_
      refine go_aload_n (pc := 102) dX6_backToEntries_102 rfl rfl ?_
      refine go_getP (pc := 103) (a := 18) fX6_65 (by decide) (show TM 0 = (6 + 5, 29) from rfl) rfl dX6_backToEntries_103 ?_
      refine go_sipush (pc := 106) (v := 240) dX6_backToEntries_106 cs_240 ?_
      refine go_iload_n (pc := 109) dX6_backToEntries_109 rfl rfl ?_
      refine go_iadd (pc := 110) dX6_backToEntries_110 ?_
      obtain ⟨c3, h⟩ := ok_not h
      refine go_ia (pc := 111) (v := V 18 ((240 + l1).toNatClampNeg)) (show TM 18 = (0, 244) from rfl) (vin c3) dX6_backToEntries_111 rfl ?_
      obtain ⟨c4, h⟩ := ok_not h
      refine go_iast (pc := 112) (show TM 15 = (0, 3) from rfl) (vin c4) dX6_backToEntries_112 ?_
      refine go_iinc (pc := 113) (v := (l1 + 1)) dX6_backToEntries_113 rfl (by rw [ci_1]) (Nat.le_of_ble_eq_true rfl) (L2 := [some (.ref 0), some (.int (l1 + 1))]) rfl ?_
      refine go_goto (pc := 116) (tgt := 92) dX6_backToEntries_116 rfl ?_
      exact ih _ _ _  h
def eX6_backToEntries_b14 : Nat → Int32 → Mm → Option (Mm)
  | 0, _, _ => none
  | n + 1, l1, V => 
    if (V 0 13) ≤ l1 then
      eX6_backToEntries_b92 fu 0 V
    else
      if (4 * l1) < 0 ∨ 244 ≤ (4 * l1).toNatClampNeg then none else
      if l1 < 0 ∨ 60 ≤ l1.toNatClampNeg then none else
      if ((4 * l1) + 1) < 0 ∨ 244 ≤ ((4 * l1) + 1).toNatClampNeg then none else
      if l1 < 0 ∨ 60 ≤ l1.toNatClampNeg then none else
      if ((4 * l1) + 2) < 0 ∨ 244 ≤ ((4 * l1) + 2).toNatClampNeg then none else
      if l1 < 0 ∨ 60 ≤ l1.toNatClampNeg then none else
      if ((4 * l1) + 3) < 0 ∨ 244 ≤ ((4 * l1) + 3).toNatClampNeg then none else
      if l1 < 0 ∨ 60 ≤ l1.toNatClampNeg then none else
      eX6_backToEntries_b14 n (l1 + 1) (wr (wr (wr (wr V 11 l1.toNatClampNeg (V 18 ((4 * l1).toNatClampNeg))) 12 l1.toNatClampNeg (V 18 (((4 * l1) + 1).toNatClampNeg))) 13 l1.toNatClampNeg (V 18 (((4 * l1) + 2).toNatClampNeg))) 14 l1.toNatClampNeg (V 18 (((4 * l1) + 3).toNatClampNeg)))
set_option maxHeartbeats 4000000 in
set_option maxRecDepth 100000 in
theorem gX6_backToEntries_b14 : ∀ (n : Nat) (l1 : Int32) (V : Mm) (res : Mm) , eX6_backToEntries_b14 n l1 V = some res → Go mX6_backToEntries 14 [some (.ref 0), some (.int l1)] [] (hM V) 0 0 none (hM res) := by
  intro n
  induction n with
  | zero =>
    intro l1 V res  h
    cases h
  | succ n ih =>
    intro l1 V res  h
    rw [eX6_backToEntries_b14] at h
    refine go_iload_n (pc := 14) dX6_backToEntries_14 rfl rfl ?_
    refine go_aload_n (pc := 15) dX6_backToEntries_15 rfl rfl ?_
    refine go_gI (pc := 16) (v := V 0 13) fX6_110 (by decide) (show TM 0 = (6 + 5, 29) from rfl) dX6_backToEntries_16 rfl ?_
    refine go_icmp_ge (pc := 19) (tgt := 90) dX6_backToEntries_19 rfl (fun c1 => ?_) (fun c1 => ?_)
    · replace h := ifp h c1
      refine go_iconst (pc := 90) (v := 0) dX6_backToEntries_90 ci_0 ?_
      refine go_istore_n (pc := 91) (i := 1) dX6_backToEntries_91 rfl (Nat.le_of_ble_eq_true rfl) (L2 := [some (.ref 0), some (.int 0)]) rfl ?_
      exact gX6_backToEntries_b92 _ _ _ _  h
    · replace h := ifn h c1
      refine go_aload_n (pc := 22) dX6_backToEntries_22 rfl rfl ?_
      refine go_getP (pc := 23) (a := 11) fX6_44 (by decide) (show TM 0 = (6 + 5, 29) from rfl) rfl dX6_backToEntries_23 ?_
      refine go_iload_n (pc := 26) dX6_backToEntries_26 rfl rfl ?_
      refine go_aload_n (pc := 27) dX6_backToEntries_27 rfl rfl ?_
      refine go_getP (pc := 28) (a := 18) fX6_65 (by decide) (show TM 0 = (6 + 5, 29) from rfl) rfl dX6_backToEntries_28 ?_
      refine go_iconst (pc := 31) (v := 4) dX6_backToEntries_31 ci_4 ?_
      refine go_iload_n (pc := 32) dX6_backToEntries_32 rfl rfl ?_
      refine go_imul (pc := 33) dX6_backToEntries_33 ?_
      obtain ⟨c5, h⟩ := ok_not h
      refine go_ia (pc := 34) (v := V 18 ((4 * l1).toNatClampNeg)) (show TM 18 = (0, 244) from rfl) (vin c5) dX6_backToEntries_34 rfl ?_
      obtain ⟨c6, h⟩ := ok_not h
      refine go_iast (pc := 35) (show TM 11 = (0, 60) from rfl) (vin c6) dX6_backToEntries_35 ?_
      refine go_aload_n (pc := 36) dX6_backToEntries_36 rfl rfl ?_
      refine go_getP (pc := 37) (a := 12) fX6_47 (by decide) (show TM 0 = (6 + 5, 29) from rfl) rfl dX6_backToEntries_37 ?_
      refine go_iload_n (pc := 40) dX6_backToEntries_40 rfl rfl ?_
      refine go_aload_n (pc := 41) dX6_backToEntries_41 rfl rfl ?_
      refine go_getP (pc := 42) (a := 18) fX6_65 (by decide) (show TM 0 = (6 + 5, 29) from rfl) rfl dX6_backToEntries_42 ?_
      refine go_iconst (pc := 45) (v := 4) dX6_backToEntries_45 ci_4 ?_
      refine go_iload_n (pc := 46) dX6_backToEntries_46 rfl rfl ?_
      refine go_imul (pc := 47) dX6_backToEntries_47 ?_
      refine go_iconst (pc := 48) (v := 1) dX6_backToEntries_48 ci_1 ?_
      refine go_iadd (pc := 49) dX6_backToEntries_49 ?_
      obtain ⟨c7, h⟩ := ok_not h
      refine go_ia (pc := 50) (v := V 18 (((4 * l1) + 1).toNatClampNeg)) (show TM 18 = (0, 244) from rfl) (vin c7) dX6_backToEntries_50 rfl ?_
      obtain ⟨c8, h⟩ := ok_not h
      refine go_iast (pc := 51) (show TM 12 = (0, 60) from rfl) (vin c8) dX6_backToEntries_51 ?_
      refine go_aload_n (pc := 52) dX6_backToEntries_52 rfl rfl ?_
      refine go_getP (pc := 53) (a := 13) fX6_50 (by decide) (show TM 0 = (6 + 5, 29) from rfl) rfl dX6_backToEntries_53 ?_
      refine go_iload_n (pc := 56) dX6_backToEntries_56 rfl rfl ?_
      refine go_aload_n (pc := 57) dX6_backToEntries_57 rfl rfl ?_
      refine go_getP (pc := 58) (a := 18) fX6_65 (by decide) (show TM 0 = (6 + 5, 29) from rfl) rfl dX6_backToEntries_58 ?_
      refine go_iconst (pc := 61) (v := 4) dX6_backToEntries_61 ci_4 ?_
      refine go_iload_n (pc := 62) dX6_backToEntries_62 rfl rfl ?_
      refine go_imul (pc := 63) dX6_backToEntries_63 ?_
      refine go_iconst (pc := 64) (v := 2) dX6_backToEntries_64 ci_2 ?_
      refine go_iadd (pc := 65) dX6_backToEntries_65 ?_
      obtain ⟨c9, h⟩ := ok_not h
      refine go_ia (pc := 66) (v := V 18 (((4 * l1) + 2).toNatClampNeg)) (show TM 18 = (0, 244) from rfl) (vin c9) dX6_backToEntries_66 rfl ?_
      obtain ⟨c10, h⟩ := ok_not h
      refine go_iast (pc := 67) (show TM 13 = (0, 60) from rfl) (vin c10) dX6_backToEntries_67 ?_
      refine go_aload_n (pc := 68) dX6_backToEntries_68 rfl rfl ?_
      refine go_getP (pc := 69) (a := 14) fX6_53 (by decide) (show TM 0 = (6 + 5, 29) from rfl) rfl dX6_backToEntries_69 ?_
      refine go_iload_n (pc := 72) dX6_backToEntries_72 rfl rfl ?_
      refine go_aload_n (pc := 73) dX6_backToEntries_73 rfl rfl ?_
      refine go_getP (pc := 74) (a := 18) fX6_65 (by decide) (show TM 0 = (6 + 5, 29) from rfl) rfl dX6_backToEntries_74 ?_
      refine go_iconst (pc := 77) (v := 4) dX6_backToEntries_77 ci_4 ?_
      refine go_iload_n (pc := 78) dX6_backToEntries_78 rfl rfl ?_
      refine go_imul (pc := 79) dX6_backToEntries_79 ?_
      refine go_iconst (pc := 80) (v := 3) dX6_backToEntries_80 ci_3 ?_
      refine go_iadd (pc := 81) dX6_backToEntries_81 ?_
      obtain ⟨c11, h⟩ := ok_not h
      refine go_ia (pc := 82) (v := V 18 (((4 * l1) + 3).toNatClampNeg)) (show TM 18 = (0, 244) from rfl) (vin c11) dX6_backToEntries_82 rfl ?_
      obtain ⟨c12, h⟩ := ok_not h
      refine go_iast (pc := 83) (show TM 14 = (0, 60) from rfl) (vin c12) dX6_backToEntries_83 ?_
      refine go_iinc (pc := 84) (v := (l1 + 1)) dX6_backToEntries_84 rfl (by rw [ci_1]) (Nat.le_of_ble_eq_true rfl) (L2 := [some (.ref 0), some (.int (l1 + 1))]) rfl ?_
      refine go_goto (pc := 87) (tgt := 14) dX6_backToEntries_87 rfl ?_
      exact ih _ _ _  h
def eX6_backToEntries  (V : Mm) : Option (Mm) :=
  eX6_backToEntries_b14 fu 0 (wr V 0 13 (V 18 243))
set_option maxHeartbeats 4000000 in
set_option maxRecDepth 100000 in
theorem E_X6_backToEntries  {V : Mm} {res : Mm}  (h : eX6_backToEntries V = some res) : Ev mX6_backToEntries [.ref 0] (hM V) none (hM res) := by
  refine Ev.of (n := 1) oX6_backToEntries.1 (Nat.le_of_ble_eq_true rfl) ?_
  unfold eX6_backToEntries at h
  show Go mX6_backToEntries 0 [some (.ref 0), none] [] (hM V) 0 0 none (hM res)
  refine go_aload_n (pc := 0) dX6_backToEntries_0 rfl rfl ?_
  refine go_aload_n (pc := 1) dX6_backToEntries_1 rfl rfl ?_
  refine go_getP (pc := 2) (a := 18) fX6_65 (by decide) (show TM 0 = (6 + 5, 29) from rfl) rfl dX6_backToEntries_2 ?_
  refine go_sipush (pc := 5) (v := 243) dX6_backToEntries_5 cs_243 ?_
  refine go_ia (pc := 8) (v := V 18 243) (show TM 18 = (0, 244) from rfl) (vin (by decide)) dX6_backToEntries_8 rfl ?_
  refine go_putI (pc := 9) (k := 13) fX6_110 (Or.inl rfl) (Or.inl rfl) (show TM 0 = (6 + 5, 29) from rfl) dX6_backToEntries_9 ?_
  refine go_iconst (pc := 12) (v := 0) dX6_backToEntries_12 ci_0 ?_
  refine go_istore_n (pc := 13) (i := 1) dX6_backToEntries_13 rfl (Nat.le_of_ble_eq_true rfl) (L2 := [some (.ref 0), some (.int 0)]) rfl ?_
  exact gX6_backToEntries_b14 _ _ _ _  h
def eX6_run_b53 : Nat → Int32 → Int32 → Int32 → Mm → Option (Int32 × Mm)
  | 0, _, _, _, _ => none
  | n + 1, l1, l2, l3, V => 
    if l2 ≤ (V 0 21) then
      if (V 0 8) = (-9) then
        some (l3, (wr (wr V 0 4 0) 0 9 l1))
      else
        (eX6_copy 3 1 (wr (wr (wr (wr V 0 4 0) 0 9 l1) 0 8 (-9)) 0 9 0)).bind fun r8 =>
        (eX6_backToEntries r8).bind fun r10 =>
        some ((-9), r10)
    else
      (eX6_copy 1 2 V).bind fun r12 =>
      (eX6_clearRows (r12 0 21) r12).bind fun r14 =>
      (eX6_doCall r14).bind fun r16 =>
      if r14 0 21 < 0 ∨ 12 ≤ (r14 0 21).toNatClampNeg then none else
      if r16.2 0 21 < 0 ∨ 12 ≤ (r16.2 0 21).toNatClampNeg then none else
      if ((wr r16.2 8 ((r14 0 21).toNatClampNeg) r16.1) 8 ((r16.2 0 21).toNatClampNeg)) = 0 then
        (eX6_settle (wr r16.2 8 ((r14 0 21).toNatClampNeg) r16.1)).bind fun r25 =>
        eX6_run_b53 n l1 l2 (l3 + 1) (wr r25 0 21 ((r25 0 21) + 1))
      else
        (eX6_clearRows (r16.2 0 21) (wr r16.2 8 ((r14 0 21).toNatClampNeg) r16.1)).bind fun r21 =>
        (eX6_copy 2 1 r21).bind fun r23 =>
        eX6_run_b53 n l1 l2 l3 (wr r23 0 21 ((r23 0 21) + 1))
set_option maxHeartbeats 4000000 in
set_option maxRecDepth 100000 in
theorem gX6_run_b53 : ∀ (n : Nat) (l1 : Int32) (l2 : Int32) (l3 : Int32) (V : Mm) (res : Int32 × Mm) , eX6_run_b53 n l1 l2 l3 V = some res → Go mX6_run 53 [some (.ref 0), some (.int l1), some (.int l2), some (.int l3)] [] (hM V) 0 0 (some (.int res.1)) (hM res.2) := by
  intro n
  induction n with
  | zero =>
    intro l1 l2 l3 V res  h
    cases h
  | succ n ih =>
    intro l1 l2 l3 V res  h
    rw [eX6_run_b53] at h
    refine go_aload_n (pc := 53) dX6_run_53 rfl rfl ?_
    refine go_gI (pc := 54) (v := V 0 21) fX6_129 (by decide) (show TM 0 = (6 + 5, 29) from rfl) dX6_run_54 rfl ?_
    refine go_iload_n (pc := 57) dX6_run_57 rfl rfl ?_
    refine go_icmp_ge (pc := 58) (tgt := 147) dX6_run_58 rfl (fun c6 => ?_) (fun c6 => ?_)
    · replace h := ifp h c6
      refine go_aload_n (pc := 147) dX6_run_147 rfl rfl ?_
      refine go_iconst (pc := 148) (v := 0) dX6_run_148 ci_0 ?_
      refine go_putI (pc := 149) (k := 4) fX6_103 (Or.inl rfl) (Or.inl rfl) (show TM 0 = (6 + 5, 29) from rfl) dX6_run_149 ?_
      refine go_aload_n (pc := 152) dX6_run_152 rfl rfl ?_
      refine go_iload_n (pc := 153) dX6_run_153 rfl rfl ?_
      refine go_putI (pc := 154) (k := 9) fX6_265 (Or.inl rfl) (Or.inl rfl) (show TM 0 = (6 + 5, 29) from rfl) dX6_run_154 ?_
      refine go_aload_n (pc := 157) dX6_run_157 rfl rfl ?_
      refine go_gI (pc := 158) (v := V 0 8) fX6_31 (by decide) (show TM 0 = (6 + 5, 29) from rfl) dX6_run_158 rfl ?_
      refine go_bipush (pc := 161) (v := (-9)) dX6_run_161 cb_m9 ?_
      refine go_icmp_eq (pc := 163) (tgt := 195) dX6_run_163 rfl (fun c7 => ?_) (fun c7 => ?_)
      · replace h := ifp h c7
        refine go_iload_n (pc := 195) dX6_run_195 rfl rfl ?_
        cases h
        exact go_iret (pc := 196) (Or.inl rfl) ⟨Nat.zero_le _, Nat.zero_le _⟩ dX6_run_196
      · replace h := ifn h c7
        refine go_aload_n (pc := 166) dX6_run_166 rfl rfl ?_
        refine go_bipush (pc := 167) (v := (-9)) dX6_run_167 cb_m9 ?_
        refine go_putI (pc := 169) (k := 8) fX6_31 (Or.inl rfl) (Or.inl rfl) (show TM 0 = (6 + 5, 29) from rfl) dX6_run_169 ?_
        refine go_aload_n (pc := 172) dX6_run_172 rfl rfl ?_
        refine go_iconst (pc := 173) (v := 0) dX6_run_173 ci_0 ?_
        refine go_putI (pc := 174) (k := 9) fX6_265 (Or.inl rfl) (Or.inl rfl) (show TM 0 = (6 + 5, 29) from rfl) dX6_run_174 ?_
        refine go_aload_n (pc := 177) dX6_run_177 rfl rfl ?_
        refine go_getP (pc := 178) (a := 3) fX6_16 (by decide) (show TM 0 = (6 + 5, 29) from rfl) rfl dX6_run_178 ?_
        refine go_aload_n (pc := 181) dX6_run_181 rfl rfl ?_
        refine go_getP (pc := 182) (a := 1) fX6_7 (by decide) (show TM 0 = (6 + 5, 29) from rfl) rfl dX6_run_182 ?_
        obtain ⟨r8, e9, h⟩ := ok_bind h
        refine go_cS (pc := 185) (As := [.ref 3, .ref 1]) (st := []) (E_X6_copy isW_3 isW_1 e9) rfl oX6_copy iX6_copy kX6_248 rfl (Nat.le_of_ble_eq_true rfl) ⟨Nat.le_of_ble_eq_true rfl, Nat.le_of_ble_eq_true rfl⟩ ⟨rfl, rfl⟩ dX6_run_185 (st2 := []) rfl ?_
        refine go_aload_n (pc := 188) dX6_run_188 rfl rfl ?_
        obtain ⟨r10, e11, h⟩ := ok_bind h
        refine go_cV (pc := 189) (ci := 6) (As := []) (st := []) (E_X6_backToEntries e11) rfl oX6_backToEntries iX6_backToEntries sX6_backToEntries kX6_268 rfl (show TM 0 = (6 + 5, 29) from rfl) rfl (Nat.le_of_ble_eq_true rfl) ⟨Nat.le_of_ble_eq_true rfl, Nat.le_of_ble_eq_true rfl⟩ ⟨rfl, rfl⟩ dX6_run_189 (st2 := []) rfl ?_
        refine go_bipush (pc := 192) (v := (-9)) dX6_run_192 cb_m9 ?_
        cases h
        exact go_iret (pc := 194) (Or.inl rfl) ⟨Nat.zero_le _, Nat.zero_le _⟩ dX6_run_194
    · replace h := ifn h c6
      refine go_aload_n (pc := 61) dX6_run_61 rfl rfl ?_
      refine go_getP (pc := 62) (a := 1) fX6_7 (by decide) (show TM 0 = (6 + 5, 29) from rfl) rfl dX6_run_62 ?_
      refine go_aload_n (pc := 65) dX6_run_65 rfl rfl ?_
      refine go_getP (pc := 66) (a := 2) fX6_13 (by decide) (show TM 0 = (6 + 5, 29) from rfl) rfl dX6_run_66 ?_
      obtain ⟨r12, e13, h⟩ := ok_bind h
      refine go_cS (pc := 69) (As := [.ref 1, .ref 2]) (st := []) (E_X6_copy isW_1 isW_2 e13) rfl oX6_copy iX6_copy kX6_248 rfl (Nat.le_of_ble_eq_true rfl) ⟨Nat.le_of_ble_eq_true rfl, Nat.le_of_ble_eq_true rfl⟩ ⟨rfl, rfl⟩ dX6_run_69 (st2 := []) rfl ?_
      refine go_aload_n (pc := 72) dX6_run_72 rfl rfl ?_
      refine go_aload_n (pc := 73) dX6_run_73 rfl rfl ?_
      refine go_gI (pc := 74) (v := r12 0 21) fX6_129 (by decide) (show TM 0 = (6 + 5, 29) from rfl) dX6_run_74 rfl ?_
      obtain ⟨r14, e15, h⟩ := ok_bind h
      refine go_cV (pc := 77) (ci := 6) (As := [.int (r12 0 21)]) (st := []) (E_X6_clearRows e15) rfl oX6_clearRows iX6_clearRows sX6_clearRows kX6_255 rfl (show TM 0 = (6 + 5, 29) from rfl) rfl (Nat.le_of_ble_eq_true rfl) ⟨Nat.le_of_ble_eq_true rfl, Nat.le_of_ble_eq_true rfl⟩ ⟨rfl, rfl⟩ dX6_run_77 (st2 := []) rfl ?_
      refine go_aload_n (pc := 80) dX6_run_80 rfl rfl ?_
      refine go_getP (pc := 81) (a := 8) fX6_35 (by decide) (show TM 0 = (6 + 5, 29) from rfl) rfl dX6_run_81 ?_
      refine go_aload_n (pc := 84) dX6_run_84 rfl rfl ?_
      refine go_gI (pc := 85) (v := r14 0 21) fX6_129 (by decide) (show TM 0 = (6 + 5, 29) from rfl) dX6_run_85 rfl ?_
      refine go_aload_n (pc := 88) dX6_run_88 rfl rfl ?_
      obtain ⟨r16, e17, h⟩ := ok_bind h
      refine go_cV (pc := 89) (ci := 6) (As := []) (st := [.int (r14 0 21), .ref 8]) (E_X6_doCall e17) rfl oX6_doCall iX6_doCall sX6_doCall kX6_259 rfl (show TM 0 = (6 + 5, 29) from rfl) rfl (Nat.le_of_ble_eq_true rfl) ⟨Nat.le_of_ble_eq_true rfl, Nat.le_of_ble_eq_true rfl⟩ ⟨rfl, rfl⟩ dX6_run_89 (st2 := [.int r16.1, .int (r14 0 21), .ref 8]) rfl ?_
      obtain ⟨c18, h⟩ := ok_not h
      refine go_iast (pc := 92) (show TM 8 = (0, 12) from rfl) (vin c18) dX6_run_92 ?_
      refine go_aload_n (pc := 93) dX6_run_93 rfl rfl ?_
      refine go_getP (pc := 94) (a := 8) fX6_35 (by decide) (show TM 0 = (6 + 5, 29) from rfl) rfl dX6_run_94 ?_
      refine go_aload_n (pc := 97) dX6_run_97 rfl rfl ?_
      refine go_gI (pc := 98) (v := r16.2 0 21) fX6_129 (by decide) (show TM 0 = (6 + 5, 29) from rfl) dX6_run_98 rfl ?_
      obtain ⟨c19, h⟩ := ok_not h
      refine go_ia (pc := 101) (v := (wr r16.2 8 ((r14 0 21).toNatClampNeg) r16.1) 8 ((r16.2 0 21).toNatClampNeg)) (show TM 8 = (0, 12) from rfl) (vin c19) dX6_run_101 rfl ?_
      refine go_if_ne (pc := 102) (tgt := 115) dX6_run_102 rfl (fun c20 => ?_) (fun c20 => ?_)
      · replace h := ifn h c20
        refine go_aload_n (pc := 115) dX6_run_115 rfl rfl ?_
        refine go_aload_n (pc := 116) dX6_run_116 rfl rfl ?_
        refine go_gI (pc := 117) (v := r16.2 0 21) fX6_129 (by decide) (show TM 0 = (6 + 5, 29) from rfl) dX6_run_117 rfl ?_
        obtain ⟨r21, e22, h⟩ := ok_bind h
        refine go_cV (pc := 120) (ci := 6) (As := [.int (r16.2 0 21)]) (st := []) (E_X6_clearRows e22) rfl oX6_clearRows iX6_clearRows sX6_clearRows kX6_255 rfl (show TM 0 = (6 + 5, 29) from rfl) rfl (Nat.le_of_ble_eq_true rfl) ⟨Nat.le_of_ble_eq_true rfl, Nat.le_of_ble_eq_true rfl⟩ ⟨rfl, rfl⟩ dX6_run_120 (st2 := []) rfl ?_
        refine go_aload_n (pc := 123) dX6_run_123 rfl rfl ?_
        refine go_getP (pc := 124) (a := 2) fX6_13 (by decide) (show TM 0 = (6 + 5, 29) from rfl) rfl dX6_run_124 ?_
        refine go_aload_n (pc := 127) dX6_run_127 rfl rfl ?_
        refine go_getP (pc := 128) (a := 1) fX6_7 (by decide) (show TM 0 = (6 + 5, 29) from rfl) rfl dX6_run_128 ?_
        obtain ⟨r23, e24, h⟩ := ok_bind h
        refine go_cS (pc := 131) (As := [.ref 2, .ref 1]) (st := []) (E_X6_copy isW_2 isW_1 e24) rfl oX6_copy iX6_copy kX6_248 rfl (Nat.le_of_ble_eq_true rfl) ⟨Nat.le_of_ble_eq_true rfl, Nat.le_of_ble_eq_true rfl⟩ ⟨rfl, rfl⟩ dX6_run_131 (st2 := []) rfl ?_
        refine go_aload_n (pc := 134) dX6_run_134 rfl rfl ?_
        refine go_dup (pc := 135) dX6_run_135 ?_
        refine go_gI (pc := 136) (v := r23 0 21) fX6_129 (by decide) (show TM 0 = (6 + 5, 29) from rfl) dX6_run_136 rfl ?_
        refine go_iconst (pc := 139) (v := 1) dX6_run_139 ci_1 ?_
        refine go_iadd (pc := 140) dX6_run_140 ?_
        refine go_putI (pc := 141) (k := 21) fX6_129 (Or.inl rfl) (Or.inl rfl) (show TM 0 = (6 + 5, 29) from rfl) dX6_run_141 ?_
        refine go_goto (pc := 144) (tgt := 53) dX6_run_144 rfl ?_
        exact ih _ _ _ _ _  h
      · replace h := ifp h c20
        refine go_iinc (pc := 105) (v := (l3 + 1)) dX6_run_105 rfl (by rw [ci_1]) (Nat.le_of_ble_eq_true rfl) (L2 := [some (.ref 0), some (.int l1), some (.int l2), some (.int (l3 + 1))]) rfl ?_
        refine go_aload_n (pc := 108) dX6_run_108 rfl rfl ?_
        obtain ⟨r25, e26, h⟩ := ok_bind h
        refine go_cV (pc := 109) (ci := 6) (As := []) (st := []) (E_X6_settle e26) rfl oX6_settle iX6_settle sX6_settle kX6_262 rfl (show TM 0 = (6 + 5, 29) from rfl) rfl (Nat.le_of_ble_eq_true rfl) ⟨Nat.le_of_ble_eq_true rfl, Nat.le_of_ble_eq_true rfl⟩ ⟨rfl, rfl⟩ dX6_run_109 (st2 := []) rfl ?_
        refine go_goto (pc := 112) (tgt := 134) dX6_run_112 rfl ?_
        refine go_aload_n (pc := 134) dX6_run_134 rfl rfl ?_
        refine go_dup (pc := 135) dX6_run_135 ?_
        refine go_gI (pc := 136) (v := r25 0 21) fX6_129 (by decide) (show TM 0 = (6 + 5, 29) from rfl) dX6_run_136 rfl ?_
        refine go_iconst (pc := 139) (v := 1) dX6_run_139 ci_1 ?_
        refine go_iadd (pc := 140) dX6_run_140 ?_
        refine go_putI (pc := 141) (k := 21) fX6_129 (Or.inl rfl) (Or.inl rfl) (show TM 0 = (6 + 5, 29) from rfl) dX6_run_141 ?_
        refine go_goto (pc := 144) (tgt := 53) dX6_run_144 rfl ?_
        exact ih _ _ _ _ _  h
def eX6_run  (V : Mm) : Option (Int32 × Mm) :=
  (eX6_copy 1 3 V).bind fun r1 =>
  (eX6_keepEntries r1).bind fun r3 =>
  if (r3 0 8) = (-9) then
    eX6_run_b53 fu (r3 0 4) (r3 0 4) 0 (wr r3 0 21 0)
  else
    if (r3 0 4) ≤ (r3 0 8) then
      eX6_run_b53 fu (r3 0 4) (r3 0 4) 0 (wr r3 0 21 0)
    else
      eX6_run_b53 fu (r3 0 4) (r3 0 8) 0 (wr r3 0 21 0)
set_option maxHeartbeats 4000000 in
set_option maxRecDepth 100000 in
theorem E_X6_run  {V : Mm} {res : Int32 × Mm}  (h : eX6_run V = some res) : Ev mX6_run [.ref 0] (hM V) (some (.int res.1)) (hM res.2) := by
  refine Ev.of (n := 3) oX6_run.1 (Nat.le_of_ble_eq_true rfl) ?_
  unfold eX6_run at h
  show Go mX6_run 0 [some (.ref 0), none, none, none] [] (hM V) 0 0 (some (.int res.1)) (hM res.2)
  refine go_aload_n (pc := 0) dX6_run_0 rfl rfl ?_
  refine go_getP (pc := 1) (a := 1) fX6_7 (by decide) (show TM 0 = (6 + 5, 29) from rfl) rfl dX6_run_1 ?_
  refine go_aload_n (pc := 4) dX6_run_4 rfl rfl ?_
  refine go_getP (pc := 5) (a := 3) fX6_16 (by decide) (show TM 0 = (6 + 5, 29) from rfl) rfl dX6_run_5 ?_
  obtain ⟨r1, e2, h⟩ := ok_bind h
  refine go_cS (pc := 8) (As := [.ref 1, .ref 3]) (st := []) (E_X6_copy isW_1 isW_3 e2) rfl oX6_copy iX6_copy kX6_248 rfl (Nat.le_of_ble_eq_true rfl) ⟨Nat.le_of_ble_eq_true rfl, Nat.le_of_ble_eq_true rfl⟩ ⟨rfl, rfl⟩ dX6_run_8 (st2 := []) rfl ?_
  refine go_aload_n (pc := 11) dX6_run_11 rfl rfl ?_
  obtain ⟨r3, e4, h⟩ := ok_bind h
  refine go_cV (pc := 12) (ci := 6) (As := []) (st := []) (E_X6_keepEntries e4) rfl oX6_keepEntries iX6_keepEntries sX6_keepEntries kX6_252 rfl (show TM 0 = (6 + 5, 29) from rfl) rfl (Nat.le_of_ble_eq_true rfl) ⟨Nat.le_of_ble_eq_true rfl, Nat.le_of_ble_eq_true rfl⟩ ⟨rfl, rfl⟩ dX6_run_12 (st2 := []) rfl ?_
  refine go_aload_n (pc := 15) dX6_run_15 rfl rfl ?_
  refine go_gI (pc := 16) (v := r3 0 4) fX6_103 (by decide) (show TM 0 = (6 + 5, 29) from rfl) dX6_run_16 rfl ?_
  refine go_istore_n (pc := 19) (i := 1) dX6_run_19 rfl (Nat.le_of_ble_eq_true rfl) (L2 := [some (.ref 0), some (.int (r3 0 4)), none, none]) rfl ?_
  refine go_aload_n (pc := 20) dX6_run_20 rfl rfl ?_
  refine go_gI (pc := 21) (v := r3 0 8) fX6_31 (by decide) (show TM 0 = (6 + 5, 29) from rfl) dX6_run_21 rfl ?_
  refine go_bipush (pc := 24) (v := (-9)) dX6_run_24 cb_m9 ?_
  refine go_icmp_eq (pc := 26) (tgt := 44) dX6_run_26 rfl (fun c5 => ?_) (fun c5 => ?_)
  · replace h := ifp h c5
    refine go_iload_n (pc := 44) dX6_run_44 rfl rfl ?_
    refine go_istore_n (pc := 45) (i := 2) dX6_run_45 rfl (Nat.le_of_ble_eq_true rfl) (L2 := [some (.ref 0), some (.int (r3 0 4)), some (.int (r3 0 4)), none]) rfl ?_
    refine go_iconst (pc := 46) (v := 0) dX6_run_46 ci_0 ?_
    refine go_istore_n (pc := 47) (i := 3) dX6_run_47 rfl (Nat.le_of_ble_eq_true rfl) (L2 := [some (.ref 0), some (.int (r3 0 4)), some (.int (r3 0 4)), some (.int 0)]) rfl ?_
    refine go_aload_n (pc := 48) dX6_run_48 rfl rfl ?_
    refine go_iconst (pc := 49) (v := 0) dX6_run_49 ci_0 ?_
    refine go_putI (pc := 50) (k := 21) fX6_129 (Or.inl rfl) (Or.inl rfl) (show TM 0 = (6 + 5, 29) from rfl) dX6_run_50 ?_
    exact gX6_run_b53 _ _ _ _ _ _  h
  · replace h := ifn h c5
    refine go_aload_n (pc := 29) dX6_run_29 rfl rfl ?_
    refine go_gI (pc := 30) (v := r3 0 8) fX6_31 (by decide) (show TM 0 = (6 + 5, 29) from rfl) dX6_run_30 rfl ?_
    refine go_iload_n (pc := 33) dX6_run_33 rfl rfl ?_
    refine go_icmp_ge (pc := 34) (tgt := 44) dX6_run_34 rfl (fun c27 => ?_) (fun c27 => ?_)
    · replace h := ifp h c27
      refine go_iload_n (pc := 44) dX6_run_44 rfl rfl ?_
      refine go_istore_n (pc := 45) (i := 2) dX6_run_45 rfl (Nat.le_of_ble_eq_true rfl) (L2 := [some (.ref 0), some (.int (r3 0 4)), some (.int (r3 0 4)), none]) rfl ?_
      refine go_iconst (pc := 46) (v := 0) dX6_run_46 ci_0 ?_
      refine go_istore_n (pc := 47) (i := 3) dX6_run_47 rfl (Nat.le_of_ble_eq_true rfl) (L2 := [some (.ref 0), some (.int (r3 0 4)), some (.int (r3 0 4)), some (.int 0)]) rfl ?_
      refine go_aload_n (pc := 48) dX6_run_48 rfl rfl ?_
      refine go_iconst (pc := 49) (v := 0) dX6_run_49 ci_0 ?_
      refine go_putI (pc := 50) (k := 21) fX6_129 (Or.inl rfl) (Or.inl rfl) (show TM 0 = (6 + 5, 29) from rfl) dX6_run_50 ?_
      exact gX6_run_b53 _ _ _ _ _ _  h
    · replace h := ifn h c27
      refine go_aload_n (pc := 37) dX6_run_37 rfl rfl ?_
      refine go_gI (pc := 38) (v := r3 0 8) fX6_31 (by decide) (show TM 0 = (6 + 5, 29) from rfl) dX6_run_38 rfl ?_
      refine go_goto (pc := 41) (tgt := 45) dX6_run_41 rfl ?_
      refine go_istore_n (pc := 45) (i := 2) dX6_run_45 rfl (Nat.le_of_ble_eq_true rfl) (L2 := [some (.ref 0), some (.int (r3 0 4)), some (.int (r3 0 8)), none]) rfl ?_
      refine go_iconst (pc := 46) (v := 0) dX6_run_46 ci_0 ?_
      refine go_istore_n (pc := 47) (i := 3) dX6_run_47 rfl (Nat.le_of_ble_eq_true rfl) (L2 := [some (.ref 0), some (.int (r3 0 4)), some (.int (r3 0 8)), some (.int 0)]) rfl ?_
      refine go_aload_n (pc := 48) dX6_run_48 rfl rfl ?_
      refine go_iconst (pc := 49) (v := 0) dX6_run_49 ci_0 ?_
      refine go_putI (pc := 50) (k := 21) fX6_129 (Or.inl rfl) (Or.inl rfl) (show TM 0 = (6 + 5, 29) from rfl) dX6_run_50 ?_
      exact gX6_run_b53 _ _ _ _ _ _  h
def eX6_isCall (a1 : Int32) (V : Mm) : Option (Int32) :=
  if a1 < 0 then
    some 0
  else
    if (V 0 9) ≤ a1 then
      some 0
    else
      some 1
set_option maxHeartbeats 4000000 in
set_option maxRecDepth 100000 in
theorem E_X6_isCall {a1 : Int32} {V : Mm} {res : Int32}  (h : eX6_isCall a1 V = some res) : Ev mX6_isCall [.ref 0, .int a1] (hM V) (some (.int res)) (hM V) := by
  refine Ev.of (n := 0) oX6_isCall.1 (Nat.le_of_ble_eq_true rfl) ?_
  unfold eX6_isCall at h
  show Go mX6_isCall 0 [some (.ref 0), some (.int a1)] [] (hM V) 0 0 (some (.int res)) (hM V)
  refine go_iload_n (pc := 0) dX6_isCall_0 rfl rfl ?_
  refine go_if_lt (pc := 1) (tgt := 16) dX6_isCall_1 rfl (fun c1 => ?_) (fun c1 => ?_)
  · replace h := ifp h c1
    refine go_iconst (pc := 16) (v := 0) dX6_isCall_16 ci_0 ?_
    cases h
    exact go_iret (pc := 17) (Or.inr ⟨rfl, Or.inl rfl⟩) ⟨Nat.zero_le _, Nat.zero_le _⟩ dX6_isCall_17
  · replace h := ifn h c1
    refine go_iload_n (pc := 4) dX6_isCall_4 rfl rfl ?_
    refine go_aload_n (pc := 5) dX6_isCall_5 rfl rfl ?_
    refine go_gI (pc := 6) (v := V 0 9) fX6_265 (by decide) (show TM 0 = (6 + 5, 29) from rfl) dX6_isCall_6 rfl ?_
    refine go_icmp_ge (pc := 9) (tgt := 16) dX6_isCall_9 rfl (fun c2 => ?_) (fun c2 => ?_)
    · replace h := ifp h c2
      refine go_iconst (pc := 16) (v := 0) dX6_isCall_16 ci_0 ?_
      cases h
      exact go_iret (pc := 17) (Or.inr ⟨rfl, Or.inl rfl⟩) ⟨Nat.zero_le _, Nat.zero_le _⟩ dX6_isCall_17
    · replace h := ifn h c2
      refine go_iconst (pc := 12) (v := 1) dX6_isCall_12 ci_1 ?_
      refine go_goto (pc := 13) (tgt := 17) dX6_isCall_13 rfl ?_
      cases h
      exact go_iret (pc := 17) (Or.inr ⟨rfl, Or.inr rfl⟩) ⟨Nat.zero_le _, Nat.zero_le _⟩ dX6_isCall_17
def eX6_status (a1 : Int32) (V : Mm) : Option (Int32) :=
  (eX6_isCall a1 V).bind fun r1 =>
  if r1 = 0 then
    some (-9)
  else
    if a1 < 0 ∨ 12 ≤ a1.toNatClampNeg then none else
    some (V 8 a1.toNatClampNeg)
set_option maxHeartbeats 4000000 in
set_option maxRecDepth 100000 in
theorem E_X6_status {a1 : Int32} {V : Mm} {res : Int32}  (h : eX6_status a1 V = some res) : Ev mX6_status [.ref 0, .int a1] (hM V) (some (.int res)) (hM V) := by
  refine Ev.of (n := 0) oX6_status.1 (Nat.le_of_ble_eq_true rfl) ?_
  unfold eX6_status at h
  show Go mX6_status 0 [some (.ref 0), some (.int a1)] [] (hM V) 0 0 (some (.int res)) (hM V)
  refine go_aload_n (pc := 0) dX6_status_0 rfl rfl ?_
  refine go_iload_n (pc := 1) dX6_status_1 rfl rfl ?_
  obtain ⟨r1, e2, h⟩ := ok_bind h
  refine go_cV (pc := 2) (ci := 6) (As := [.int a1]) (st := []) (E_X6_isCall e2) rfl oX6_isCall iX6_isCall sX6_isCall kX6_271 rfl (show TM 0 = (6 + 5, 29) from rfl) rfl (Nat.le_of_ble_eq_true rfl) ⟨Nat.le_of_ble_eq_true rfl, Nat.le_of_ble_eq_true rfl⟩ ⟨rfl, rfl⟩ dX6_status_2 (st2 := [.int r1]) rfl ?_
  refine go_if_eq (pc := 5) (tgt := 17) dX6_status_5 rfl (fun c3 => ?_) (fun c3 => ?_)
  · replace h := ifp h c3
    refine go_bipush (pc := 17) (v := (-9)) dX6_status_17 cb_m9 ?_
    cases h
    exact go_iret (pc := 19) (Or.inl rfl) ⟨Nat.zero_le _, Nat.zero_le _⟩ dX6_status_19
  · replace h := ifn h c3
    refine go_aload_n (pc := 8) dX6_status_8 rfl rfl ?_
    refine go_getP (pc := 9) (a := 8) fX6_35 (by decide) (show TM 0 = (6 + 5, 29) from rfl) rfl dX6_status_9 ?_
    refine go_iload_n (pc := 12) dX6_status_12 rfl rfl ?_
    obtain ⟨c4, h⟩ := ok_not h
    refine go_ia (pc := 13) (v := V 8 a1.toNatClampNeg) (show TM 8 = (0, 12) from rfl) (vin c4) dX6_status_13 rfl ?_
    refine go_goto (pc := 14) (tgt := 19) dX6_status_14 rfl ?_
    cases h
    exact go_iret (pc := 19) (Or.inl rfl) ⟨Nat.zero_le _, Nat.zero_le _⟩ dX6_status_19
def eX6_many (a1 : Int32) (a2 : Int32) (V : Mm) : Option (Int32) :=
  (eX6_isCall a1 V).bind fun r1 =>
  if r1 = 0 then
    some (-1)
  else
    (eX6_within a2 0 3 V).bind fun r4 =>
    if r4 = 0 then
      some (-1)
    else
      if ((4 * a1) + a2) < 0 ∨ 48 ≤ ((4 * a1) + a2).toNatClampNeg then none else
      some (V 9 (((4 * a1) + a2).toNatClampNeg))
set_option maxHeartbeats 4000000 in
set_option maxRecDepth 100000 in
theorem E_X6_many {a1 : Int32} {a2 : Int32} {V : Mm} {res : Int32}  (h : eX6_many a1 a2 V = some res) : Ev mX6_many [.ref 0, .int a1, .int a2] (hM V) (some (.int res)) (hM V) := by
  refine Ev.of (n := 0) oX6_many.1 (Nat.le_of_ble_eq_true rfl) ?_
  unfold eX6_many at h
  show Go mX6_many 0 [some (.ref 0), some (.int a1), some (.int a2)] [] (hM V) 0 0 (some (.int res)) (hM V)
  refine go_aload_n (pc := 0) dX6_many_0 rfl rfl ?_
  refine go_iload_n (pc := 1) dX6_many_1 rfl rfl ?_
  obtain ⟨r1, e2, h⟩ := ok_bind h
  refine go_cV (pc := 2) (ci := 6) (As := [.int a1]) (st := []) (E_X6_isCall e2) rfl oX6_isCall iX6_isCall sX6_isCall kX6_271 rfl (show TM 0 = (6 + 5, 29) from rfl) rfl (Nat.le_of_ble_eq_true rfl) ⟨Nat.le_of_ble_eq_true rfl, Nat.le_of_ble_eq_true rfl⟩ ⟨rfl, rfl⟩ dX6_many_2 (st2 := [.int r1]) rfl ?_
  refine go_if_eq (pc := 5) (tgt := 30) dX6_many_5 rfl (fun c3 => ?_) (fun c3 => ?_)
  · replace h := ifp h c3
    refine go_iconst (pc := 30) (v := (-1)) dX6_many_30 ci_m1 ?_
    cases h
    exact go_iret (pc := 31) (Or.inl rfl) ⟨Nat.zero_le _, Nat.zero_le _⟩ dX6_many_31
  · replace h := ifn h c3
    refine go_iload_n (pc := 8) dX6_many_8 rfl rfl ?_
    refine go_iconst (pc := 9) (v := 0) dX6_many_9 ci_0 ?_
    refine go_iconst (pc := 10) (v := 3) dX6_many_10 ci_3 ?_
    obtain ⟨r4, e5, h⟩ := ok_bind h
    refine go_cS (pc := 11) (As := [.int a2, .int 0, .int 3]) (st := []) (E_X6_within e5) rfl oX6_within iX6_within kX6_99 rfl (Nat.le_of_ble_eq_true rfl) ⟨Nat.le_of_ble_eq_true rfl, Nat.le_of_ble_eq_true rfl⟩ ⟨rfl, rfl⟩ dX6_many_11 (st2 := [.int r4]) rfl ?_
    refine go_if_eq (pc := 14) (tgt := 30) dX6_many_14 rfl (fun c6 => ?_) (fun c6 => ?_)
    · replace h := ifp h c6
      refine go_iconst (pc := 30) (v := (-1)) dX6_many_30 ci_m1 ?_
      cases h
      exact go_iret (pc := 31) (Or.inl rfl) ⟨Nat.zero_le _, Nat.zero_le _⟩ dX6_many_31
    · replace h := ifn h c6
      refine go_aload_n (pc := 17) dX6_many_17 rfl rfl ?_
      refine go_getP (pc := 18) (a := 9) fX6_38 (by decide) (show TM 0 = (6 + 5, 29) from rfl) rfl dX6_many_18 ?_
      refine go_iconst (pc := 21) (v := 4) dX6_many_21 ci_4 ?_
      refine go_iload_n (pc := 22) dX6_many_22 rfl rfl ?_
      refine go_imul (pc := 23) dX6_many_23 ?_
      refine go_iload_n (pc := 24) dX6_many_24 rfl rfl ?_
      refine go_iadd (pc := 25) dX6_many_25 ?_
      obtain ⟨c7, h⟩ := ok_not h
      refine go_ia (pc := 26) (v := V 9 (((4 * a1) + a2).toNatClampNeg)) (show TM 9 = (0, 48) from rfl) (vin c7) dX6_many_26 rfl ?_
      refine go_goto (pc := 27) (tgt := 31) dX6_many_27 rfl ?_
      cases h
      exact go_iret (pc := 31) (Or.inl rfl) ⟨Nat.zero_le _, Nat.zero_le _⟩ dX6_many_31
def eX6_given (a1 : Int32) (a2 : Int32) (a3 : Int32) (V : Mm) : Option (Int32) :=
  (eX6_isCall a1 V).bind fun r1 =>
  if r1 = 0 then
    some (-1)
  else
    (eX6_within a2 0 3 V).bind fun r4 =>
    if r4 = 0 then
      some (-1)
    else
      if a3 < 0 then
        some (-1)
      else
        if ((4 * a1) + a2) < 0 ∨ 48 ≤ ((4 * a1) + a2).toNatClampNeg then none else
        if (V 9 (((4 * a1) + a2).toNatClampNeg)) ≤ a3 then
          some (-1)
        else
          if ((50 * ((4 * a1) + a2)) + a3) < 0 ∨ 2400 ≤ ((50 * ((4 * a1) + a2)) + a3).toNatClampNeg then none else
          some (V 10 (((50 * ((4 * a1) + a2)) + a3).toNatClampNeg))
set_option maxHeartbeats 4000000 in
set_option maxRecDepth 100000 in
theorem E_X6_given {a1 : Int32} {a2 : Int32} {a3 : Int32} {V : Mm} {res : Int32}  (h : eX6_given a1 a2 a3 V = some res) : Ev mX6_given [.ref 0, .int a1, .int a2, .int a3] (hM V) (some (.int res)) (hM V) := by
  refine Ev.of (n := 0) oX6_given.1 (Nat.le_of_ble_eq_true rfl) ?_
  unfold eX6_given at h
  show Go mX6_given 0 [some (.ref 0), some (.int a1), some (.int a2), some (.int a3)] [] (hM V) 0 0 (some (.int res)) (hM V)
  refine go_aload_n (pc := 0) dX6_given_0 rfl rfl ?_
  refine go_iload_n (pc := 1) dX6_given_1 rfl rfl ?_
  obtain ⟨r1, e2, h⟩ := ok_bind h
  refine go_cV (pc := 2) (ci := 6) (As := [.int a1]) (st := []) (E_X6_isCall e2) rfl oX6_isCall iX6_isCall sX6_isCall kX6_271 rfl (show TM 0 = (6 + 5, 29) from rfl) rfl (Nat.le_of_ble_eq_true rfl) ⟨Nat.le_of_ble_eq_true rfl, Nat.le_of_ble_eq_true rfl⟩ ⟨rfl, rfl⟩ dX6_given_2 (st2 := [.int r1]) rfl ?_
  refine go_if_eq (pc := 5) (tgt := 53) dX6_given_5 rfl (fun c3 => ?_) (fun c3 => ?_)
  · replace h := ifp h c3
    refine go_iconst (pc := 53) (v := (-1)) dX6_given_53 ci_m1 ?_
    cases h
    exact go_iret (pc := 54) (Or.inl rfl) ⟨Nat.zero_le _, Nat.zero_le _⟩ dX6_given_54
  · replace h := ifn h c3
    refine go_iload_n (pc := 8) dX6_given_8 rfl rfl ?_
    refine go_iconst (pc := 9) (v := 0) dX6_given_9 ci_0 ?_
    refine go_iconst (pc := 10) (v := 3) dX6_given_10 ci_3 ?_
    obtain ⟨r4, e5, h⟩ := ok_bind h
    refine go_cS (pc := 11) (As := [.int a2, .int 0, .int 3]) (st := []) (E_X6_within e5) rfl oX6_within iX6_within kX6_99 rfl (Nat.le_of_ble_eq_true rfl) ⟨Nat.le_of_ble_eq_true rfl, Nat.le_of_ble_eq_true rfl⟩ ⟨rfl, rfl⟩ dX6_given_11 (st2 := [.int r4]) rfl ?_
    refine go_if_eq (pc := 14) (tgt := 53) dX6_given_14 rfl (fun c6 => ?_) (fun c6 => ?_)
    · replace h := ifp h c6
      refine go_iconst (pc := 53) (v := (-1)) dX6_given_53 ci_m1 ?_
      cases h
      exact go_iret (pc := 54) (Or.inl rfl) ⟨Nat.zero_le _, Nat.zero_le _⟩ dX6_given_54
    · replace h := ifn h c6
      refine go_iload_n (pc := 17) dX6_given_17 rfl rfl ?_
      refine go_if_lt (pc := 18) (tgt := 53) dX6_given_18 rfl (fun c7 => ?_) (fun c7 => ?_)
      · replace h := ifp h c7
        refine go_iconst (pc := 53) (v := (-1)) dX6_given_53 ci_m1 ?_
        cases h
        exact go_iret (pc := 54) (Or.inl rfl) ⟨Nat.zero_le _, Nat.zero_le _⟩ dX6_given_54
      · replace h := ifn h c7
        refine go_iload_n (pc := 21) dX6_given_21 rfl rfl ?_
        refine go_aload_n (pc := 22) dX6_given_22 rfl rfl ?_
        refine go_getP (pc := 23) (a := 9) fX6_38 (by decide) (show TM 0 = (6 + 5, 29) from rfl) rfl dX6_given_23 ?_
        refine go_iconst (pc := 26) (v := 4) dX6_given_26 ci_4 ?_
        refine go_iload_n (pc := 27) dX6_given_27 rfl rfl ?_
        refine go_imul (pc := 28) dX6_given_28 ?_
        refine go_iload_n (pc := 29) dX6_given_29 rfl rfl ?_
        refine go_iadd (pc := 30) dX6_given_30 ?_
        obtain ⟨c8, h⟩ := ok_not h
        refine go_ia (pc := 31) (v := V 9 (((4 * a1) + a2).toNatClampNeg)) (show TM 9 = (0, 48) from rfl) (vin c8) dX6_given_31 rfl ?_
        refine go_icmp_ge (pc := 32) (tgt := 53) dX6_given_32 rfl (fun c9 => ?_) (fun c9 => ?_)
        · replace h := ifp h c9
          refine go_iconst (pc := 53) (v := (-1)) dX6_given_53 ci_m1 ?_
          cases h
          exact go_iret (pc := 54) (Or.inl rfl) ⟨Nat.zero_le _, Nat.zero_le _⟩ dX6_given_54
        · replace h := ifn h c9
          refine go_aload_n (pc := 35) dX6_given_35 rfl rfl ?_
          refine go_getP (pc := 36) (a := 10) fX6_41 (by decide) (show TM 0 = (6 + 5, 29) from rfl) rfl dX6_given_36 ?_
          refine go_bipush (pc := 39) (v := 50) dX6_given_39 cb_50 ?_
          refine go_iconst (pc := 41) (v := 4) dX6_given_41 ci_4 ?_
          refine go_iload_n (pc := 42) dX6_given_42 rfl rfl ?_
          refine go_imul (pc := 43) dX6_given_43 ?_
          refine go_iload_n (pc := 44) dX6_given_44 rfl rfl ?_
          refine go_iadd (pc := 45) dX6_given_45 ?_
          refine go_imul (pc := 46) dX6_given_46 ?_
          refine go_iload_n (pc := 47) dX6_given_47 rfl rfl ?_
          refine go_iadd (pc := 48) dX6_given_48 ?_
          obtain ⟨c10, h⟩ := ok_not h
          refine go_ia (pc := 49) (v := V 10 (((50 * ((4 * a1) + a2)) + a3).toNatClampNeg)) (show TM 10 = (0, 2400) from rfl) (vin c10) dX6_given_49 rfl ?_
          refine go_goto (pc := 50) (tgt := 54) dX6_given_50 rfl ?_
          cases h
          exact go_iret (pc := 54) (Or.inl rfl) ⟨Nat.zero_le _, Nat.zero_le _⟩ dX6_given_54
