def eX6_whatOf (a1 : Int32) (a2 : Int32) (V : Mm) : Option (Int32) :=
  (eX6_isThere 2 a1 a2 V).bind fun r1 =>
  (eX6_isThere 1 a1 a2 V).bind fun r3 =>
  if r1 = r3 then
    if r3 = 0 then
      some 0
    else
      (eX6_isOther a1 a2 V).bind fun r7 =>
      if r7 = 0 then
        some 0
      else
        some 2
  else
    if r3 = 0 then
      some 3
    else
      some 1
set_option maxHeartbeats 4000000 in
set_option maxRecDepth 100000 in
theorem E_X6_whatOf {a1 : Int32} {a2 : Int32} {V : Mm} {res : Int32}  (h : eX6_whatOf a1 a2 V = some res) : Ev mX6_whatOf [.ref 0, .int a1, .int a2] (hM V) (some (.int res)) (hM V) := by
  refine Ev.of (n := 2) oX6_whatOf.1 (Nat.le_of_ble_eq_true rfl) ?_
  unfold eX6_whatOf at h
  show Go mX6_whatOf 0 [some (.ref 0), some (.int a1), some (.int a2), none, none] [] (hM V) 0 0 (some (.int res)) (hM V)
  refine go_aload_n (pc := 0) dX6_whatOf_0 rfl rfl ?_
  refine go_aload_n (pc := 1) dX6_whatOf_1 rfl rfl ?_
  refine go_getP (pc := 2) (a := 2) fX6_13 (by decide) (show TM 0 = (6 + 5, 29) from rfl) rfl dX6_whatOf_2 ?_
  refine go_iload_n (pc := 5) dX6_whatOf_5 rfl rfl ?_
  refine go_iload_n (pc := 6) dX6_whatOf_6 rfl rfl ?_
  obtain ⟨r1, e2, h⟩ := ok_bind h
  refine go_cV (pc := 7) (ci := 6) (As := [.ref 2, .int a1, .int a2]) (st := []) (E_X6_isThere isW_2 e2) rfl oX6_isThere iX6_isThere sX6_isThere kX6_113 rfl (show TM 0 = (6 + 5, 29) from rfl) rfl (Nat.le_of_ble_eq_true rfl) ⟨Nat.le_of_ble_eq_true rfl, Nat.le_of_ble_eq_true rfl⟩ ⟨rfl, rfl⟩ dX6_whatOf_7 (st2 := [.int r1]) rfl ?_
  refine go_istore_n (pc := 10) (i := 3) dX6_whatOf_10 rfl (Nat.le_of_ble_eq_true rfl) (L2 := [some (.ref 0), some (.int a1), some (.int a2), some (.int r1), none]) rfl ?_
  refine go_aload_n (pc := 11) dX6_whatOf_11 rfl rfl ?_
  refine go_aload_n (pc := 12) dX6_whatOf_12 rfl rfl ?_
  refine go_getP (pc := 13) (a := 1) fX6_7 (by decide) (show TM 0 = (6 + 5, 29) from rfl) rfl dX6_whatOf_13 ?_
  refine go_iload_n (pc := 16) dX6_whatOf_16 rfl rfl ?_
  refine go_iload_n (pc := 17) dX6_whatOf_17 rfl rfl ?_
  obtain ⟨r3, e4, h⟩ := ok_bind h
  refine go_cV (pc := 18) (ci := 6) (As := [.ref 1, .int a1, .int a2]) (st := []) (E_X6_isThere isW_1 e4) rfl oX6_isThere iX6_isThere sX6_isThere kX6_113 rfl (show TM 0 = (6 + 5, 29) from rfl) rfl (Nat.le_of_ble_eq_true rfl) ⟨Nat.le_of_ble_eq_true rfl, Nat.le_of_ble_eq_true rfl⟩ ⟨rfl, rfl⟩ dX6_whatOf_18 (st2 := [.int r3]) rfl ?_
  refine go_istore (pc := 21) (i := 4) dX6_whatOf_21 (Nat.le_of_ble_eq_true rfl) (L2 := [some (.ref 0), some (.int a1), some (.int a2), some (.int r1), some (.int r3)]) rfl ?_
  refine go_iload_n (pc := 23) dX6_whatOf_23 rfl rfl ?_
  refine go_iload (pc := 24) dX6_whatOf_24 rfl ?_
  refine go_icmp_eq (pc := 26) (tgt := 40) dX6_whatOf_26 rfl (fun c5 => ?_) (fun c5 => ?_)
  · replace h := ifp h c5
    refine go_iload (pc := 40) dX6_whatOf_40 rfl ?_
    refine go_if_eq (pc := 42) (tgt := 58) dX6_whatOf_42 rfl (fun c6 => ?_) (fun c6 => ?_)
    · replace h := ifp h c6
      refine go_iconst (pc := 58) (v := 0) dX6_whatOf_58 ci_0 ?_
      cases h
      exact go_iret (pc := 59) (Or.inl rfl) ⟨Nat.zero_le _, Nat.zero_le _⟩ dX6_whatOf_59
    · replace h := ifn h c6
      refine go_aload_n (pc := 45) dX6_whatOf_45 rfl rfl ?_
      refine go_iload_n (pc := 46) dX6_whatOf_46 rfl rfl ?_
      refine go_iload_n (pc := 47) dX6_whatOf_47 rfl rfl ?_
      obtain ⟨r7, e8, h⟩ := ok_bind h
      refine go_cV (pc := 48) (ci := 6) (As := [.int a1, .int a2]) (st := []) (E_X6_isOther e8) rfl oX6_isOther iX6_isOther sX6_isOther kX6_117 rfl (show TM 0 = (6 + 5, 29) from rfl) rfl (Nat.le_of_ble_eq_true rfl) ⟨Nat.le_of_ble_eq_true rfl, Nat.le_of_ble_eq_true rfl⟩ ⟨rfl, rfl⟩ dX6_whatOf_48 (st2 := [.int r7]) rfl ?_
      refine go_if_eq (pc := 51) (tgt := 58) dX6_whatOf_51 rfl (fun c9 => ?_) (fun c9 => ?_)
      · replace h := ifp h c9
        refine go_iconst (pc := 58) (v := 0) dX6_whatOf_58 ci_0 ?_
        cases h
        exact go_iret (pc := 59) (Or.inl rfl) ⟨Nat.zero_le _, Nat.zero_le _⟩ dX6_whatOf_59
      · replace h := ifn h c9
        refine go_iconst (pc := 54) (v := 2) dX6_whatOf_54 ci_2 ?_
        refine go_goto (pc := 55) (tgt := 59) dX6_whatOf_55 rfl ?_
        cases h
        exact go_iret (pc := 59) (Or.inl rfl) ⟨Nat.zero_le _, Nat.zero_le _⟩ dX6_whatOf_59
  · replace h := ifn h c5
    refine go_iload (pc := 29) dX6_whatOf_29 rfl ?_
    refine go_if_eq (pc := 31) (tgt := 38) dX6_whatOf_31 rfl (fun c10 => ?_) (fun c10 => ?_)
    · replace h := ifp h c10
      refine go_iconst (pc := 38) (v := 3) dX6_whatOf_38 ci_3 ?_
      cases h
      exact go_iret (pc := 39) (Or.inl rfl) ⟨Nat.zero_le _, Nat.zero_le _⟩ dX6_whatOf_39
    · replace h := ifn h c10
      refine go_iconst (pc := 34) (v := 1) dX6_whatOf_34 ci_1 ?_
      refine go_goto (pc := 35) (tgt := 39) dX6_whatOf_35 rfl ?_
      cases h
      exact go_iret (pc := 39) (Or.inl rfl) ⟨Nat.zero_le _, Nat.zero_le _⟩ dX6_whatOf_39
def eX6_settle_b71 (k2 : Int32 → Mm → Option (Mm)) : Nat → Int32 → Int32 → Mm → Option (Mm)
  | 0, _, _, _ => none
  | n + 1, l1, l3, V => 
    if (580 + l1) < 0 ∨ 586 ≤ (580 + l1).toNatClampNeg then none else
    if (V 1 ((580 + l1).toNatClampNeg)) ≤ l3 then
      k2 (l1 + 1) V
    else
      (eX6_whatOf l1 l3 V).bind fun r9 =>
      if r9 ≤ 0 then
        eX6_settle_b71 k2 n l1 (l3 + 1) V
      else
        if (583 + l1) < 0 ∨ 586 ≤ (583 + l1).toNatClampNeg then none else
        (eX6_whatOf l1 l3 V).bind fun r13 =>
        (eX6_note l1 (V 1 ((583 + l1).toNatClampNeg)) l3 r13 V).bind fun r15 =>
        eX6_settle_b71 k2 n l1 (l3 + 1) r15
set_option maxHeartbeats 4000000 in
set_option maxRecDepth 100000 in
theorem gX6_settle_b71 {k2 : Int32 → Mm → Option (Mm)} (hk2 : ∀ (l1 : Int32) (V : Mm) (res : Mm) , k2 l1 V = some res → Go mX6_settle 2 [some (.ref 0), some (.int l1), none, none] [] (hM V) 0 0 none (hM res)) : ∀ (n : Nat) (l1 : Int32) (l3 : Int32) (V : Mm) (res : Mm) , eX6_settle_b71 k2 n l1 l3 V = some res → Go mX6_settle 71 [some (.ref 0), some (.int l1), none, some (.int l3)] [] (hM V) 0 0 none (hM res) := by
  intro n
  induction n with
  | zero =>
    intro l1 l3 V res  h
    cases h
  | succ n ih =>
    intro l1 l3 V res  h
    rw [eX6_settle_b71] at h
    refine go_iload_n (pc := 71) dX6_settle_71 rfl rfl ?_
    refine go_aload_n (pc := 72) dX6_settle_72 rfl rfl ?_
    refine go_getP (pc := 73) (a := 1) fX6_7 (by decide) (show TM 0 = (6 + 5, 29) from rfl) rfl dX6_settle_73 ?_
    refine go_sipush (pc := 76) (v := 580) dX6_settle_76 cs_580 ?_
    refine go_iload_n (pc := 79) dX6_settle_79 rfl rfl ?_
    refine go_iadd (pc := 80) dX6_settle_80 ?_
    obtain ⟨c7, h⟩ := ok_not h
    refine go_ia (pc := 81) (v := V 1 ((580 + l1).toNatClampNeg)) (show TM 1 = (0, 586) from rfl) (vin c7) dX6_settle_81 rfl ?_
    refine go_icmp_ge (pc := 82) (tgt := 122) dX6_settle_82 rfl (fun c8 => ?_) (fun c8 => ?_)
    · replace h := ifp h c8
      refine go_iinc (pc := 122) (v := (l1 + 1)) dX6_settle_122 rfl (by rw [ci_1]) (Nat.le_of_ble_eq_true rfl) (L2 := [some (.ref 0), some (.int (l1 + 1)), none, some (.int l3)]) rfl ?_
      refine go_goto (pc := 125) (tgt := 2) dX6_settle_125 rfl ?_
      refine go_le (lle_s (lle_s (lle_n (lle_n lle_0)))) ?_
      exact hk2 _ _ _  h
    · replace h := ifn h c8
      refine go_aload_n (pc := 85) dX6_settle_85 rfl rfl ?_
      refine go_iload_n (pc := 86) dX6_settle_86 rfl rfl ?_
      refine go_iload_n (pc := 87) dX6_settle_87 rfl rfl ?_
      obtain ⟨r9, e10, h⟩ := ok_bind h
      refine go_cV (pc := 88) (ci := 6) (As := [.int l1, .int l3]) (st := []) (E_X6_whatOf e10) rfl oX6_whatOf iX6_whatOf sX6_whatOf kX6_121 rfl (show TM 0 = (6 + 5, 29) from rfl) rfl (Nat.le_of_ble_eq_true rfl) ⟨Nat.le_of_ble_eq_true rfl, Nat.le_of_ble_eq_true rfl⟩ ⟨rfl, rfl⟩ dX6_settle_88 (st2 := [.int r9]) rfl ?_
      refine go_if_le (pc := 91) (tgt := 116) dX6_settle_91 rfl (fun c11 => ?_) (fun c11 => ?_)
      · replace h := ifp h c11
        refine go_iinc (pc := 116) (v := (l3 + 1)) dX6_settle_116 rfl (by rw [ci_1]) (Nat.le_of_ble_eq_true rfl) (L2 := [some (.ref 0), some (.int l1), none, some (.int (l3 + 1))]) rfl ?_
        refine go_goto (pc := 119) (tgt := 71) dX6_settle_119 rfl ?_
        exact ih _ _ _ _  h
      · replace h := ifn h c11
        refine go_aload_n (pc := 94) dX6_settle_94 rfl rfl ?_
        refine go_iload_n (pc := 95) dX6_settle_95 rfl rfl ?_
        refine go_aload_n (pc := 96) dX6_settle_96 rfl rfl ?_
        refine go_getP (pc := 97) (a := 1) fX6_7 (by decide) (show TM 0 = (6 + 5, 29) from rfl) rfl dX6_settle_97 ?_
        refine go_sipush (pc := 100) (v := 583) dX6_settle_100 cs_583 ?_
        refine go_iload_n (pc := 103) dX6_settle_103 rfl rfl ?_
        refine go_iadd (pc := 104) dX6_settle_104 ?_
        obtain ⟨c12, h⟩ := ok_not h
        refine go_ia (pc := 105) (v := V 1 ((583 + l1).toNatClampNeg)) (show TM 1 = (0, 586) from rfl) (vin c12) dX6_settle_105 rfl ?_
        refine go_iload_n (pc := 106) dX6_settle_106 rfl rfl ?_
        refine go_aload_n (pc := 107) dX6_settle_107 rfl rfl ?_
        refine go_iload_n (pc := 108) dX6_settle_108 rfl rfl ?_
        refine go_iload_n (pc := 109) dX6_settle_109 rfl rfl ?_
        obtain ⟨r13, e14, h⟩ := ok_bind h
        refine go_cV (pc := 110) (ci := 6) (As := [.int l1, .int l3]) (st := [.int l3, .int (V 1 ((583 + l1).toNatClampNeg)), .int l1, .ref 0]) (E_X6_whatOf e14) rfl oX6_whatOf iX6_whatOf sX6_whatOf kX6_121 rfl (show TM 0 = (6 + 5, 29) from rfl) rfl (Nat.le_of_ble_eq_true rfl) ⟨Nat.le_of_ble_eq_true rfl, Nat.le_of_ble_eq_true rfl⟩ ⟨rfl, rfl⟩ dX6_settle_110 (st2 := [.int r13, .int l3, .int (V 1 ((583 + l1).toNatClampNeg)), .int l1, .ref 0]) rfl ?_
        obtain ⟨r15, e16, h⟩ := ok_bind h
        refine go_cV (pc := 113) (ci := 6) (As := [.int l1, .int (V 1 ((583 + l1).toNatClampNeg)), .int l3, .int r13]) (st := []) (E_X6_note e16) rfl oX6_note iX6_note sX6_note kX6_125 rfl (show TM 0 = (6 + 5, 29) from rfl) rfl (Nat.le_of_ble_eq_true rfl) ⟨Nat.le_of_ble_eq_true rfl, Nat.le_of_ble_eq_true rfl⟩ ⟨rfl, rfl⟩ dX6_settle_113 (st2 := []) rfl ?_
        refine go_iinc (pc := 116) (v := (l3 + 1)) dX6_settle_116 rfl (by rw [ci_1]) (Nat.le_of_ble_eq_true rfl) (L2 := [some (.ref 0), some (.int l1), none, some (.int (l3 + 1))]) rfl ?_
        refine go_goto (pc := 119) (tgt := 71) dX6_settle_119 rfl ?_
        exact ih _ _ _ _  h
def eX6_settle_b11 (k2 : Int32 → Mm → Option (Mm)) : Nat → Int32 → Int32 → Int32 → Mm → Option (Mm)
  | 0, _, _, _, _ => none
  | n + 1, l1, l2, l3, V => 
    if (580 + l1) < 0 ∨ 586 ≤ (580 + l1).toNatClampNeg then none else
    if (V 1 ((580 + l1).toNatClampNeg)) ≤ l3 then
      if l2 = 0 then
        k2 (l1 + 1) V
      else
        if (583 + l1) < 0 ∨ 586 ≤ (583 + l1).toNatClampNeg then none else
        if (583 + l1) < 0 ∨ 586 ≤ (583 + l1).toNatClampNeg then none else
        eX6_settle_b71 k2 fu l1 0 (wr V 1 ((583 + l1).toNatClampNeg) ((V 1 ((583 + l1).toNatClampNeg)) + 1))
    else
      (eX6_whatOf l1 l3 V).bind fun r17 =>
      if r17 ≤ 0 then
        eX6_settle_b11 k2 n l1 (l2 ||| 0) (l3 + 1) V
      else
        eX6_settle_b11 k2 n l1 (l2 ||| 1) (l3 + 1) V
set_option maxHeartbeats 4000000 in
set_option maxRecDepth 100000 in
theorem gX6_settle_b11 {k2 : Int32 → Mm → Option (Mm)} (hk2 : ∀ (l1 : Int32) (V : Mm) (res : Mm) , k2 l1 V = some res → Go mX6_settle 2 [some (.ref 0), some (.int l1), none, none] [] (hM V) 0 0 none (hM res)) : ∀ (n : Nat) (l1 : Int32) (l2 : Int32) (l3 : Int32) (V : Mm) (res : Mm) , eX6_settle_b11 k2 n l1 l2 l3 V = some res → Go mX6_settle 11 [some (.ref 0), some (.int l1), some (.int l2), some (.int l3)] [] (hM V) 0 0 none (hM res) := by
  intro n
  induction n with
  | zero =>
    intro l1 l2 l3 V res  h
    cases h
  | succ n ih =>
    intro l1 l2 l3 V res  h
    rw [eX6_settle_b11] at h
    refine go_iload_n (pc := 11) dX6_settle_11 rfl rfl ?_
    refine go_aload_n (pc := 12) dX6_settle_12 rfl rfl ?_
    refine go_getP (pc := 13) (a := 1) fX6_7 (by decide) (show TM 0 = (6 + 5, 29) from rfl) rfl dX6_settle_13 ?_
    refine go_sipush (pc := 16) (v := 580) dX6_settle_16 cs_580 ?_
    refine go_iload_n (pc := 19) dX6_settle_19 rfl rfl ?_
    refine go_iadd (pc := 20) dX6_settle_20 ?_
    obtain ⟨c2, h⟩ := ok_not h
    refine go_ia (pc := 21) (v := V 1 ((580 + l1).toNatClampNeg)) (show TM 1 = (0, 586) from rfl) (vin c2) dX6_settle_21 rfl ?_
    refine go_icmp_ge (pc := 22) (tgt := 48) dX6_settle_22 rfl (fun c3 => ?_) (fun c3 => ?_)
    · replace h := ifp h c3
      refine go_iload_n (pc := 48) dX6_settle_48 rfl rfl ?_
      refine go_if_ne (pc := 49) (tgt := 55) dX6_settle_49 rfl (fun c4 => ?_) (fun c4 => ?_)
      · replace h := ifn h c4
        refine go_aload_n (pc := 55) dX6_settle_55 rfl rfl ?_
        refine go_getP (pc := 56) (a := 1) fX6_7 (by decide) (show TM 0 = (6 + 5, 29) from rfl) rfl dX6_settle_56 ?_
        refine go_sipush (pc := 59) (v := 583) dX6_settle_59 cs_583 ?_
        refine go_iload_n (pc := 62) dX6_settle_62 rfl rfl ?_
        refine go_iadd (pc := 63) dX6_settle_63 ?_
        refine go_dup2 (pc := 64) dX6_settle_64 ?_
        obtain ⟨c5, h⟩ := ok_not h
        refine go_ia (pc := 65) (v := V 1 ((583 + l1).toNatClampNeg)) (show TM 1 = (0, 586) from rfl) (vin c5) dX6_settle_65 rfl ?_
        refine go_iconst (pc := 66) (v := 1) dX6_settle_66 ci_1 ?_
        refine go_iadd (pc := 67) dX6_settle_67 ?_
        obtain ⟨c6, h⟩ := ok_not h
        refine go_iast (pc := 68) (show TM 1 = (0, 586) from rfl) (vin c6) dX6_settle_68 ?_
        refine go_iconst (pc := 69) (v := 0) dX6_settle_69 ci_0 ?_
        refine go_istore_n (pc := 70) (i := 3) dX6_settle_70 rfl (Nat.le_of_ble_eq_true rfl) (L2 := [some (.ref 0), some (.int l1), some (.int l2), some (.int 0)]) rfl ?_
        refine go_le (lle_s (lle_s (lle_n (lle_s lle_0)))) ?_
        exact gX6_settle_b71 hk2 _ _ _ _ _  h
      · replace h := ifp h c4
        refine go_goto (pc := 52) (tgt := 122) dX6_settle_52 rfl ?_
        refine go_iinc (pc := 122) (v := (l1 + 1)) dX6_settle_122 rfl (by rw [ci_1]) (Nat.le_of_ble_eq_true rfl) (L2 := [some (.ref 0), some (.int (l1 + 1)), some (.int l2), some (.int l3)]) rfl ?_
        refine go_goto (pc := 125) (tgt := 2) dX6_settle_125 rfl ?_
        refine go_le (lle_s (lle_s (lle_n (lle_n lle_0)))) ?_
        exact hk2 _ _ _  h
    · replace h := ifn h c3
      refine go_iload_n (pc := 25) dX6_settle_25 rfl rfl ?_
      refine go_aload_n (pc := 26) dX6_settle_26 rfl rfl ?_
      refine go_iload_n (pc := 27) dX6_settle_27 rfl rfl ?_
      refine go_iload_n (pc := 28) dX6_settle_28 rfl rfl ?_
      obtain ⟨r17, e18, h⟩ := ok_bind h
      refine go_cV (pc := 29) (ci := 6) (As := [.int l1, .int l3]) (st := [.int l2]) (E_X6_whatOf e18) rfl oX6_whatOf iX6_whatOf sX6_whatOf kX6_121 rfl (show TM 0 = (6 + 5, 29) from rfl) rfl (Nat.le_of_ble_eq_true rfl) ⟨Nat.le_of_ble_eq_true rfl, Nat.le_of_ble_eq_true rfl⟩ ⟨rfl, rfl⟩ dX6_settle_29 (st2 := [.int r17, .int l2]) rfl ?_
      refine go_if_le (pc := 32) (tgt := 39) dX6_settle_32 rfl (fun c19 => ?_) (fun c19 => ?_)
      · replace h := ifp h c19
        refine go_iconst (pc := 39) (v := 0) dX6_settle_39 ci_0 ?_
        refine go_ior (pc := 40) dX6_settle_40 ?_
        refine go_istore_n (pc := 41) (i := 2) dX6_settle_41 rfl (Nat.le_of_ble_eq_true rfl) (L2 := [some (.ref 0), some (.int l1), some (.int (l2 ||| 0)), some (.int l3)]) rfl ?_
        refine go_iinc (pc := 42) (v := (l3 + 1)) dX6_settle_42 rfl (by rw [ci_1]) (Nat.le_of_ble_eq_true rfl) (L2 := [some (.ref 0), some (.int l1), some (.int (l2 ||| 0)), some (.int (l3 + 1))]) rfl ?_
        refine go_goto (pc := 45) (tgt := 11) dX6_settle_45 rfl ?_
        exact ih _ _ _ _ _  h
      · replace h := ifn h c19
        refine go_iconst (pc := 35) (v := 1) dX6_settle_35 ci_1 ?_
        refine go_goto (pc := 36) (tgt := 40) dX6_settle_36 rfl ?_
        refine go_ior (pc := 40) dX6_settle_40 ?_
        refine go_istore_n (pc := 41) (i := 2) dX6_settle_41 rfl (Nat.le_of_ble_eq_true rfl) (L2 := [some (.ref 0), some (.int l1), some (.int (l2 ||| 1)), some (.int l3)]) rfl ?_
        refine go_iinc (pc := 42) (v := (l3 + 1)) dX6_settle_42 rfl (by rw [ci_1]) (Nat.le_of_ble_eq_true rfl) (L2 := [some (.ref 0), some (.int l1), some (.int (l2 ||| 1)), some (.int (l3 + 1))]) rfl ?_
        refine go_goto (pc := 45) (tgt := 11) dX6_settle_45 rfl ?_
        exact ih _ _ _ _ _  h
def eX6_settle_b2 : Nat → Int32 → Mm → Option (Mm)
  | 0, _, _ => none
  | n + 1, l1, V => 
    if 3 ≤ l1 then
      some V
    else
      eX6_settle_b11 (fun l1 V => eX6_settle_b2 n l1 V) fu l1 0 0 V
set_option maxHeartbeats 4000000 in
set_option maxRecDepth 100000 in
theorem gX6_settle_b2 : ∀ (n : Nat) (l1 : Int32) (V : Mm) (res : Mm) , eX6_settle_b2 n l1 V = some res → Go mX6_settle 2 [some (.ref 0), some (.int l1), none, none] [] (hM V) 0 0 none (hM res) := by
  intro n
  induction n with
  | zero =>
    intro l1 V res  h
    cases h
  | succ n ih =>
    intro l1 V res  h
    rw [eX6_settle_b2] at h
    refine go_iload_n (pc := 2) dX6_settle_2 rfl rfl ?_
    refine go_iconst (pc := 3) (v := 3) dX6_settle_3 ci_3 ?_
    refine go_icmp_ge (pc := 4) (tgt := 128) dX6_settle_4 rfl (fun c1 => ?_) (fun c1 => ?_)
    · replace h := ifp h c1
      cases h
      exact go_vret (pc := 128) rfl ⟨Nat.zero_le _, Nat.zero_le _⟩ dX6_settle_128
    · replace h := ifn h c1
      refine go_iconst (pc := 7) (v := 0) dX6_settle_7 ci_0 ?_
      refine go_istore_n (pc := 8) (i := 2) dX6_settle_8 rfl (Nat.le_of_ble_eq_true rfl) (L2 := [some (.ref 0), some (.int l1), some (.int 0), none]) rfl ?_
      refine go_iconst (pc := 9) (v := 0) dX6_settle_9 ci_0 ?_
      refine go_istore_n (pc := 10) (i := 3) dX6_settle_10 rfl (Nat.le_of_ble_eq_true rfl) (L2 := [some (.ref 0), some (.int l1), some (.int 0), some (.int 0)]) rfl ?_
      exact gX6_settle_b11 ih _ _ _ _ _ _  h
def eX6_settle  (V : Mm) : Option (Mm) :=
  eX6_settle_b2 fu 0 V
set_option maxHeartbeats 4000000 in
set_option maxRecDepth 100000 in
theorem E_X6_settle  {V : Mm} {res : Mm}  (h : eX6_settle V = some res) : Ev mX6_settle [.ref 0] (hM V) none (hM res) := by
  refine Ev.of (n := 3) oX6_settle.1 (Nat.le_of_ble_eq_true rfl) ?_
  unfold eX6_settle at h
  show Go mX6_settle 0 [some (.ref 0), none, none, none] [] (hM V) 0 0 none (hM res)
  refine go_iconst (pc := 0) (v := 0) dX6_settle_0 ci_0 ?_
  refine go_istore_n (pc := 1) (i := 1) dX6_settle_1 rfl (Nat.le_of_ble_eq_true rfl) (L2 := [some (.ref 0), some (.int 0), none, none]) rfl ?_
  exact gX6_settle_b2 _ _ _ _  h
def eX6_number (a1 : Int32) (V : Mm) : Option (Int32) :=
  if ((5 * (V 0 21)) + a1) < 0 ∨ 60 ≤ ((5 * (V 0 21)) + a1).toNatClampNeg then none else
  some (V 6 (((5 * (V 0 21)) + a1).toNatClampNeg))
set_option maxHeartbeats 4000000 in
set_option maxRecDepth 100000 in
theorem E_X6_number {a1 : Int32} {V : Mm} {res : Int32}  (h : eX6_number a1 V = some res) : Ev mX6_number [.ref 0, .int a1] (hM V) (some (.int res)) (hM V) := by
  refine Ev.of (n := 0) oX6_number.1 (Nat.le_of_ble_eq_true rfl) ?_
  unfold eX6_number at h
  show Go mX6_number 0 [some (.ref 0), some (.int a1)] [] (hM V) 0 0 (some (.int res)) (hM V)
  refine go_aload_n (pc := 0) dX6_number_0 rfl rfl ?_
  refine go_getP (pc := 1) (a := 6) fX6_25 (by decide) (show TM 0 = (6 + 5, 29) from rfl) rfl dX6_number_1 ?_
  refine go_iconst (pc := 4) (v := 5) dX6_number_4 ci_5 ?_
  refine go_aload_n (pc := 5) dX6_number_5 rfl rfl ?_
  refine go_gI (pc := 6) (v := V 0 21) fX6_129 (by decide) (show TM 0 = (6 + 5, 29) from rfl) dX6_number_6 rfl ?_
  refine go_imul (pc := 9) dX6_number_9 ?_
  refine go_iload_n (pc := 10) dX6_number_10 rfl rfl ?_
  refine go_iadd (pc := 11) dX6_number_11 ?_
  obtain ⟨c1, h⟩ := ok_not h
  refine go_ia (pc := 12) (v := V 6 (((5 * (V 0 21)) + a1).toNatClampNeg)) (show TM 6 = (0, 60) from rfl) (vin c1) dX6_number_12 rfl ?_
  cases h
  exact go_iret (pc := 13) (Or.inl rfl) ⟨Nat.zero_le _, Nat.zero_le _⟩ dX6_number_13
def eX6_isKnown (a1 : Int32) (V : Mm) : Option (Int32) :=
  if (V 0 21) ≤ a1 then
    some 0
  else
    if a1 < 0 ∨ 12 ≤ a1.toNatClampNeg then none else
    if (V 8 a1.toNatClampNeg) = 0 then
      some 1
    else
      some 0
set_option maxHeartbeats 4000000 in
set_option maxRecDepth 100000 in
theorem E_X6_isKnown {a1 : Int32} {V : Mm} {res : Int32}  (h : eX6_isKnown a1 V = some res) : Ev mX6_isKnown [.ref 0, .int a1] (hM V) (some (.int res)) (hM V) := by
  refine Ev.of (n := 0) oX6_isKnown.1 (Nat.le_of_ble_eq_true rfl) ?_
  unfold eX6_isKnown at h
  show Go mX6_isKnown 0 [some (.ref 0), some (.int a1)] [] (hM V) 0 0 (some (.int res)) (hM V)
  refine go_iload_n (pc := 0) dX6_isKnown_0 rfl rfl ?_
  refine go_aload_n (pc := 1) dX6_isKnown_1 rfl rfl ?_
  refine go_gI (pc := 2) (v := V 0 21) fX6_129 (by decide) (show TM 0 = (6 + 5, 29) from rfl) dX6_isKnown_2 rfl ?_
  refine go_icmp_ge (pc := 5) (tgt := 21) dX6_isKnown_5 rfl (fun c1 => ?_) (fun c1 => ?_)
  · replace h := ifp h c1
    refine go_iconst (pc := 21) (v := 0) dX6_isKnown_21 ci_0 ?_
    cases h
    exact go_iret (pc := 22) (Or.inr ⟨rfl, Or.inl rfl⟩) ⟨Nat.zero_le _, Nat.zero_le _⟩ dX6_isKnown_22
  · replace h := ifn h c1
    refine go_aload_n (pc := 8) dX6_isKnown_8 rfl rfl ?_
    refine go_getP (pc := 9) (a := 8) fX6_35 (by decide) (show TM 0 = (6 + 5, 29) from rfl) rfl dX6_isKnown_9 ?_
    refine go_iload_n (pc := 12) dX6_isKnown_12 rfl rfl ?_
    obtain ⟨c2, h⟩ := ok_not h
    refine go_ia (pc := 13) (v := V 8 a1.toNatClampNeg) (show TM 8 = (0, 12) from rfl) (vin c2) dX6_isKnown_13 rfl ?_
    refine go_if_ne (pc := 14) (tgt := 21) dX6_isKnown_14 rfl (fun c3 => ?_) (fun c3 => ?_)
    · replace h := ifn h c3
      refine go_iconst (pc := 21) (v := 0) dX6_isKnown_21 ci_0 ?_
      cases h
      exact go_iret (pc := 22) (Or.inr ⟨rfl, Or.inl rfl⟩) ⟨Nat.zero_le _, Nat.zero_le _⟩ dX6_isKnown_22
    · replace h := ifp h c3
      refine go_iconst (pc := 17) (v := 1) dX6_isKnown_17 ci_1 ?_
      refine go_goto (pc := 18) (tgt := 22) dX6_isKnown_18 rfl ?_
      cases h
      exact go_iret (pc := 22) (Or.inr ⟨rfl, Or.inr rfl⟩) ⟨Nat.zero_le _, Nat.zero_le _⟩ dX6_isKnown_22
def eX6_isOne (a1 : Int32) (V : Mm) : Option (Int32) :=
  if a1 < 0 then
    if (V 0 21) ≤ ((-1) - a1) then
      some 0
    else
      (eX6_isKnown ((-1) - a1) V).bind fun r3 =>
      if r3 = 0 then
        some 0
      else
        if ((4 * ((-1) - a1)) + 1) < 0 ∨ 48 ≤ ((4 * ((-1) - a1)) + 1).toNatClampNeg then none else
        if (V 9 (((4 * ((-1) - a1)) + 1).toNatClampNeg)) ≤ 0 then
          some 0
        else
          some 1
  else
    some 1
set_option maxHeartbeats 4000000 in
set_option maxRecDepth 100000 in
theorem E_X6_isOne {a1 : Int32} {V : Mm} {res : Int32}  (h : eX6_isOne a1 V = some res) : Ev mX6_isOne [.ref 0, .int a1] (hM V) (some (.int res)) (hM V) := by
  refine Ev.of (n := 1) oX6_isOne.1 (Nat.le_of_ble_eq_true rfl) ?_
  unfold eX6_isOne at h
  show Go mX6_isOne 0 [some (.ref 0), some (.int a1), none] [] (hM V) 0 0 (some (.int res)) (hM V)
  refine go_iload_n (pc := 0) dX6_isOne_0 rfl rfl ?_
  refine go_if_lt (pc := 1) (tgt := 6) dX6_isOne_1 rfl (fun c1 => ?_) (fun c1 => ?_)
  · replace h := ifp h c1
    refine go_iconst (pc := 6) (v := (-1)) dX6_isOne_6 ci_m1 ?_
    refine go_iload_n (pc := 7) dX6_isOne_7 rfl rfl ?_
    refine go_isub (pc := 8) dX6_isOne_8 ?_
    refine go_istore_n (pc := 9) (i := 2) dX6_isOne_9 rfl (Nat.le_of_ble_eq_true rfl) (L2 := [some (.ref 0), some (.int a1), some (.int ((-1) - a1))]) rfl ?_
    refine go_iload_n (pc := 10) dX6_isOne_10 rfl rfl ?_
    refine go_aload_n (pc := 11) dX6_isOne_11 rfl rfl ?_
    refine go_gI (pc := 12) (v := V 0 21) fX6_129 (by decide) (show TM 0 = (6 + 5, 29) from rfl) dX6_isOne_12 rfl ?_
    refine go_icmp_ge (pc := 15) (tgt := 43) dX6_isOne_15 rfl (fun c2 => ?_) (fun c2 => ?_)
    · replace h := ifp h c2
      refine go_iconst (pc := 43) (v := 0) dX6_isOne_43 ci_0 ?_
      cases h
      exact go_iret (pc := 44) (Or.inr ⟨rfl, Or.inl rfl⟩) ⟨Nat.zero_le _, Nat.zero_le _⟩ dX6_isOne_44
    · replace h := ifn h c2
      refine go_aload_n (pc := 18) dX6_isOne_18 rfl rfl ?_
      refine go_iload_n (pc := 19) dX6_isOne_19 rfl rfl ?_
      obtain ⟨r3, e4, h⟩ := ok_bind h
      refine go_cV (pc := 20) (ci := 6) (As := [.int ((-1) - a1)]) (st := []) (E_X6_isKnown e4) rfl oX6_isKnown iX6_isKnown sX6_isKnown kX6_132 rfl (show TM 0 = (6 + 5, 29) from rfl) rfl (Nat.le_of_ble_eq_true rfl) ⟨Nat.le_of_ble_eq_true rfl, Nat.le_of_ble_eq_true rfl⟩ ⟨rfl, rfl⟩ dX6_isOne_20 (st2 := [.int r3]) rfl ?_
      refine go_if_eq (pc := 23) (tgt := 43) dX6_isOne_23 rfl (fun c5 => ?_) (fun c5 => ?_)
      · replace h := ifp h c5
        refine go_iconst (pc := 43) (v := 0) dX6_isOne_43 ci_0 ?_
        cases h
        exact go_iret (pc := 44) (Or.inr ⟨rfl, Or.inl rfl⟩) ⟨Nat.zero_le _, Nat.zero_le _⟩ dX6_isOne_44
      · replace h := ifn h c5
        refine go_aload_n (pc := 26) dX6_isOne_26 rfl rfl ?_
        refine go_getP (pc := 27) (a := 9) fX6_38 (by decide) (show TM 0 = (6 + 5, 29) from rfl) rfl dX6_isOne_27 ?_
        refine go_iconst (pc := 30) (v := 4) dX6_isOne_30 ci_4 ?_
        refine go_iload_n (pc := 31) dX6_isOne_31 rfl rfl ?_
        refine go_imul (pc := 32) dX6_isOne_32 ?_
        refine go_iconst (pc := 33) (v := 1) dX6_isOne_33 ci_1 ?_
        refine go_iadd (pc := 34) dX6_isOne_34 ?_
        obtain ⟨c6, h⟩ := ok_not h
        refine go_ia (pc := 35) (v := V 9 (((4 * ((-1) - a1)) + 1).toNatClampNeg)) (show TM 9 = (0, 48) from rfl) (vin c6) dX6_isOne_35 rfl ?_
        refine go_if_le (pc := 36) (tgt := 43) dX6_isOne_36 rfl (fun c7 => ?_) (fun c7 => ?_)
        · replace h := ifp h c7
          refine go_iconst (pc := 43) (v := 0) dX6_isOne_43 ci_0 ?_
          cases h
          exact go_iret (pc := 44) (Or.inr ⟨rfl, Or.inl rfl⟩) ⟨Nat.zero_le _, Nat.zero_le _⟩ dX6_isOne_44
        · replace h := ifn h c7
          refine go_iconst (pc := 39) (v := 1) dX6_isOne_39 ci_1 ?_
          refine go_goto (pc := 40) (tgt := 44) dX6_isOne_40 rfl ?_
          cases h
          exact go_iret (pc := 44) (Or.inr ⟨rfl, Or.inr rfl⟩) ⟨Nat.zero_le _, Nat.zero_le _⟩ dX6_isOne_44
  · replace h := ifn h c1
    refine go_iconst (pc := 4) (v := 1) dX6_isOne_4 ci_1 ?_
    cases h
    exact go_iret (pc := 5) (Or.inr ⟨rfl, Or.inr rfl⟩) ⟨Nat.zero_le _, Nat.zero_le _⟩ dX6_isOne_5
def eX6_oneOf (a1 : Int32) (V : Mm) : Option (Int32) :=
  if a1 < 0 then
    if (50 * ((4 * ((-1) - a1)) + 1)) < 0 ∨ 2400 ≤ (50 * ((4 * ((-1) - a1)) + 1)).toNatClampNeg then none else
    some (V 10 ((50 * ((4 * ((-1) - a1)) + 1)).toNatClampNeg))
  else
    some a1
set_option maxHeartbeats 4000000 in
set_option maxRecDepth 100000 in
theorem E_X6_oneOf {a1 : Int32} {V : Mm} {res : Int32}  (h : eX6_oneOf a1 V = some res) : Ev mX6_oneOf [.ref 0, .int a1] (hM V) (some (.int res)) (hM V) := by
  refine Ev.of (n := 0) oX6_oneOf.1 (Nat.le_of_ble_eq_true rfl) ?_
  unfold eX6_oneOf at h
  show Go mX6_oneOf 0 [some (.ref 0), some (.int a1)] [] (hM V) 0 0 (some (.int res)) (hM V)
  refine go_iload_n (pc := 0) dX6_oneOf_0 rfl rfl ?_
  refine go_if_lt (pc := 1) (tgt := 8) dX6_oneOf_1 rfl (fun c1 => ?_) (fun c1 => ?_)
  · replace h := ifp h c1
    refine go_aload_n (pc := 8) dX6_oneOf_8 rfl rfl ?_
    refine go_getP (pc := 9) (a := 10) fX6_41 (by decide) (show TM 0 = (6 + 5, 29) from rfl) rfl dX6_oneOf_9 ?_
    refine go_bipush (pc := 12) (v := 50) dX6_oneOf_12 cb_50 ?_
    refine go_iconst (pc := 14) (v := 4) dX6_oneOf_14 ci_4 ?_
    refine go_iconst (pc := 15) (v := (-1)) dX6_oneOf_15 ci_m1 ?_
    refine go_iload_n (pc := 16) dX6_oneOf_16 rfl rfl ?_
    refine go_isub (pc := 17) dX6_oneOf_17 ?_
    refine go_imul (pc := 18) dX6_oneOf_18 ?_
    refine go_iconst (pc := 19) (v := 1) dX6_oneOf_19 ci_1 ?_
    refine go_iadd (pc := 20) dX6_oneOf_20 ?_
    refine go_imul (pc := 21) dX6_oneOf_21 ?_
    obtain ⟨c2, h⟩ := ok_not h
    refine go_ia (pc := 22) (v := V 10 ((50 * ((4 * ((-1) - a1)) + 1)).toNatClampNeg)) (show TM 10 = (0, 2400) from rfl) (vin c2) dX6_oneOf_22 rfl ?_
    cases h
    exact go_iret (pc := 23) (Or.inl rfl) ⟨Nat.zero_le _, Nat.zero_le _⟩ dX6_oneOf_23
  · replace h := ifn h c1
    refine go_iload_n (pc := 4) dX6_oneOf_4 rfl rfl ?_
    refine go_goto (pc := 5) (tgt := 23) dX6_oneOf_5 rfl ?_
    cases h
    exact go_iret (pc := 23) (Or.inl rfl) ⟨Nat.zero_le _, Nat.zero_le _⟩ dX6_oneOf_23
def eX6_areIds (a1 : Int32) (a2 : Int32) (V : Mm) : Option (Int32) :=
  if a1 = (-1) then
    (eX6_isOne a2 V).bind fun r5 =>
    if r5 = 0 ∨ r5 = 1 then
      some r5
    else none
  else
    (eX6_isKnown a1 V).bind fun r2 =>
    if r2 = 0 ∨ r2 = 1 then
      some r2
    else none
set_option maxHeartbeats 4000000 in
set_option maxRecDepth 100000 in
theorem E_X6_areIds {a1 : Int32} {a2 : Int32} {V : Mm} {res : Int32}  (h : eX6_areIds a1 a2 V = some res) : Ev mX6_areIds [.ref 0, .int a1, .int a2] (hM V) (some (.int res)) (hM V) := by
  refine Ev.of (n := 0) oX6_areIds.1 (Nat.le_of_ble_eq_true rfl) ?_
  unfold eX6_areIds at h
  show Go mX6_areIds 0 [some (.ref 0), some (.int a1), some (.int a2)] [] (hM V) 0 0 (some (.int res)) (hM V)
  refine go_iload_n (pc := 0) dX6_areIds_0 rfl rfl ?_
  refine go_iconst (pc := 1) (v := (-1)) dX6_areIds_1 ci_m1 ?_
  refine go_icmp_ne (pc := 2) (tgt := 13) dX6_areIds_2 rfl (fun c1 => ?_) (fun c1 => ?_)
  · replace h := ifn h c1
    refine go_aload_n (pc := 13) dX6_areIds_13 rfl rfl ?_
    refine go_iload_n (pc := 14) dX6_areIds_14 rfl rfl ?_
    obtain ⟨r2, e3, h⟩ := ok_bind h
    refine go_cV (pc := 15) (ci := 6) (As := [.int a1]) (st := []) (E_X6_isKnown e3) rfl oX6_isKnown iX6_isKnown sX6_isKnown kX6_132 rfl (show TM 0 = (6 + 5, 29) from rfl) rfl (Nat.le_of_ble_eq_true rfl) ⟨Nat.le_of_ble_eq_true rfl, Nat.le_of_ble_eq_true rfl⟩ ⟨rfl, rfl⟩ dX6_areIds_15 (st2 := [.int r2]) rfl ?_
    obtain ⟨c4, h⟩ := ok_if h
    cases h
    exact go_iret (pc := 18) (Or.inr ⟨rfl, c4⟩) ⟨Nat.zero_le _, Nat.zero_le _⟩ dX6_areIds_18
  · replace h := ifp h c1
    refine go_aload_n (pc := 5) dX6_areIds_5 rfl rfl ?_
    refine go_iload_n (pc := 6) dX6_areIds_6 rfl rfl ?_
    obtain ⟨r5, e6, h⟩ := ok_bind h
    refine go_cV (pc := 7) (ci := 6) (As := [.int a2]) (st := []) (E_X6_isOne e6) rfl oX6_isOne iX6_isOne sX6_isOne kX6_136 rfl (show TM 0 = (6 + 5, 29) from rfl) rfl (Nat.le_of_ble_eq_true rfl) ⟨Nat.le_of_ble_eq_true rfl, Nat.le_of_ble_eq_true rfl⟩ ⟨rfl, rfl⟩ dX6_areIds_7 (st2 := [.int r5]) rfl ?_
    refine go_goto (pc := 10) (tgt := 18) dX6_areIds_10 rfl ?_
    obtain ⟨c7, h⟩ := ok_if h
    cases h
    exact go_iret (pc := 18) (Or.inr ⟨rfl, c7⟩) ⟨Nat.zero_le _, Nat.zero_le _⟩ dX6_areIds_18
def eX6_takeIds_b38 : Nat → Int32 → Int32 → Int32 → Mm → Option (Mm)
  | 0, _, _, _, _ => none
  | n + 1, l1, l2, l3, V => 
    if (V 0 20) ≤ l3 then
      some V
    else
      if ((50 * ((4 * l1) + l2)) + l3) < 0 ∨ 2400 ≤ ((50 * ((4 * l1) + l2)) + l3).toNatClampNeg then none else
      if l3 < 0 ∨ 50 ≤ l3.toNatClampNeg then none else
      eX6_takeIds_b38 n l1 l2 (l3 + 1) (wr V 16 l3.toNatClampNeg (V 10 (((50 * ((4 * l1) + l2)) + l3).toNatClampNeg)))
set_option maxHeartbeats 4000000 in
set_option maxRecDepth 100000 in
theorem gX6_takeIds_b38 : ∀ (n : Nat) (l1 : Int32) (l2 : Int32) (l3 : Int32) (V : Mm) (res : Mm) , eX6_takeIds_b38 n l1 l2 l3 V = some res → Go mX6_takeIds 38 [some (.ref 0), some (.int l1), some (.int l2), some (.int l3)] [] (hM V) 0 0 none (hM res) := by
  intro n
  induction n with
  | zero =>
    intro l1 l2 l3 V res  h
    cases h
  | succ n ih =>
    intro l1 l2 l3 V res  h
    rw [eX6_takeIds_b38] at h
    refine go_iload_n (pc := 38) dX6_takeIds_38 rfl rfl ?_
    refine go_aload_n (pc := 39) dX6_takeIds_39 rfl rfl ?_
    refine go_gI (pc := 40) (v := V 0 20) fX6_143 (by decide) (show TM 0 = (6 + 5, 29) from rfl) dX6_takeIds_40 rfl ?_
    refine go_icmp_ge (pc := 43) (tgt := 73) dX6_takeIds_43 rfl (fun c3 => ?_) (fun c3 => ?_)
    · replace h := ifp h c3
      cases h
      exact go_vret (pc := 73) rfl ⟨Nat.zero_le _, Nat.zero_le _⟩ dX6_takeIds_73
    · replace h := ifn h c3
      refine go_aload_n (pc := 46) dX6_takeIds_46 rfl rfl ?_
      refine go_getP (pc := 47) (a := 16) fX6_59 (by decide) (show TM 0 = (6 + 5, 29) from rfl) rfl dX6_takeIds_47 ?_
      refine go_iload_n (pc := 50) dX6_takeIds_50 rfl rfl ?_
      refine go_aload_n (pc := 51) dX6_takeIds_51 rfl rfl ?_
      refine go_getP (pc := 52) (a := 10) fX6_41 (by decide) (show TM 0 = (6 + 5, 29) from rfl) rfl dX6_takeIds_52 ?_
      refine go_bipush (pc := 55) (v := 50) dX6_takeIds_55 cb_50 ?_
      refine go_iconst (pc := 57) (v := 4) dX6_takeIds_57 ci_4 ?_
      refine go_iload_n (pc := 58) dX6_takeIds_58 rfl rfl ?_
      refine go_imul (pc := 59) dX6_takeIds_59 ?_
      refine go_iload_n (pc := 60) dX6_takeIds_60 rfl rfl ?_
      refine go_iadd (pc := 61) dX6_takeIds_61 ?_
      refine go_imul (pc := 62) dX6_takeIds_62 ?_
      refine go_iload_n (pc := 63) dX6_takeIds_63 rfl rfl ?_
      refine go_iadd (pc := 64) dX6_takeIds_64 ?_
      obtain ⟨c4, h⟩ := ok_not h
      refine go_ia (pc := 65) (v := V 10 (((50 * ((4 * l1) + l2)) + l3).toNatClampNeg)) (show TM 10 = (0, 2400) from rfl) (vin c4) dX6_takeIds_65 rfl ?_
      obtain ⟨c5, h⟩ := ok_not h
      refine go_iast (pc := 66) (show TM 16 = (0, 50) from rfl) (vin c5) dX6_takeIds_66 ?_
      refine go_iinc (pc := 67) (v := (l3 + 1)) dX6_takeIds_67 rfl (by rw [ci_1]) (Nat.le_of_ble_eq_true rfl) (L2 := [some (.ref 0), some (.int l1), some (.int l2), some (.int (l3 + 1))]) rfl ?_
      refine go_goto (pc := 70) (tgt := 38) dX6_takeIds_70 rfl ?_
      exact ih _ _ _ _ _  h
def eX6_takeIds (a1 : Int32) (a2 : Int32) (V : Mm) : Option (Mm) :=
  if a1 = (-1) then
    (eX6_oneOf a2 V).bind fun r6 =>
    some (wr (wr V 16 0 r6) 0 20 1)
  else
    if ((4 * a1) + a2) < 0 ∨ 48 ≤ ((4 * a1) + a2).toNatClampNeg then none else
    eX6_takeIds_b38 fu a1 a2 0 (wr V 0 20 (V 9 (((4 * a1) + a2).toNatClampNeg)))
set_option maxHeartbeats 4000000 in
set_option maxRecDepth 100000 in
theorem E_X6_takeIds {a1 : Int32} {a2 : Int32} {V : Mm} {res : Mm}  (h : eX6_takeIds a1 a2 V = some res) : Ev mX6_takeIds [.ref 0, .int a1, .int a2] (hM V) none (hM res) := by
  refine Ev.of (n := 1) oX6_takeIds.1 (Nat.le_of_ble_eq_true rfl) ?_
  unfold eX6_takeIds at h
  show Go mX6_takeIds 0 [some (.ref 0), some (.int a1), some (.int a2), none] [] (hM V) 0 0 none (hM res)
  refine go_iload_n (pc := 0) dX6_takeIds_0 rfl rfl ?_
  refine go_iconst (pc := 1) (v := (-1)) dX6_takeIds_1 ci_m1 ?_
  refine go_icmp_ne (pc := 2) (tgt := 22) dX6_takeIds_2 rfl (fun c1 => ?_) (fun c1 => ?_)
  · replace h := ifn h c1
    refine go_aload_n (pc := 22) dX6_takeIds_22 rfl rfl ?_
    refine go_aload_n (pc := 23) dX6_takeIds_23 rfl rfl ?_
    refine go_getP (pc := 24) (a := 9) fX6_38 (by decide) (show TM 0 = (6 + 5, 29) from rfl) rfl dX6_takeIds_24 ?_
    refine go_iconst (pc := 27) (v := 4) dX6_takeIds_27 ci_4 ?_
    refine go_iload_n (pc := 28) dX6_takeIds_28 rfl rfl ?_
    refine go_imul (pc := 29) dX6_takeIds_29 ?_
    refine go_iload_n (pc := 30) dX6_takeIds_30 rfl rfl ?_
    refine go_iadd (pc := 31) dX6_takeIds_31 ?_
    obtain ⟨c2, h⟩ := ok_not h
    refine go_ia (pc := 32) (v := V 9 (((4 * a1) + a2).toNatClampNeg)) (show TM 9 = (0, 48) from rfl) (vin c2) dX6_takeIds_32 rfl ?_
    refine go_putI (pc := 33) (k := 20) fX6_143 (Or.inl rfl) (Or.inl rfl) (show TM 0 = (6 + 5, 29) from rfl) dX6_takeIds_33 ?_
    refine go_iconst (pc := 36) (v := 0) dX6_takeIds_36 ci_0 ?_
    refine go_istore_n (pc := 37) (i := 3) dX6_takeIds_37 rfl (Nat.le_of_ble_eq_true rfl) (L2 := [some (.ref 0), some (.int a1), some (.int a2), some (.int 0)]) rfl ?_
    exact gX6_takeIds_b38 _ _ _ _ _ _  h
  · replace h := ifp h c1
    refine go_aload_n (pc := 5) dX6_takeIds_5 rfl rfl ?_
    refine go_getP (pc := 6) (a := 16) fX6_59 (by decide) (show TM 0 = (6 + 5, 29) from rfl) rfl dX6_takeIds_6 ?_
    refine go_iconst (pc := 9) (v := 0) dX6_takeIds_9 ci_0 ?_
    refine go_aload_n (pc := 10) dX6_takeIds_10 rfl rfl ?_
    refine go_iload_n (pc := 11) dX6_takeIds_11 rfl rfl ?_
    obtain ⟨r6, e7, h⟩ := ok_bind h
    refine go_cV (pc := 12) (ci := 6) (As := [.int a2]) (st := [.int 0, .ref 16]) (E_X6_oneOf e7) rfl oX6_oneOf iX6_oneOf sX6_oneOf kX6_139 rfl (show TM 0 = (6 + 5, 29) from rfl) rfl (Nat.le_of_ble_eq_true rfl) ⟨Nat.le_of_ble_eq_true rfl, Nat.le_of_ble_eq_true rfl⟩ ⟨rfl, rfl⟩ dX6_takeIds_12 (st2 := [.int r6, .int 0, .ref 16]) rfl ?_
    refine go_iast (pc := 15) (show TM 16 = (0, 50) from rfl) (vin (by decide)) dX6_takeIds_15 ?_
    refine go_aload_n (pc := 16) dX6_takeIds_16 rfl rfl ?_
    refine go_iconst (pc := 17) (v := 1) dX6_takeIds_17 ci_1 ?_
    refine go_putI (pc := 18) (k := 20) fX6_143 (Or.inl rfl) (Or.inl rfl) (show TM 0 = (6 + 5, 29) from rfl) dX6_takeIds_18 ?_
    cases h
    exact go_vret (pc := 21) rfl ⟨Nat.zero_le _, Nat.zero_le _⟩ dX6_takeIds_21
def eX6_isRow (a0 : Int32) (a1 : Int32) (V : Mm) : Option (Int32) :=
  if a0 = (-1) then
    some 1
  else
    if a0 < 0 then
      some 0
    else
      (eX6_within a1 0 3 V).bind fun r3 =>
      if r3 = 0 then
        some 0
      else
        some 1
set_option maxHeartbeats 4000000 in
set_option maxRecDepth 100000 in
theorem E_X6_isRow {a0 : Int32} {a1 : Int32} {V : Mm} {res : Int32}  (h : eX6_isRow a0 a1 V = some res) : Ev mX6_isRow [.int a0, .int a1] (hM V) (some (.int res)) (hM V) := by
  refine Ev.of (n := 0) oX6_isRow.1 (Nat.le_of_ble_eq_true rfl) ?_
  unfold eX6_isRow at h
  show Go mX6_isRow 0 [some (.int a0), some (.int a1)] [] (hM V) 0 0 (some (.int res)) (hM V)
  refine go_iload_n (pc := 0) dX6_isRow_0 rfl rfl ?_
  refine go_iconst (pc := 1) (v := (-1)) dX6_isRow_1 ci_m1 ?_
  refine go_icmp_eq (pc := 2) (tgt := 18) dX6_isRow_2 rfl (fun c1 => ?_) (fun c1 => ?_)
  · replace h := ifp h c1
    refine go_iconst (pc := 18) (v := 1) dX6_isRow_18 ci_1 ?_
    refine go_goto (pc := 19) (tgt := 23) dX6_isRow_19 rfl ?_
    cases h
    exact go_iret (pc := 23) (Or.inr ⟨rfl, Or.inr rfl⟩) ⟨Nat.zero_le _, Nat.zero_le _⟩ dX6_isRow_23
  · replace h := ifn h c1
    refine go_iload_n (pc := 5) dX6_isRow_5 rfl rfl ?_
    refine go_if_lt (pc := 6) (tgt := 22) dX6_isRow_6 rfl (fun c2 => ?_) (fun c2 => ?_)
    · replace h := ifp h c2
      refine go_iconst (pc := 22) (v := 0) dX6_isRow_22 ci_0 ?_
      cases h
      exact go_iret (pc := 23) (Or.inr ⟨rfl, Or.inl rfl⟩) ⟨Nat.zero_le _, Nat.zero_le _⟩ dX6_isRow_23
    · replace h := ifn h c2
      refine go_iload_n (pc := 9) dX6_isRow_9 rfl rfl ?_
      refine go_iconst (pc := 10) (v := 0) dX6_isRow_10 ci_0 ?_
      refine go_iconst (pc := 11) (v := 3) dX6_isRow_11 ci_3 ?_
      obtain ⟨r3, e4, h⟩ := ok_bind h
      refine go_cS (pc := 12) (As := [.int a1, .int 0, .int 3]) (st := []) (E_X6_within e4) rfl oX6_within iX6_within kX6_99 rfl (Nat.le_of_ble_eq_true rfl) ⟨Nat.le_of_ble_eq_true rfl, Nat.le_of_ble_eq_true rfl⟩ ⟨rfl, rfl⟩ dX6_isRow_12 (st2 := [.int r3]) rfl ?_
      refine go_if_eq (pc := 15) (tgt := 22) dX6_isRow_15 rfl (fun c5 => ?_) (fun c5 => ?_)
      · replace h := ifp h c5
        refine go_iconst (pc := 22) (v := 0) dX6_isRow_22 ci_0 ?_
        cases h
        exact go_iret (pc := 23) (Or.inr ⟨rfl, Or.inl rfl⟩) ⟨Nat.zero_le _, Nat.zero_le _⟩ dX6_isRow_23
      · replace h := ifn h c5
        refine go_iconst (pc := 18) (v := 1) dX6_isRow_18 ci_1 ?_
        refine go_goto (pc := 19) (tgt := 23) dX6_isRow_19 rfl ?_
        cases h
        exact go_iret (pc := 23) (Or.inr ⟨rfl, Or.inr rfl⟩) ⟨Nat.zero_le _, Nat.zero_le _⟩ dX6_isRow_23
def eX6_doGet_b101 (k70 : Int32 → Int32 → Mm → Option (Int32 × Mm)) (l1 : Int32) (l2 : Int32) (s0 : Int32) (V : Mm) : Option (Int32 × Mm) :=
  if l2 < 0 ∨ 50 ≤ l2.toNatClampNeg then none else
  (eX6_isGiven (V 0 21) s0 (V 16 l2.toNatClampNeg) V).bind fun r32 =>
  if r32 = 0 then
    if l2 < 0 ∨ 50 ≤ l2.toNatClampNeg then none else
    (eX6_give (V 0 21) s0 (V 16 l2.toNatClampNeg) V).bind fun r36 =>
    k70 l1 (l2 + 1) r36
  else
    k70 l1 (l2 + 1) V
set_option maxHeartbeats 4000000 in
set_option maxRecDepth 100000 in
theorem gX6_doGet_b101 {k70 : Int32 → Int32 → Mm → Option (Int32 × Mm)} (hk70 : ∀ (l1 : Int32) (l2 : Int32) (V : Mm) (res : Int32 × Mm) , k70 l1 l2 V = some res → Go mX6_doGet 70 [some (.ref 0), some (.int l1), some (.int l2), none] [] (hM V) 0 0 (some (.int res.1)) (hM res.2)) {l1 : Int32} {l2 : Int32} {s0 : Int32} {V : Mm} {res : Int32 × Mm}  (h : eX6_doGet_b101 k70 l1 l2 s0 V = some res) : Go mX6_doGet 101 [some (.ref 0), some (.int l1), some (.int l2), none] [.int s0] (hM V) 0 0 (some (.int res.1)) (hM res.2) := by
  unfold eX6_doGet_b101 at h
  refine go_istore_n (pc := 101) (i := 3) dX6_doGet_101 rfl (Nat.le_of_ble_eq_true rfl) (L2 := [some (.ref 0), some (.int l1), some (.int l2), some (.int s0)]) rfl ?_
  refine go_aload_n (pc := 102) dX6_doGet_102 rfl rfl ?_
  refine go_aload_n (pc := 103) dX6_doGet_103 rfl rfl ?_
  refine go_gI (pc := 104) (v := V 0 21) fX6_129 (by decide) (show TM 0 = (6 + 5, 29) from rfl) dX6_doGet_104 rfl ?_
  refine go_iload_n (pc := 107) dX6_doGet_107 rfl rfl ?_
  refine go_aload_n (pc := 108) dX6_doGet_108 rfl rfl ?_
  refine go_getP (pc := 109) (a := 16) fX6_59 (by decide) (show TM 0 = (6 + 5, 29) from rfl) rfl dX6_doGet_109 ?_
  refine go_iload_n (pc := 112) dX6_doGet_112 rfl rfl ?_
  obtain ⟨c31, h⟩ := ok_not h
  refine go_ia (pc := 113) (v := V 16 l2.toNatClampNeg) (show TM 16 = (0, 50) from rfl) (vin c31) dX6_doGet_113 rfl ?_
  obtain ⟨r32, e33, h⟩ := ok_bind h
  refine go_cV (pc := 114) (ci := 6) (As := [.int (V 0 21), .int s0, .int (V 16 l2.toNatClampNeg)]) (st := []) (E_X6_isGiven e33) rfl oX6_isGiven iX6_isGiven sX6_isGiven kX6_159 rfl (show TM 0 = (6 + 5, 29) from rfl) rfl (Nat.le_of_ble_eq_true rfl) ⟨Nat.le_of_ble_eq_true rfl, Nat.le_of_ble_eq_true rfl⟩ ⟨rfl, rfl⟩ dX6_doGet_114 (st2 := [.int r32]) rfl ?_
  refine go_if_ne (pc := 117) (tgt := 135) dX6_doGet_117 rfl (fun c34 => ?_) (fun c34 => ?_)
  · replace h := ifn h c34
    refine go_iinc (pc := 135) (v := (l2 + 1)) dX6_doGet_135 rfl (by rw [ci_1]) (Nat.le_of_ble_eq_true rfl) (L2 := [some (.ref 0), some (.int l1), some (.int (l2 + 1)), some (.int s0)]) rfl ?_
    refine go_goto (pc := 138) (tgt := 70) dX6_doGet_138 rfl ?_
    refine go_le (lle_s (lle_s (lle_s (lle_n lle_0)))) ?_
    exact hk70 _ _ _ _  h
  · replace h := ifp h c34
    refine go_aload_n (pc := 120) dX6_doGet_120 rfl rfl ?_
    refine go_aload_n (pc := 121) dX6_doGet_121 rfl rfl ?_
    refine go_gI (pc := 122) (v := V 0 21) fX6_129 (by decide) (show TM 0 = (6 + 5, 29) from rfl) dX6_doGet_122 rfl ?_
    refine go_iload_n (pc := 125) dX6_doGet_125 rfl rfl ?_
    refine go_aload_n (pc := 126) dX6_doGet_126 rfl rfl ?_
    refine go_getP (pc := 127) (a := 16) fX6_59 (by decide) (show TM 0 = (6 + 5, 29) from rfl) rfl dX6_doGet_127 ?_
    refine go_iload_n (pc := 130) dX6_doGet_130 rfl rfl ?_
    obtain ⟨c35, h⟩ := ok_not h
    refine go_ia (pc := 131) (v := V 16 l2.toNatClampNeg) (show TM 16 = (0, 50) from rfl) (vin c35) dX6_doGet_131 rfl ?_
    obtain ⟨r36, e37, h⟩ := ok_bind h
    refine go_cV (pc := 132) (ci := 6) (As := [.int (V 0 21), .int s0, .int (V 16 l2.toNatClampNeg)]) (st := []) (E_X6_give e37) rfl oX6_give iX6_give sX6_give kX6_162 rfl (show TM 0 = (6 + 5, 29) from rfl) rfl (Nat.le_of_ble_eq_true rfl) ⟨Nat.le_of_ble_eq_true rfl, Nat.le_of_ble_eq_true rfl⟩ ⟨rfl, rfl⟩ dX6_doGet_132 (st2 := []) rfl ?_
    refine go_iinc (pc := 135) (v := (l2 + 1)) dX6_doGet_135 rfl (by rw [ci_1]) (Nat.le_of_ble_eq_true rfl) (L2 := [some (.ref 0), some (.int l1), some (.int (l2 + 1)), some (.int s0)]) rfl ?_
    refine go_goto (pc := 138) (tgt := 70) dX6_doGet_138 rfl ?_
    refine go_le (lle_s (lle_s (lle_s (lle_n lle_0)))) ?_
    exact hk70 _ _ _ _  h
def eX6_doGet_b70 : Nat → Int32 → Int32 → Mm → Option (Int32 × Mm)
  | 0, _, _, _ => none
  | n + 1, l1, l2, V => 
    if (V 0 20) ≤ l2 then
      some (0, V)
    else
      if l2 < 0 ∨ 50 ≤ l2.toNatClampNeg then none else
      (eX6_isThere 1 l1 (V 16 l2.toNatClampNeg) V).bind fun r28 =>
      if r28 = 0 then
        eX6_doGet_b101 (fun l1 l2 V => eX6_doGet_b70 n l1 l2 V) l1 l2 3 V
      else
        eX6_doGet_b101 (fun l1 l2 V => eX6_doGet_b70 n l1 l2 V) l1 l2 0 V
set_option maxHeartbeats 4000000 in
set_option maxRecDepth 100000 in
theorem gX6_doGet_b70 : ∀ (n : Nat) (l1 : Int32) (l2 : Int32) (V : Mm) (res : Int32 × Mm) , eX6_doGet_b70 n l1 l2 V = some res → Go mX6_doGet 70 [some (.ref 0), some (.int l1), some (.int l2), none] [] (hM V) 0 0 (some (.int res.1)) (hM res.2) := by
  intro n
  induction n with
  | zero =>
    intro l1 l2 V res  h
    cases h
  | succ n ih =>
    intro l1 l2 V res  h
    rw [eX6_doGet_b70] at h
    refine go_iload_n (pc := 70) dX6_doGet_70 rfl rfl ?_
    refine go_aload_n (pc := 71) dX6_doGet_71 rfl rfl ?_
    refine go_gI (pc := 72) (v := V 0 20) fX6_143 (by decide) (show TM 0 = (6 + 5, 29) from rfl) dX6_doGet_72 rfl ?_
    refine go_icmp_ge (pc := 75) (tgt := 141) dX6_doGet_75 rfl (fun c26 => ?_) (fun c26 => ?_)
    · replace h := ifp h c26
      refine go_iconst (pc := 141) (v := 0) dX6_doGet_141 ci_0 ?_
      cases h
      exact go_iret (pc := 142) (Or.inl rfl) ⟨Nat.zero_le _, Nat.zero_le _⟩ dX6_doGet_142
    · replace h := ifn h c26
      refine go_aload_n (pc := 78) dX6_doGet_78 rfl rfl ?_
      refine go_aload_n (pc := 79) dX6_doGet_79 rfl rfl ?_
      refine go_getP (pc := 80) (a := 1) fX6_7 (by decide) (show TM 0 = (6 + 5, 29) from rfl) rfl dX6_doGet_80 ?_
      refine go_iload_n (pc := 83) dX6_doGet_83 rfl rfl ?_
      refine go_aload_n (pc := 84) dX6_doGet_84 rfl rfl ?_
      refine go_getP (pc := 85) (a := 16) fX6_59 (by decide) (show TM 0 = (6 + 5, 29) from rfl) rfl dX6_doGet_85 ?_
      refine go_iload_n (pc := 88) dX6_doGet_88 rfl rfl ?_
      obtain ⟨c27, h⟩ := ok_not h
      refine go_ia (pc := 89) (v := V 16 l2.toNatClampNeg) (show TM 16 = (0, 50) from rfl) (vin c27) dX6_doGet_89 rfl ?_
      obtain ⟨r28, e29, h⟩ := ok_bind h
      refine go_cV (pc := 90) (ci := 6) (As := [.ref 1, .int l1, .int (V 16 l2.toNatClampNeg)]) (st := []) (E_X6_isThere isW_1 e29) rfl oX6_isThere iX6_isThere sX6_isThere kX6_113 rfl (show TM 0 = (6 + 5, 29) from rfl) rfl (Nat.le_of_ble_eq_true rfl) ⟨Nat.le_of_ble_eq_true rfl, Nat.le_of_ble_eq_true rfl⟩ ⟨rfl, rfl⟩ dX6_doGet_90 (st2 := [.int r28]) rfl ?_
      refine go_if_eq (pc := 93) (tgt := 100) dX6_doGet_93 rfl (fun c30 => ?_) (fun c30 => ?_)
      · replace h := ifp h c30
        refine go_iconst (pc := 100) (v := 3) dX6_doGet_100 ci_3 ?_
        exact gX6_doGet_b101 ih  h
      · replace h := ifn h c30
        refine go_iconst (pc := 96) (v := 0) dX6_doGet_96 ci_0 ?_
        refine go_goto (pc := 97) (tgt := 101) dX6_doGet_97 rfl ?_
        exact gX6_doGet_b101 ih  h
def eX6_doGet  (V : Mm) : Option (Int32 × Mm) :=
  (eX6_number 0 V).bind fun r1 =>
  (eX6_within r1 0 2 V).bind fun r3 =>
  if r3 = 0 then
    some ((-2), V)
  else
    (eX6_number 1 V).bind fun r6 =>
    (eX6_number 2 V).bind fun r8 =>
    (eX6_isRow r6 r8 V).bind fun r10 =>
    if r10 = 0 then
      some ((-2), V)
    else
      (eX6_number 1 V).bind fun r13 =>
      (eX6_number 2 V).bind fun r15 =>
      (eX6_areIds r13 r15 V).bind fun r17 =>
      if r17 = 0 then
        some ((-5), V)
      else
        (eX6_number 1 V).bind fun r20 =>
        (eX6_number 2 V).bind fun r22 =>
        (eX6_takeIds r20 r22 V).bind fun r24 =>
        eX6_doGet_b70 fu r1 0 r24
set_option maxHeartbeats 4000000 in
set_option maxRecDepth 100000 in
theorem E_X6_doGet  {V : Mm} {res : Int32 × Mm}  (h : eX6_doGet V = some res) : Ev mX6_doGet [.ref 0] (hM V) (some (.int res.1)) (hM res.2) := by
  refine Ev.of (n := 3) oX6_doGet.1 (Nat.le_of_ble_eq_true rfl) ?_
  unfold eX6_doGet at h
  show Go mX6_doGet 0 [some (.ref 0), none, none, none] [] (hM V) 0 0 (some (.int res.1)) (hM res.2)
  refine go_aload_n (pc := 0) dX6_doGet_0 rfl rfl ?_
  refine go_iconst (pc := 1) (v := 0) dX6_doGet_1 ci_0 ?_
  obtain ⟨r1, e2, h⟩ := ok_bind h
  refine go_cV (pc := 2) (ci := 6) (As := [.int 0]) (st := []) (E_X6_number e2) rfl oX6_number iX6_number sX6_number kX6_146 rfl (show TM 0 = (6 + 5, 29) from rfl) rfl (Nat.le_of_ble_eq_true rfl) ⟨Nat.le_of_ble_eq_true rfl, Nat.le_of_ble_eq_true rfl⟩ ⟨rfl, rfl⟩ dX6_doGet_2 (st2 := [.int r1]) rfl ?_
  refine go_istore_n (pc := 5) (i := 1) dX6_doGet_5 rfl (Nat.le_of_ble_eq_true rfl) (L2 := [some (.ref 0), some (.int r1), none, none]) rfl ?_
  refine go_iload_n (pc := 6) dX6_doGet_6 rfl rfl ?_
  refine go_iconst (pc := 7) (v := 0) dX6_doGet_7 ci_0 ?_
  refine go_iconst (pc := 8) (v := 2) dX6_doGet_8 ci_2 ?_
  obtain ⟨r3, e4, h⟩ := ok_bind h
  refine go_cS (pc := 9) (As := [.int r1, .int 0, .int 2]) (st := []) (E_X6_within e4) rfl oX6_within iX6_within kX6_99 rfl (Nat.le_of_ble_eq_true rfl) ⟨Nat.le_of_ble_eq_true rfl, Nat.le_of_ble_eq_true rfl⟩ ⟨rfl, rfl⟩ dX6_doGet_9 (st2 := [.int r3]) rfl ?_
  refine go_if_eq (pc := 12) (tgt := 31) dX6_doGet_12 rfl (fun c5 => ?_) (fun c5 => ?_)
  · replace h := ifp h c5
    refine go_bipush (pc := 31) (v := (-2)) dX6_doGet_31 cb_m2 ?_
    cases h
    exact go_iret (pc := 33) (Or.inl rfl) ⟨Nat.zero_le _, Nat.zero_le _⟩ dX6_doGet_33
  · replace h := ifn h c5
    refine go_aload_n (pc := 15) dX6_doGet_15 rfl rfl ?_
    refine go_iconst (pc := 16) (v := 1) dX6_doGet_16 ci_1 ?_
    obtain ⟨r6, e7, h⟩ := ok_bind h
    refine go_cV (pc := 17) (ci := 6) (As := [.int 1]) (st := []) (E_X6_number e7) rfl oX6_number iX6_number sX6_number kX6_146 rfl (show TM 0 = (6 + 5, 29) from rfl) rfl (Nat.le_of_ble_eq_true rfl) ⟨Nat.le_of_ble_eq_true rfl, Nat.le_of_ble_eq_true rfl⟩ ⟨rfl, rfl⟩ dX6_doGet_17 (st2 := [.int r6]) rfl ?_
    refine go_aload_n (pc := 20) dX6_doGet_20 rfl rfl ?_
    refine go_iconst (pc := 21) (v := 2) dX6_doGet_21 ci_2 ?_
    obtain ⟨r8, e9, h⟩ := ok_bind h
    refine go_cV (pc := 22) (ci := 6) (As := [.int 2]) (st := [.int r6]) (E_X6_number e9) rfl oX6_number iX6_number sX6_number kX6_146 rfl (show TM 0 = (6 + 5, 29) from rfl) rfl (Nat.le_of_ble_eq_true rfl) ⟨Nat.le_of_ble_eq_true rfl, Nat.le_of_ble_eq_true rfl⟩ ⟨rfl, rfl⟩ dX6_doGet_22 (st2 := [.int r8, .int r6]) rfl ?_
    obtain ⟨r10, e11, h⟩ := ok_bind h
    refine go_cS (pc := 25) (As := [.int r6, .int r8]) (st := []) (E_X6_isRow e11) rfl oX6_isRow iX6_isRow kX6_149 rfl (Nat.le_of_ble_eq_true rfl) ⟨Nat.le_of_ble_eq_true rfl, Nat.le_of_ble_eq_true rfl⟩ ⟨rfl, rfl⟩ dX6_doGet_25 (st2 := [.int r10]) rfl ?_
    refine go_if_ne (pc := 28) (tgt := 34) dX6_doGet_28 rfl (fun c12 => ?_) (fun c12 => ?_)
    · replace h := ifn h c12
      refine go_aload_n (pc := 34) dX6_doGet_34 rfl rfl ?_
      refine go_aload_n (pc := 35) dX6_doGet_35 rfl rfl ?_
      refine go_iconst (pc := 36) (v := 1) dX6_doGet_36 ci_1 ?_
      obtain ⟨r13, e14, h⟩ := ok_bind h
      refine go_cV (pc := 37) (ci := 6) (As := [.int 1]) (st := [.ref 0]) (E_X6_number e14) rfl oX6_number iX6_number sX6_number kX6_146 rfl (show TM 0 = (6 + 5, 29) from rfl) rfl (Nat.le_of_ble_eq_true rfl) ⟨Nat.le_of_ble_eq_true rfl, Nat.le_of_ble_eq_true rfl⟩ ⟨rfl, rfl⟩ dX6_doGet_37 (st2 := [.int r13, .ref 0]) rfl ?_
      refine go_aload_n (pc := 40) dX6_doGet_40 rfl rfl ?_
      refine go_iconst (pc := 41) (v := 2) dX6_doGet_41 ci_2 ?_
      obtain ⟨r15, e16, h⟩ := ok_bind h
      refine go_cV (pc := 42) (ci := 6) (As := [.int 2]) (st := [.int r13, .ref 0]) (E_X6_number e16) rfl oX6_number iX6_number sX6_number kX6_146 rfl (show TM 0 = (6 + 5, 29) from rfl) rfl (Nat.le_of_ble_eq_true rfl) ⟨Nat.le_of_ble_eq_true rfl, Nat.le_of_ble_eq_true rfl⟩ ⟨rfl, rfl⟩ dX6_doGet_42 (st2 := [.int r15, .int r13, .ref 0]) rfl ?_
      obtain ⟨r17, e18, h⟩ := ok_bind h
      refine go_cV (pc := 45) (ci := 6) (As := [.int r13, .int r15]) (st := []) (E_X6_areIds e18) rfl oX6_areIds iX6_areIds sX6_areIds kX6_152 rfl (show TM 0 = (6 + 5, 29) from rfl) rfl (Nat.le_of_ble_eq_true rfl) ⟨Nat.le_of_ble_eq_true rfl, Nat.le_of_ble_eq_true rfl⟩ ⟨rfl, rfl⟩ dX6_doGet_45 (st2 := [.int r17]) rfl ?_
      refine go_if_ne (pc := 48) (tgt := 54) dX6_doGet_48 rfl (fun c19 => ?_) (fun c19 => ?_)
      · replace h := ifn h c19
        refine go_aload_n (pc := 54) dX6_doGet_54 rfl rfl ?_
        refine go_aload_n (pc := 55) dX6_doGet_55 rfl rfl ?_
        refine go_iconst (pc := 56) (v := 1) dX6_doGet_56 ci_1 ?_
        obtain ⟨r20, e21, h⟩ := ok_bind h
        refine go_cV (pc := 57) (ci := 6) (As := [.int 1]) (st := [.ref 0]) (E_X6_number e21) rfl oX6_number iX6_number sX6_number kX6_146 rfl (show TM 0 = (6 + 5, 29) from rfl) rfl (Nat.le_of_ble_eq_true rfl) ⟨Nat.le_of_ble_eq_true rfl, Nat.le_of_ble_eq_true rfl⟩ ⟨rfl, rfl⟩ dX6_doGet_57 (st2 := [.int r20, .ref 0]) rfl ?_
        refine go_aload_n (pc := 60) dX6_doGet_60 rfl rfl ?_
        refine go_iconst (pc := 61) (v := 2) dX6_doGet_61 ci_2 ?_
        obtain ⟨r22, e23, h⟩ := ok_bind h
        refine go_cV (pc := 62) (ci := 6) (As := [.int 2]) (st := [.int r20, .ref 0]) (E_X6_number e23) rfl oX6_number iX6_number sX6_number kX6_146 rfl (show TM 0 = (6 + 5, 29) from rfl) rfl (Nat.le_of_ble_eq_true rfl) ⟨Nat.le_of_ble_eq_true rfl, Nat.le_of_ble_eq_true rfl⟩ ⟨rfl, rfl⟩ dX6_doGet_62 (st2 := [.int r22, .int r20, .ref 0]) rfl ?_
        obtain ⟨r24, e25, h⟩ := ok_bind h
        refine go_cV (pc := 65) (ci := 6) (As := [.int r20, .int r22]) (st := []) (E_X6_takeIds e25) rfl oX6_takeIds iX6_takeIds sX6_takeIds kX6_155 rfl (show TM 0 = (6 + 5, 29) from rfl) rfl (Nat.le_of_ble_eq_true rfl) ⟨Nat.le_of_ble_eq_true rfl, Nat.le_of_ble_eq_true rfl⟩ ⟨rfl, rfl⟩ dX6_doGet_65 (st2 := []) rfl ?_
        refine go_iconst (pc := 68) (v := 0) dX6_doGet_68 ci_0 ?_
        refine go_istore_n (pc := 69) (i := 2) dX6_doGet_69 rfl (Nat.le_of_ble_eq_true rfl) (L2 := [some (.ref 0), some (.int r1), some (.int 0), none]) rfl ?_
        exact gX6_doGet_b70 _ _ _ _ _  h
      · replace h := ifp h c19
        refine go_bipush (pc := 51) (v := (-5)) dX6_doGet_51 cb_m5 ?_
        cases h
        exact go_iret (pc := 53) (Or.inl rfl) ⟨Nat.zero_le _, Nat.zero_le _⟩ dX6_doGet_53
    · replace h := ifp h c12
      refine go_bipush (pc := 31) (v := (-2)) dX6_doGet_31 cb_m2 ?_
      cases h
      exact go_iret (pc := 33) (Or.inl rfl) ⟨Nat.zero_le _, Nat.zero_le _⟩ dX6_doGet_33
def eX6_keyOf (a1 : Int32) (a2 : Int32) (V : Mm) : Option (Int32) :=
  if a2 = 0 then
    (eX6_mailPart 1 a1 6 V).bind fun r8 =>
    some r8
  else
    if a2 = 1 then
      (eX6_mailPart 1 a1 5 V).bind fun r6 =>
      some r6
    else
      if a2 = 2 then
        (eX6_mailPart 1 a1 1 V).bind fun r4 =>
        some r4
      else
        some a1
set_option maxHeartbeats 4000000 in
set_option maxRecDepth 100000 in
theorem E_X6_keyOf {a1 : Int32} {a2 : Int32} {V : Mm} {res : Int32}  (h : eX6_keyOf a1 a2 V = some res) : Ev mX6_keyOf [.ref 0, .int a1, .int a2] (hM V) (some (.int res)) (hM V) := by
  refine Ev.of (n := 0) oX6_keyOf.1 (Nat.le_of_ble_eq_true rfl) ?_
  unfold eX6_keyOf at h
  show Go mX6_keyOf 0 [some (.ref 0), some (.int a1), some (.int a2)] [] (hM V) 0 0 (some (.int res)) (hM V)
  refine go_iload_n (pc := 0) dX6_keyOf_0 rfl rfl ?_
  refine go_if_ne (pc := 1) (tgt := 18) dX6_keyOf_1 rfl (fun c1 => ?_) (fun c1 => ?_)
  · replace h := ifn h c1
    refine go_iload_n (pc := 18) dX6_keyOf_18 rfl rfl ?_
    refine go_iconst (pc := 19) (v := 1) dX6_keyOf_19 ci_1 ?_
    refine go_icmp_ne (pc := 20) (tgt := 36) dX6_keyOf_20 rfl (fun c2 => ?_) (fun c2 => ?_)
    · replace h := ifn h c2
      refine go_iload_n (pc := 36) dX6_keyOf_36 rfl rfl ?_
      refine go_iconst (pc := 37) (v := 2) dX6_keyOf_37 ci_2 ?_
      refine go_icmp_ne (pc := 38) (tgt := 54) dX6_keyOf_38 rfl (fun c3 => ?_) (fun c3 => ?_)
      · replace h := ifn h c3
        refine go_iload_n (pc := 54) dX6_keyOf_54 rfl rfl ?_
        cases h
        exact go_iret (pc := 55) (Or.inl rfl) ⟨Nat.zero_le _, Nat.zero_le _⟩ dX6_keyOf_55
      · replace h := ifp h c3
        refine go_aload_n (pc := 41) dX6_keyOf_41 rfl rfl ?_
        refine go_aload_n (pc := 42) dX6_keyOf_42 rfl rfl ?_
        refine go_getP (pc := 43) (a := 1) fX6_7 (by decide) (show TM 0 = (6 + 5, 29) from rfl) rfl dX6_keyOf_43 ?_
        refine go_iload_n (pc := 46) dX6_keyOf_46 rfl rfl ?_
        refine go_iconst (pc := 47) (v := 1) dX6_keyOf_47 ci_1 ?_
        obtain ⟨r4, e5, h⟩ := ok_bind h
        refine go_cV (pc := 48) (ci := 6) (As := [.ref 1, .int a1, .int 1]) (st := []) (E_X6_mailPart isW_1 e5) rfl oX6_mailPart iX6_mailPart sX6_mailPart kX6_85 rfl (show TM 0 = (6 + 5, 29) from rfl) rfl (Nat.le_of_ble_eq_true rfl) ⟨Nat.le_of_ble_eq_true rfl, Nat.le_of_ble_eq_true rfl⟩ ⟨rfl, rfl⟩ dX6_keyOf_48 (st2 := [.int r4]) rfl ?_
        refine go_goto (pc := 51) (tgt := 55) dX6_keyOf_51 rfl ?_
        cases h
        exact go_iret (pc := 55) (Or.inl rfl) ⟨Nat.zero_le _, Nat.zero_le _⟩ dX6_keyOf_55
    · replace h := ifp h c2
      refine go_aload_n (pc := 23) dX6_keyOf_23 rfl rfl ?_
      refine go_aload_n (pc := 24) dX6_keyOf_24 rfl rfl ?_
      refine go_getP (pc := 25) (a := 1) fX6_7 (by decide) (show TM 0 = (6 + 5, 29) from rfl) rfl dX6_keyOf_25 ?_
      refine go_iload_n (pc := 28) dX6_keyOf_28 rfl rfl ?_
      refine go_iconst (pc := 29) (v := 5) dX6_keyOf_29 ci_5 ?_
      obtain ⟨r6, e7, h⟩ := ok_bind h
      refine go_cV (pc := 30) (ci := 6) (As := [.ref 1, .int a1, .int 5]) (st := []) (E_X6_mailPart isW_1 e7) rfl oX6_mailPart iX6_mailPart sX6_mailPart kX6_85 rfl (show TM 0 = (6 + 5, 29) from rfl) rfl (Nat.le_of_ble_eq_true rfl) ⟨Nat.le_of_ble_eq_true rfl, Nat.le_of_ble_eq_true rfl⟩ ⟨rfl, rfl⟩ dX6_keyOf_30 (st2 := [.int r6]) rfl ?_
      refine go_goto (pc := 33) (tgt := 55) dX6_keyOf_33 rfl ?_
      cases h
      exact go_iret (pc := 55) (Or.inl rfl) ⟨Nat.zero_le _, Nat.zero_le _⟩ dX6_keyOf_55
  · replace h := ifp h c1
    refine go_aload_n (pc := 4) dX6_keyOf_4 rfl rfl ?_
    refine go_aload_n (pc := 5) dX6_keyOf_5 rfl rfl ?_
    refine go_getP (pc := 6) (a := 1) fX6_7 (by decide) (show TM 0 = (6 + 5, 29) from rfl) rfl dX6_keyOf_6 ?_
    refine go_iload_n (pc := 9) dX6_keyOf_9 rfl rfl ?_
    refine go_bipush (pc := 10) (v := 6) dX6_keyOf_10 cb_6 ?_
    obtain ⟨r8, e9, h⟩ := ok_bind h
    refine go_cV (pc := 12) (ci := 6) (As := [.ref 1, .int a1, .int 6]) (st := []) (E_X6_mailPart isW_1 e9) rfl oX6_mailPart iX6_mailPart sX6_mailPart kX6_85 rfl (show TM 0 = (6 + 5, 29) from rfl) rfl (Nat.le_of_ble_eq_true rfl) ⟨Nat.le_of_ble_eq_true rfl, Nat.le_of_ble_eq_true rfl⟩ ⟨rfl, rfl⟩ dX6_keyOf_12 (st2 := [.int r8]) rfl ?_
    refine go_goto (pc := 15) (tgt := 55) dX6_keyOf_15 rfl ?_
    cases h
    exact go_iret (pc := 55) (Or.inl rfl) ⟨Nat.zero_le _, Nat.zero_le _⟩ dX6_keyOf_55
def eX6_isOneFit (a1 : Int32) (a2 : Int32) (V : Mm) : Option (Int32) :=
  if a2 < 0 ∨ 20 ≤ a2.toNatClampNeg then none else
  if a2 < 0 ∨ 20 ≤ a2.toNatClampNeg then none else
  if (V 19 a2.toNatClampNeg) = 0 then
    (eX6_isBox 1 (V 20 a2.toNatClampNeg) V).bind fun r6 =>
    if r6 = 0 then
      some 0
    else
      (eX6_mailPart 1 a1 9 V).bind fun r9 =>
      if ((r9 >>> ((V 20 a2.toNatClampNeg) &&& 31)) &&& 1) = 1 then
        some 1
      else
        some 0
  else
  if (V 19 a2.toNatClampNeg) = 1 then
    (eX6_mailPart 1 a1 6 V).bind fun r13 =>
    if (V 20 a2.toNatClampNeg) ≤ r13 then
      some 0
    else
      some 1
  else
  if (V 19 a2.toNatClampNeg) = 2 then
    (eX6_mailPart 1 a1 6 V).bind fun r17 =>
    if r17 < (V 20 a2.toNatClampNeg) then
      some 0
    else
      some 1
  else
  if (V 19 a2.toNatClampNeg) = 3 then
    (eX6_mailPart 1 a1 5 V).bind fun r21 =>
    if (V 20 a2.toNatClampNeg) ≤ r21 then
      some 0
    else
      some 1
  else
  if (V 19 a2.toNatClampNeg) = 4 then
    (eX6_mailPart 1 a1 5 V).bind fun r25 =>
    if r25 < (V 20 a2.toNatClampNeg) then
      some 0
    else
      some 1
  else
  if (V 19 a2.toNatClampNeg) = 5 then
    (eX6_mailPart 1 a1 7 V).bind fun r29 =>
    if ((r29 >>> ((V 20 a2.toNatClampNeg) &&& 31)) &&& 1) = 1 then
      some 1
    else
      some 0
  else
  if (V 19 a2.toNatClampNeg) = 6 then
    (eX6_mailPart 1 a1 1 V).bind fun r33 =>
    if r33 = (V 20 a2.toNatClampNeg) then
      some 1
    else
      some 0
  else
  if (V 19 a2.toNatClampNeg) = 7 then
    (eX6_mailPart 1 a1 8 V).bind fun r37 =>
    if r37 = (V 20 a2.toNatClampNeg) then
      some 1
    else
      some 0
  else
  if (V 19 a2.toNatClampNeg) = 8 then
    if V 20 a2.toNatClampNeg < 0 ∨ 20 ≤ (V 20 a2.toNatClampNeg).toNatClampNeg then none else
    if (V 22 ((V 20 a2.toNatClampNeg).toNatClampNeg)) = 0 then
      some 0
    else
      if a2 < 0 ∨ 20 ≤ a2.toNatClampNeg then none else
      if V 21 a2.toNatClampNeg < 0 ∨ 20 ≤ (V 21 a2.toNatClampNeg).toNatClampNeg then none else
      if (V 22 ((V 21 a2.toNatClampNeg).toNatClampNeg)) = 0 then
        some 0
      else
        some 1
  else
  if (V 19 a2.toNatClampNeg) = 9 then
    if V 20 a2.toNatClampNeg < 0 ∨ 20 ≤ (V 20 a2.toNatClampNeg).toNatClampNeg then none else
    if (V 22 ((V 20 a2.toNatClampNeg).toNatClampNeg)) = 0 then
      if a2 < 0 ∨ 20 ≤ a2.toNatClampNeg then none else
      if V 21 a2.toNatClampNeg < 0 ∨ 20 ≤ (V 21 a2.toNatClampNeg).toNatClampNeg then none else
      if (V 22 ((V 21 a2.toNatClampNeg).toNatClampNeg)) = 0 then
        some 0
      else
        some 1
    else
      some 1
  else
  if V 20 a2.toNatClampNeg < 0 ∨ 20 ≤ (V 20 a2.toNatClampNeg).toNatClampNeg then none else
  if (V 22 ((V 20 a2.toNatClampNeg).toNatClampNeg)) = 0 then
    some 1
  else
    some 0
set_option maxHeartbeats 4000000 in
set_option maxRecDepth 100000 in
theorem E_X6_isOneFit {a1 : Int32} {a2 : Int32} {V : Mm} {res : Int32}  (h : eX6_isOneFit a1 a2 V = some res) : Ev mX6_isOneFit [.ref 0, .int a1, .int a2] (hM V) (some (.int res)) (hM V) := by
  refine Ev.of (n := 1) oX6_isOneFit.1 (Nat.le_of_ble_eq_true rfl) ?_
  unfold eX6_isOneFit at h
  show Go mX6_isOneFit 0 [some (.ref 0), some (.int a1), some (.int a2), none] [] (hM V) 0 0 (some (.int res)) (hM V)
  refine go_aload_n (pc := 0) dX6_isOneFit_0 rfl rfl ?_
  refine go_getP (pc := 1) (a := 20) fX6_71 (by decide) (show TM 0 = (6 + 5, 29) from rfl) rfl dX6_isOneFit_1 ?_
  refine go_iload_n (pc := 4) dX6_isOneFit_4 rfl rfl ?_
  obtain ⟨c1, h⟩ := ok_not h
  refine go_ia (pc := 5) (v := V 20 a2.toNatClampNeg) (show TM 20 = (0, 20) from rfl) (vin c1) dX6_isOneFit_5 rfl ?_
  refine go_istore_n (pc := 6) (i := 3) dX6_isOneFit_6 rfl (Nat.le_of_ble_eq_true rfl) (L2 := [some (.ref 0), some (.int a1), some (.int a2), some (.int (V 20 a2.toNatClampNeg))]) rfl ?_
  refine go_aload_n (pc := 7) dX6_isOneFit_7 rfl rfl ?_
  refine go_getP (pc := 8) (a := 19) fX6_68 (by decide) (show TM 0 = (6 + 5, 29) from rfl) rfl dX6_isOneFit_8 ?_
  refine go_iload_n (pc := 11) dX6_isOneFit_11 rfl rfl ?_
  obtain ⟨c2, h⟩ := ok_not h
  refine go_ia (pc := 12) (v := V 19 a2.toNatClampNeg) (show TM 19 = (0, 20) from rfl) (vin c2) dX6_isOneFit_12 rfl ?_
  by_cases c5 : (V 19 a2.toNatClampNeg) = 0
  · replace h := ifp h c5
    refine go_tabIn (pc := 13) (tgt := 68) dX6_isOneFit_13 (by rw [c5]; decide) (by rw [c5]; decide) (off := 55) (by rw [c5]; rfl) rfl ?_
    refine go_aload_n (pc := 68) dX6_isOneFit_68 rfl rfl ?_
    refine go_aload_n (pc := 69) dX6_isOneFit_69 rfl rfl ?_
    refine go_getP (pc := 70) (a := 1) fX6_7 (by decide) (show TM 0 = (6 + 5, 29) from rfl) rfl dX6_isOneFit_70 ?_
    refine go_iload_n (pc := 73) dX6_isOneFit_73 rfl rfl ?_
    obtain ⟨r6, e7, h⟩ := ok_bind h
    refine go_cV (pc := 74) (ci := 6) (As := [.ref 1, .int (V 20 a2.toNatClampNeg)]) (st := []) (E_X6_isBox isW_1 e7) rfl oX6_isBox iX6_isBox sX6_isBox kX6_89 rfl (show TM 0 = (6 + 5, 29) from rfl) rfl (Nat.le_of_ble_eq_true rfl) ⟨Nat.le_of_ble_eq_true rfl, Nat.le_of_ble_eq_true rfl⟩ ⟨rfl, rfl⟩ dX6_isOneFit_74 (st2 := [.int r6]) rfl ?_
    refine go_if_eq (pc := 77) (tgt := 103) dX6_isOneFit_77 rfl (fun c8 => ?_) (fun c8 => ?_)
    · replace h := ifp h c8
      refine go_iconst (pc := 103) (v := 0) dX6_isOneFit_103 ci_0 ?_
      cases h
      exact go_iret (pc := 104) (Or.inr ⟨rfl, Or.inl rfl⟩) ⟨Nat.zero_le _, Nat.zero_le _⟩ dX6_isOneFit_104
    · replace h := ifn h c8
      refine go_aload_n (pc := 80) dX6_isOneFit_80 rfl rfl ?_
      refine go_aload_n (pc := 81) dX6_isOneFit_81 rfl rfl ?_
      refine go_getP (pc := 82) (a := 1) fX6_7 (by decide) (show TM 0 = (6 + 5, 29) from rfl) rfl dX6_isOneFit_82 ?_
      refine go_iload_n (pc := 85) dX6_isOneFit_85 rfl rfl ?_
      refine go_bipush (pc := 86) (v := 9) dX6_isOneFit_86 cb_9 ?_
      obtain ⟨r9, e10, h⟩ := ok_bind h
      refine go_cV (pc := 88) (ci := 6) (As := [.ref 1, .int a1, .int 9]) (st := []) (E_X6_mailPart isW_1 e10) rfl oX6_mailPart iX6_mailPart sX6_mailPart kX6_85 rfl (show TM 0 = (6 + 5, 29) from rfl) rfl (Nat.le_of_ble_eq_true rfl) ⟨Nat.le_of_ble_eq_true rfl, Nat.le_of_ble_eq_true rfl⟩ ⟨rfl, rfl⟩ dX6_isOneFit_88 (st2 := [.int r9]) rfl ?_
      refine go_iload_n (pc := 91) dX6_isOneFit_91 rfl rfl ?_
      refine go_ishr (pc := 92) dX6_isOneFit_92 ?_
      refine go_iconst (pc := 93) (v := 1) dX6_isOneFit_93 ci_1 ?_
      refine go_iand (pc := 94) dX6_isOneFit_94 ?_
      refine go_iconst (pc := 95) (v := 1) dX6_isOneFit_95 ci_1 ?_
      refine go_icmp_ne (pc := 96) (tgt := 103) dX6_isOneFit_96 rfl (fun c11 => ?_) (fun c11 => ?_)
      · replace h := ifn h c11
        refine go_iconst (pc := 103) (v := 0) dX6_isOneFit_103 ci_0 ?_
        cases h
        exact go_iret (pc := 104) (Or.inr ⟨rfl, Or.inl rfl⟩) ⟨Nat.zero_le _, Nat.zero_le _⟩ dX6_isOneFit_104
      · replace h := ifp h c11
        refine go_iconst (pc := 99) (v := 1) dX6_isOneFit_99 ci_1 ?_
        refine go_goto (pc := 100) (tgt := 104) dX6_isOneFit_100 rfl ?_
        cases h
        exact go_iret (pc := 104) (Or.inr ⟨rfl, Or.inr rfl⟩) ⟨Nat.zero_le _, Nat.zero_le _⟩ dX6_isOneFit_104
  replace h := ifn h c5
  by_cases c12 : (V 19 a2.toNatClampNeg) = 1
  · replace h := ifp h c12
    refine go_tabIn (pc := 13) (tgt := 105) dX6_isOneFit_13 (by rw [c12]; decide) (by rw [c12]; decide) (off := 92) (by rw [c12]; rfl) rfl ?_
    refine go_aload_n (pc := 105) dX6_isOneFit_105 rfl rfl ?_
    refine go_aload_n (pc := 106) dX6_isOneFit_106 rfl rfl ?_
    refine go_getP (pc := 107) (a := 1) fX6_7 (by decide) (show TM 0 = (6 + 5, 29) from rfl) rfl dX6_isOneFit_107 ?_
    refine go_iload_n (pc := 110) dX6_isOneFit_110 rfl rfl ?_
    refine go_bipush (pc := 111) (v := 6) dX6_isOneFit_111 cb_6 ?_
    obtain ⟨r13, e14, h⟩ := ok_bind h
    refine go_cV (pc := 113) (ci := 6) (As := [.ref 1, .int a1, .int 6]) (st := []) (E_X6_mailPart isW_1 e14) rfl oX6_mailPart iX6_mailPart sX6_mailPart kX6_85 rfl (show TM 0 = (6 + 5, 29) from rfl) rfl (Nat.le_of_ble_eq_true rfl) ⟨Nat.le_of_ble_eq_true rfl, Nat.le_of_ble_eq_true rfl⟩ ⟨rfl, rfl⟩ dX6_isOneFit_113 (st2 := [.int r13]) rfl ?_
    refine go_iload_n (pc := 116) dX6_isOneFit_116 rfl rfl ?_
    refine go_icmp_ge (pc := 117) (tgt := 124) dX6_isOneFit_117 rfl (fun c15 => ?_) (fun c15 => ?_)
    · replace h := ifp h c15
      refine go_iconst (pc := 124) (v := 0) dX6_isOneFit_124 ci_0 ?_
      cases h
      exact go_iret (pc := 125) (Or.inr ⟨rfl, Or.inl rfl⟩) ⟨Nat.zero_le _, Nat.zero_le _⟩ dX6_isOneFit_125
    · replace h := ifn h c15
      refine go_iconst (pc := 120) (v := 1) dX6_isOneFit_120 ci_1 ?_
      refine go_goto (pc := 121) (tgt := 125) dX6_isOneFit_121 rfl ?_
      cases h
      exact go_iret (pc := 125) (Or.inr ⟨rfl, Or.inr rfl⟩) ⟨Nat.zero_le _, Nat.zero_le _⟩ dX6_isOneFit_125
  replace h := ifn h c12
  by_cases c16 : (V 19 a2.toNatClampNeg) = 2
  · replace h := ifp h c16
    refine go_tabIn (pc := 13) (tgt := 126) dX6_isOneFit_13 (by rw [c16]; decide) (by rw [c16]; decide) (off := 113) (by rw [c16]; rfl) rfl ?_
    refine go_aload_n (pc := 126) dX6_isOneFit_126 rfl rfl ?_
    refine go_aload_n (pc := 127) dX6_isOneFit_127 rfl rfl ?_
    refine go_getP (pc := 128) (a := 1) fX6_7 (by decide) (show TM 0 = (6 + 5, 29) from rfl) rfl dX6_isOneFit_128 ?_
    refine go_iload_n (pc := 131) dX6_isOneFit_131 rfl rfl ?_
    refine go_bipush (pc := 132) (v := 6) dX6_isOneFit_132 cb_6 ?_
    obtain ⟨r17, e18, h⟩ := ok_bind h
    refine go_cV (pc := 134) (ci := 6) (As := [.ref 1, .int a1, .int 6]) (st := []) (E_X6_mailPart isW_1 e18) rfl oX6_mailPart iX6_mailPart sX6_mailPart kX6_85 rfl (show TM 0 = (6 + 5, 29) from rfl) rfl (Nat.le_of_ble_eq_true rfl) ⟨Nat.le_of_ble_eq_true rfl, Nat.le_of_ble_eq_true rfl⟩ ⟨rfl, rfl⟩ dX6_isOneFit_134 (st2 := [.int r17]) rfl ?_
    refine go_iload_n (pc := 137) dX6_isOneFit_137 rfl rfl ?_
    refine go_icmp_lt (pc := 138) (tgt := 145) dX6_isOneFit_138 rfl (fun c19 => ?_) (fun c19 => ?_)
    · replace h := ifp h c19
      refine go_iconst (pc := 145) (v := 0) dX6_isOneFit_145 ci_0 ?_
      cases h
      exact go_iret (pc := 146) (Or.inr ⟨rfl, Or.inl rfl⟩) ⟨Nat.zero_le _, Nat.zero_le _⟩ dX6_isOneFit_146
    · replace h := ifn h c19
      refine go_iconst (pc := 141) (v := 1) dX6_isOneFit_141 ci_1 ?_
      refine go_goto (pc := 142) (tgt := 146) dX6_isOneFit_142 rfl ?_
      cases h
      exact go_iret (pc := 146) (Or.inr ⟨rfl, Or.inr rfl⟩) ⟨Nat.zero_le _, Nat.zero_le _⟩ dX6_isOneFit_146
  replace h := ifn h c16
  by_cases c20 : (V 19 a2.toNatClampNeg) = 3
  · replace h := ifp h c20
    refine go_tabIn (pc := 13) (tgt := 147) dX6_isOneFit_13 (by rw [c20]; decide) (by rw [c20]; decide) (off := 134) (by rw [c20]; rfl) rfl ?_
    refine go_aload_n (pc := 147) dX6_isOneFit_147 rfl rfl ?_
    refine go_aload_n (pc := 148) dX6_isOneFit_148 rfl rfl ?_
    refine go_getP (pc := 149) (a := 1) fX6_7 (by decide) (show TM 0 = (6 + 5, 29) from rfl) rfl dX6_isOneFit_149 ?_
    refine go_iload_n (pc := 152) dX6_isOneFit_152 rfl rfl ?_
    refine go_iconst (pc := 153) (v := 5) dX6_isOneFit_153 ci_5 ?_
    obtain ⟨r21, e22, h⟩ := ok_bind h
    refine go_cV (pc := 154) (ci := 6) (As := [.ref 1, .int a1, .int 5]) (st := []) (E_X6_mailPart isW_1 e22) rfl oX6_mailPart iX6_mailPart sX6_mailPart kX6_85 rfl (show TM 0 = (6 + 5, 29) from rfl) rfl (Nat.le_of_ble_eq_true rfl) ⟨Nat.le_of_ble_eq_true rfl, Nat.le_of_ble_eq_true rfl⟩ ⟨rfl, rfl⟩ dX6_isOneFit_154 (st2 := [.int r21]) rfl ?_
    refine go_iload_n (pc := 157) dX6_isOneFit_157 rfl rfl ?_
    refine go_icmp_ge (pc := 158) (tgt := 165) dX6_isOneFit_158 rfl (fun c23 => ?_) (fun c23 => ?_)
    · replace h := ifp h c23
      refine go_iconst (pc := 165) (v := 0) dX6_isOneFit_165 ci_0 ?_
      cases h
      exact go_iret (pc := 166) (Or.inr ⟨rfl, Or.inl rfl⟩) ⟨Nat.zero_le _, Nat.zero_le _⟩ dX6_isOneFit_166
    · replace h := ifn h c23
      refine go_iconst (pc := 161) (v := 1) dX6_isOneFit_161 ci_1 ?_
      refine go_goto (pc := 162) (tgt := 166) dX6_isOneFit_162 rfl ?_
      cases h
      exact go_iret (pc := 166) (Or.inr ⟨rfl, Or.inr rfl⟩) ⟨Nat.zero_le _, Nat.zero_le _⟩ dX6_isOneFit_166
  replace h := ifn h c20
  by_cases c24 : (V 19 a2.toNatClampNeg) = 4
  · replace h := ifp h c24
    refine go_tabIn (pc := 13) (tgt := 167) dX6_isOneFit_13 (by rw [c24]; decide) (by rw [c24]; decide) (off := 154) (by rw [c24]; rfl) rfl ?_
    refine go_aload_n (pc := 167) dX6_isOneFit_167 rfl rfl ?_
    refine go_aload_n (pc := 168) dX6_isOneFit_168 rfl rfl ?_
    refine go_getP (pc := 169) (a := 1) fX6_7 (by decide) (show TM 0 = (6 + 5, 29) from rfl) rfl dX6_isOneFit_169 ?_
    refine go_iload_n (pc := 172) dX6_isOneFit_172 rfl rfl ?_
    refine go_iconst (pc := 173) (v := 5) dX6_isOneFit_173 ci_5 ?_
    obtain ⟨r25, e26, h⟩ := ok_bind h
    refine go_cV (pc := 174) (ci := 6) (As := [.ref 1, .int a1, .int 5]) (st := []) (E_X6_mailPart isW_1 e26) rfl oX6_mailPart iX6_mailPart sX6_mailPart kX6_85 rfl (show TM 0 = (6 + 5, 29) from rfl) rfl (Nat.le_of_ble_eq_true rfl) ⟨Nat.le_of_ble_eq_true rfl, Nat.le_of_ble_eq_true rfl⟩ ⟨rfl, rfl⟩ dX6_isOneFit_174 (st2 := [.int r25]) rfl ?_
    refine go_iload_n (pc := 177) dX6_isOneFit_177 rfl rfl ?_
    refine go_icmp_lt (pc := 178) (tgt := 185) dX6_isOneFit_178 rfl (fun c27 => ?_) (fun c27 => ?_)
    · replace h := ifp h c27
      refine go_iconst (pc := 185) (v := 0) dX6_isOneFit_185 ci_0 ?_
      cases h
      exact go_iret (pc := 186) (Or.inr ⟨rfl, Or.inl rfl⟩) ⟨Nat.zero_le _, Nat.zero_le _⟩ dX6_isOneFit_186
    · replace h := ifn h c27
      refine go_iconst (pc := 181) (v := 1) dX6_isOneFit_181 ci_1 ?_
      refine go_goto (pc := 182) (tgt := 186) dX6_isOneFit_182 rfl ?_
      cases h
      exact go_iret (pc := 186) (Or.inr ⟨rfl, Or.inr rfl⟩) ⟨Nat.zero_le _, Nat.zero_le _⟩ dX6_isOneFit_186
  replace h := ifn h c24
  by_cases c28 : (V 19 a2.toNatClampNeg) = 5
  · replace h := ifp h c28
    refine go_tabIn (pc := 13) (tgt := 187) dX6_isOneFit_13 (by rw [c28]; decide) (by rw [c28]; decide) (off := 174) (by rw [c28]; rfl) rfl ?_
    refine go_aload_n (pc := 187) dX6_isOneFit_187 rfl rfl ?_
    refine go_aload_n (pc := 188) dX6_isOneFit_188 rfl rfl ?_
    refine go_getP (pc := 189) (a := 1) fX6_7 (by decide) (show TM 0 = (6 + 5, 29) from rfl) rfl dX6_isOneFit_189 ?_
    refine go_iload_n (pc := 192) dX6_isOneFit_192 rfl rfl ?_
    refine go_bipush (pc := 193) (v := 7) dX6_isOneFit_193 cb_7 ?_
    obtain ⟨r29, e30, h⟩ := ok_bind h
    refine go_cV (pc := 195) (ci := 6) (As := [.ref 1, .int a1, .int 7]) (st := []) (E_X6_mailPart isW_1 e30) rfl oX6_mailPart iX6_mailPart sX6_mailPart kX6_85 rfl (show TM 0 = (6 + 5, 29) from rfl) rfl (Nat.le_of_ble_eq_true rfl) ⟨Nat.le_of_ble_eq_true rfl, Nat.le_of_ble_eq_true rfl⟩ ⟨rfl, rfl⟩ dX6_isOneFit_195 (st2 := [.int r29]) rfl ?_
    refine go_iload_n (pc := 198) dX6_isOneFit_198 rfl rfl ?_
    refine go_ishr (pc := 199) dX6_isOneFit_199 ?_
    refine go_iconst (pc := 200) (v := 1) dX6_isOneFit_200 ci_1 ?_
    refine go_iand (pc := 201) dX6_isOneFit_201 ?_
    refine go_iconst (pc := 202) (v := 1) dX6_isOneFit_202 ci_1 ?_
    refine go_icmp_ne (pc := 203) (tgt := 210) dX6_isOneFit_203 rfl (fun c31 => ?_) (fun c31 => ?_)
    · replace h := ifn h c31
      refine go_iconst (pc := 210) (v := 0) dX6_isOneFit_210 ci_0 ?_
      cases h
      exact go_iret (pc := 211) (Or.inr ⟨rfl, Or.inl rfl⟩) ⟨Nat.zero_le _, Nat.zero_le _⟩ dX6_isOneFit_211
    · replace h := ifp h c31
      refine go_iconst (pc := 206) (v := 1) dX6_isOneFit_206 ci_1 ?_
      refine go_goto (pc := 207) (tgt := 211) dX6_isOneFit_207 rfl ?_
      cases h
      exact go_iret (pc := 211) (Or.inr ⟨rfl, Or.inr rfl⟩) ⟨Nat.zero_le _, Nat.zero_le _⟩ dX6_isOneFit_211
  replace h := ifn h c28
  by_cases c32 : (V 19 a2.toNatClampNeg) = 6
  · replace h := ifp h c32
    refine go_tabIn (pc := 13) (tgt := 212) dX6_isOneFit_13 (by rw [c32]; decide) (by rw [c32]; decide) (off := 199) (by rw [c32]; rfl) rfl ?_
    refine go_aload_n (pc := 212) dX6_isOneFit_212 rfl rfl ?_
    refine go_aload_n (pc := 213) dX6_isOneFit_213 rfl rfl ?_
    refine go_getP (pc := 214) (a := 1) fX6_7 (by decide) (show TM 0 = (6 + 5, 29) from rfl) rfl dX6_isOneFit_214 ?_
    refine go_iload_n (pc := 217) dX6_isOneFit_217 rfl rfl ?_
    refine go_iconst (pc := 218) (v := 1) dX6_isOneFit_218 ci_1 ?_
    obtain ⟨r33, e34, h⟩ := ok_bind h
    refine go_cV (pc := 219) (ci := 6) (As := [.ref 1, .int a1, .int 1]) (st := []) (E_X6_mailPart isW_1 e34) rfl oX6_mailPart iX6_mailPart sX6_mailPart kX6_85 rfl (show TM 0 = (6 + 5, 29) from rfl) rfl (Nat.le_of_ble_eq_true rfl) ⟨Nat.le_of_ble_eq_true rfl, Nat.le_of_ble_eq_true rfl⟩ ⟨rfl, rfl⟩ dX6_isOneFit_219 (st2 := [.int r33]) rfl ?_
    refine go_iload_n (pc := 222) dX6_isOneFit_222 rfl rfl ?_
    refine go_icmp_ne (pc := 223) (tgt := 230) dX6_isOneFit_223 rfl (fun c35 => ?_) (fun c35 => ?_)
    · replace h := ifn h c35
      refine go_iconst (pc := 230) (v := 0) dX6_isOneFit_230 ci_0 ?_
      cases h
      exact go_iret (pc := 231) (Or.inr ⟨rfl, Or.inl rfl⟩) ⟨Nat.zero_le _, Nat.zero_le _⟩ dX6_isOneFit_231
    · replace h := ifp h c35
      refine go_iconst (pc := 226) (v := 1) dX6_isOneFit_226 ci_1 ?_
      refine go_goto (pc := 227) (tgt := 231) dX6_isOneFit_227 rfl ?_
      cases h
      exact go_iret (pc := 231) (Or.inr ⟨rfl, Or.inr rfl⟩) ⟨Nat.zero_le _, Nat.zero_le _⟩ dX6_isOneFit_231
  replace h := ifn h c32
  by_cases c36 : (V 19 a2.toNatClampNeg) = 7
  · replace h := ifp h c36
    refine go_tabIn (pc := 13) (tgt := 232) dX6_isOneFit_13 (by rw [c36]; decide) (by rw [c36]; decide) (off := 219) (by rw [c36]; rfl) rfl ?_
    refine go_aload_n (pc := 232) dX6_isOneFit_232 rfl rfl ?_
    refine go_aload_n (pc := 233) dX6_isOneFit_233 rfl rfl ?_
    refine go_getP (pc := 234) (a := 1) fX6_7 (by decide) (show TM 0 = (6 + 5, 29) from rfl) rfl dX6_isOneFit_234 ?_
    refine go_iload_n (pc := 237) dX6_isOneFit_237 rfl rfl ?_
    refine go_bipush (pc := 238) (v := 8) dX6_isOneFit_238 cb_8 ?_
    obtain ⟨r37, e38, h⟩ := ok_bind h
    refine go_cV (pc := 240) (ci := 6) (As := [.ref 1, .int a1, .int 8]) (st := []) (E_X6_mailPart isW_1 e38) rfl oX6_mailPart iX6_mailPart sX6_mailPart kX6_85 rfl (show TM 0 = (6 + 5, 29) from rfl) rfl (Nat.le_of_ble_eq_true rfl) ⟨Nat.le_of_ble_eq_true rfl, Nat.le_of_ble_eq_true rfl⟩ ⟨rfl, rfl⟩ dX6_isOneFit_240 (st2 := [.int r37]) rfl ?_
    refine go_iload_n (pc := 243) dX6_isOneFit_243 rfl rfl ?_
    refine go_icmp_ne (pc := 244) (tgt := 251) dX6_isOneFit_244 rfl (fun c39 => ?_) (fun c39 => ?_)
    · replace h := ifn h c39
      refine go_iconst (pc := 251) (v := 0) dX6_isOneFit_251 ci_0 ?_
      cases h
      exact go_iret (pc := 252) (Or.inr ⟨rfl, Or.inl rfl⟩) ⟨Nat.zero_le _, Nat.zero_le _⟩ dX6_isOneFit_252
    · replace h := ifp h c39
      refine go_iconst (pc := 247) (v := 1) dX6_isOneFit_247 ci_1 ?_
      refine go_goto (pc := 248) (tgt := 252) dX6_isOneFit_248 rfl ?_
      cases h
      exact go_iret (pc := 252) (Or.inr ⟨rfl, Or.inr rfl⟩) ⟨Nat.zero_le _, Nat.zero_le _⟩ dX6_isOneFit_252
  replace h := ifn h c36
  by_cases c40 : (V 19 a2.toNatClampNeg) = 8
  · replace h := ifp h c40
    refine go_tabIn (pc := 13) (tgt := 253) dX6_isOneFit_13 (by rw [c40]; decide) (by rw [c40]; decide) (off := 240) (by rw [c40]; rfl) rfl ?_
    refine go_aload_n (pc := 253) dX6_isOneFit_253 rfl rfl ?_
    refine go_getP (pc := 254) (a := 22) fX6_77 (by decide) (show TM 0 = (6 + 5, 29) from rfl) rfl dX6_isOneFit_254 ?_
    refine go_iload_n (pc := 257) dX6_isOneFit_257 rfl rfl ?_
    obtain ⟨c41, h⟩ := ok_not h
    refine go_za (pc := 258) (v := V 22 ((V 20 a2.toNatClampNeg).toNatClampNeg)) (show TM 22 = (1, 20) from rfl) (vin c41) dX6_isOneFit_258 rfl ?_
    refine go_if_eq (pc := 259) (tgt := 280) dX6_isOneFit_259 rfl (fun c42 => ?_) (fun c42 => ?_)
    · replace h := ifp h c42
      refine go_iconst (pc := 280) (v := 0) dX6_isOneFit_280 ci_0 ?_
      cases h
      exact go_iret (pc := 281) (Or.inr ⟨rfl, Or.inl rfl⟩) ⟨Nat.zero_le _, Nat.zero_le _⟩ dX6_isOneFit_281
    · replace h := ifn h c42
      refine go_aload_n (pc := 262) dX6_isOneFit_262 rfl rfl ?_
      refine go_getP (pc := 263) (a := 22) fX6_77 (by decide) (show TM 0 = (6 + 5, 29) from rfl) rfl dX6_isOneFit_263 ?_
      refine go_aload_n (pc := 266) dX6_isOneFit_266 rfl rfl ?_
      refine go_getP (pc := 267) (a := 21) fX6_74 (by decide) (show TM 0 = (6 + 5, 29) from rfl) rfl dX6_isOneFit_267 ?_
      refine go_iload_n (pc := 270) dX6_isOneFit_270 rfl rfl ?_
      obtain ⟨c43, h⟩ := ok_not h
      refine go_ia (pc := 271) (v := V 21 a2.toNatClampNeg) (show TM 21 = (0, 20) from rfl) (vin c43) dX6_isOneFit_271 rfl ?_
      obtain ⟨c44, h⟩ := ok_not h
      refine go_za (pc := 272) (v := V 22 ((V 21 a2.toNatClampNeg).toNatClampNeg)) (show TM 22 = (1, 20) from rfl) (vin c44) dX6_isOneFit_272 rfl ?_
      refine go_if_eq (pc := 273) (tgt := 280) dX6_isOneFit_273 rfl (fun c45 => ?_) (fun c45 => ?_)
      · replace h := ifp h c45
        refine go_iconst (pc := 280) (v := 0) dX6_isOneFit_280 ci_0 ?_
        cases h
        exact go_iret (pc := 281) (Or.inr ⟨rfl, Or.inl rfl⟩) ⟨Nat.zero_le _, Nat.zero_le _⟩ dX6_isOneFit_281
      · replace h := ifn h c45
        refine go_iconst (pc := 276) (v := 1) dX6_isOneFit_276 ci_1 ?_
        refine go_goto (pc := 277) (tgt := 281) dX6_isOneFit_277 rfl ?_
        cases h
        exact go_iret (pc := 281) (Or.inr ⟨rfl, Or.inr rfl⟩) ⟨Nat.zero_le _, Nat.zero_le _⟩ dX6_isOneFit_281
  replace h := ifn h c40
  by_cases c46 : (V 19 a2.toNatClampNeg) = 9
  · replace h := ifp h c46
    refine go_tabIn (pc := 13) (tgt := 282) dX6_isOneFit_13 (by rw [c46]; decide) (by rw [c46]; decide) (off := 269) (by rw [c46]; rfl) rfl ?_
    refine go_aload_n (pc := 282) dX6_isOneFit_282 rfl rfl ?_
    refine go_getP (pc := 283) (a := 22) fX6_77 (by decide) (show TM 0 = (6 + 5, 29) from rfl) rfl dX6_isOneFit_283 ?_
    refine go_iload_n (pc := 286) dX6_isOneFit_286 rfl rfl ?_
    obtain ⟨c47, h⟩ := ok_not h
    refine go_za (pc := 287) (v := V 22 ((V 20 a2.toNatClampNeg).toNatClampNeg)) (show TM 22 = (1, 20) from rfl) (vin c47) dX6_isOneFit_287 rfl ?_
    refine go_if_ne (pc := 288) (tgt := 305) dX6_isOneFit_288 rfl (fun c48 => ?_) (fun c48 => ?_)
    · replace h := ifn h c48
      refine go_iconst (pc := 305) (v := 1) dX6_isOneFit_305 ci_1 ?_
      refine go_goto (pc := 306) (tgt := 310) dX6_isOneFit_306 rfl ?_
      cases h
      exact go_iret (pc := 310) (Or.inr ⟨rfl, Or.inr rfl⟩) ⟨Nat.zero_le _, Nat.zero_le _⟩ dX6_isOneFit_310
    · replace h := ifp h c48
      refine go_aload_n (pc := 291) dX6_isOneFit_291 rfl rfl ?_
      refine go_getP (pc := 292) (a := 22) fX6_77 (by decide) (show TM 0 = (6 + 5, 29) from rfl) rfl dX6_isOneFit_292 ?_
      refine go_aload_n (pc := 295) dX6_isOneFit_295 rfl rfl ?_
      refine go_getP (pc := 296) (a := 21) fX6_74 (by decide) (show TM 0 = (6 + 5, 29) from rfl) rfl dX6_isOneFit_296 ?_
      refine go_iload_n (pc := 299) dX6_isOneFit_299 rfl rfl ?_
      obtain ⟨c49, h⟩ := ok_not h
      refine go_ia (pc := 300) (v := V 21 a2.toNatClampNeg) (show TM 21 = (0, 20) from rfl) (vin c49) dX6_isOneFit_300 rfl ?_
      obtain ⟨c50, h⟩ := ok_not h
      refine go_za (pc := 301) (v := V 22 ((V 21 a2.toNatClampNeg).toNatClampNeg)) (show TM 22 = (1, 20) from rfl) (vin c50) dX6_isOneFit_301 rfl ?_
      refine go_if_eq (pc := 302) (tgt := 309) dX6_isOneFit_302 rfl (fun c51 => ?_) (fun c51 => ?_)
      · replace h := ifp h c51
        refine go_iconst (pc := 309) (v := 0) dX6_isOneFit_309 ci_0 ?_
        cases h
        exact go_iret (pc := 310) (Or.inr ⟨rfl, Or.inl rfl⟩) ⟨Nat.zero_le _, Nat.zero_le _⟩ dX6_isOneFit_310
      · replace h := ifn h c51
        refine go_iconst (pc := 305) (v := 1) dX6_isOneFit_305 ci_1 ?_
        refine go_goto (pc := 306) (tgt := 310) dX6_isOneFit_306 rfl ?_
        cases h
        exact go_iret (pc := 310) (Or.inr ⟨rfl, Or.inr rfl⟩) ⟨Nat.zero_le _, Nat.zero_le _⟩ dX6_isOneFit_310
  replace h := ifn h c46
  have hh52 : (V 19 a2.toNatClampNeg : Int32).toInt < 0 ∨ 9 < (V 19 a2.toNatClampNeg : Int32).toInt := by
    have nc5 := nti (K := 0) c5 (by decide)
    have nc12 := nti (K := 1) c12 (by decide)
    have nc16 := nti (K := 2) c16 (by decide)
    have nc20 := nti (K := 3) c20 (by decide)
    have nc24 := nti (K := 4) c24 (by decide)
    have nc28 := nti (K := 5) c28 (by decide)
    have nc32 := nti (K := 6) c32 (by decide)
    have nc36 := nti (K := 7) c36 (by decide)
    have nc40 := nti (K := 8) c40 (by decide)
    have nc46 := nti (K := 9) c46 (by decide)
    omega
  refine go_tabOut (pc := 13) (tgt := 311) dX6_isOneFit_13 hh52 rfl ?_
  refine go_aload_n (pc := 311) dX6_isOneFit_311 rfl rfl ?_
  refine go_getP (pc := 312) (a := 22) fX6_77 (by decide) (show TM 0 = (6 + 5, 29) from rfl) rfl dX6_isOneFit_312 ?_
  refine go_iload_n (pc := 315) dX6_isOneFit_315 rfl rfl ?_
  obtain ⟨c3, h⟩ := ok_not h
  refine go_za (pc := 316) (v := V 22 ((V 20 a2.toNatClampNeg).toNatClampNeg)) (show TM 22 = (1, 20) from rfl) (vin c3) dX6_isOneFit_316 rfl ?_
  refine go_if_ne (pc := 317) (tgt := 324) dX6_isOneFit_317 rfl (fun c4 => ?_) (fun c4 => ?_)
  · replace h := ifn h c4
    refine go_iconst (pc := 324) (v := 0) dX6_isOneFit_324 ci_0 ?_
    cases h
    exact go_iret (pc := 325) (Or.inr ⟨rfl, Or.inl rfl⟩) ⟨Nat.zero_le _, Nat.zero_le _⟩ dX6_isOneFit_325
  · replace h := ifp h c4
    refine go_iconst (pc := 320) (v := 1) dX6_isOneFit_320 ci_1 ?_
    refine go_goto (pc := 321) (tgt := 325) dX6_isOneFit_321 rfl ?_
    cases h
    exact go_iret (pc := 325) (Or.inr ⟨rfl, Or.inr rfl⟩) ⟨Nat.zero_le _, Nat.zero_le _⟩ dX6_isOneFit_325
def eX6_isFit_b2 : Nat → Int32 → Int32 → Int32 → Mm → Option (Int32 × Mm)
  | 0, _, _, _, _ => none
  | n + 1, l1, l2, l3, V => 
    if l2 < l3 then
      if l2 < 0 ∨ 20 ≤ l2.toNatClampNeg then none else
      if (V 22 l2.toNatClampNeg) = 0 ∨ (V 22 l2.toNatClampNeg) = 1 then
        some (V 22 l2.toNatClampNeg, V)
      else none
    else
      (eX6_isOneFit l1 l3 V).bind fun r4 =>
      if l3 < 0 ∨ 20 ≤ l3.toNatClampNeg then none else
      eX6_isFit_b2 n l1 l2 (l3 + 1) (wr V 22 l3.toNatClampNeg (vp_nar .boolean r4))
set_option maxHeartbeats 4000000 in
set_option maxRecDepth 100000 in
theorem gX6_isFit_b2 : ∀ (n : Nat) (l1 : Int32) (l2 : Int32) (l3 : Int32) (V : Mm) (res : Int32 × Mm) , eX6_isFit_b2 n l1 l2 l3 V = some res → Go mX6_isFit 2 [some (.ref 0), some (.int l1), some (.int l2), some (.int l3)] [] (hM V) 0 0 (some (.int res.1)) (hM res.2) := by
  intro n
  induction n with
  | zero =>
    intro l1 l2 l3 V res  h
    cases h
  | succ n ih =>
    intro l1 l2 l3 V res  h
    rw [eX6_isFit_b2] at h
    refine go_iload_n (pc := 2) dX6_isFit_2 rfl rfl ?_
    refine go_iload_n (pc := 3) dX6_isFit_3 rfl rfl ?_
    refine go_icmp_gt (pc := 4) (tgt := 25) dX6_isFit_4 rfl (fun c1 => ?_) (fun c1 => ?_)
    · replace h := ifp h c1
      refine go_aload_n (pc := 25) dX6_isFit_25 rfl rfl ?_
      refine go_getP (pc := 26) (a := 22) fX6_77 (by decide) (show TM 0 = (6 + 5, 29) from rfl) rfl dX6_isFit_26 ?_
      refine go_iload_n (pc := 29) dX6_isFit_29 rfl rfl ?_
      obtain ⟨c2, h⟩ := ok_not h
      refine go_za (pc := 30) (v := V 22 l2.toNatClampNeg) (show TM 22 = (1, 20) from rfl) (vin c2) dX6_isFit_30 rfl ?_
      obtain ⟨c3, h⟩ := ok_if h
      cases h
      exact go_iret (pc := 31) (Or.inr ⟨rfl, c3⟩) ⟨Nat.zero_le _, Nat.zero_le _⟩ dX6_isFit_31
    · replace h := ifn h c1
      refine go_aload_n (pc := 7) dX6_isFit_7 rfl rfl ?_
      refine go_getP (pc := 8) (a := 22) fX6_77 (by decide) (show TM 0 = (6 + 5, 29) from rfl) rfl dX6_isFit_8 ?_
      refine go_iload_n (pc := 11) dX6_isFit_11 rfl rfl ?_
      refine go_aload_n (pc := 12) dX6_isFit_12 rfl rfl ?_
      refine go_iload_n (pc := 13) dX6_isFit_13 rfl rfl ?_
      refine go_iload_n (pc := 14) dX6_isFit_14 rfl rfl ?_
      obtain ⟨r4, e5, h⟩ := ok_bind h
      refine go_cV (pc := 15) (ci := 6) (As := [.int l1, .int l3]) (st := [.int l3, .ref 22]) (E_X6_isOneFit e5) rfl oX6_isOneFit iX6_isOneFit sX6_isOneFit kX6_277 rfl (show TM 0 = (6 + 5, 29) from rfl) rfl (Nat.le_of_ble_eq_true rfl) ⟨Nat.le_of_ble_eq_true rfl, Nat.le_of_ble_eq_true rfl⟩ ⟨rfl, rfl⟩ dX6_isFit_15 (st2 := [.int r4, .int l3, .ref 22]) rfl ?_
      obtain ⟨c6, h⟩ := ok_not h
      refine go_zast (pc := 18) (show TM 22 = (1, 20) from rfl) (vin c6) dX6_isFit_18 ?_
      refine go_iinc (pc := 19) (v := (l3 + 1)) dX6_isFit_19 rfl (by rw [ci_1]) (Nat.le_of_ble_eq_true rfl) (L2 := [some (.ref 0), some (.int l1), some (.int l2), some (.int (l3 + 1))]) rfl ?_
      refine go_goto (pc := 22) (tgt := 2) dX6_isFit_22 rfl ?_
      exact ih _ _ _ _ _  h
def eX6_isFit (a1 : Int32) (a2 : Int32) (V : Mm) : Option (Int32 × Mm) :=
  eX6_isFit_b2 fu a1 a2 0 V
set_option maxHeartbeats 4000000 in
set_option maxRecDepth 100000 in
theorem E_X6_isFit {a1 : Int32} {a2 : Int32} {V : Mm} {res : Int32 × Mm}  (h : eX6_isFit a1 a2 V = some res) : Ev mX6_isFit [.ref 0, .int a1, .int a2] (hM V) (some (.int res.1)) (hM res.2) := by
  refine Ev.of (n := 1) oX6_isFit.1 (Nat.le_of_ble_eq_true rfl) ?_
  unfold eX6_isFit at h
  show Go mX6_isFit 0 [some (.ref 0), some (.int a1), some (.int a2), none] [] (hM V) 0 0 (some (.int res.1)) (hM res.2)
  refine go_iconst (pc := 0) (v := 0) dX6_isFit_0 ci_0 ?_
  refine go_istore_n (pc := 1) (i := 3) dX6_isFit_1 rfl (Nat.le_of_ble_eq_true rfl) (L2 := [some (.ref 0), some (.int a1), some (.int a2), some (.int 0)]) rfl ?_
  exact gX6_isFit_b2 _ _ _ _ _ _  h
def eX6_isBehind (a1 : Int32) (a2 : Int32) (a3 : Int32) (V : Mm) : Option (Int32) :=
  (eX6_keyOf a1 (a3 - a3 / 4 * 4) V).bind fun r1 =>
  (eX6_keyOf a2 (a3 - a3 / 4 * 4) V).bind fun r3 =>
  if 4 ≤ a3 then
    if r3 ≤ r1 then
      some 0
    else
      some 1
  else
    if r1 ≤ r3 then
      some 0
    else
      some 1
set_option maxHeartbeats 4000000 in
set_option maxRecDepth 100000 in
theorem E_X6_isBehind {a1 : Int32} {a2 : Int32} {a3 : Int32} {V : Mm} {res : Int32}  (h : eX6_isBehind a1 a2 a3 V = some res) : Ev mX6_isBehind [.ref 0, .int a1, .int a2, .int a3] (hM V) (some (.int res)) (hM V) := by
  refine Ev.of (n := 2) oX6_isBehind.1 (Nat.le_of_ble_eq_true rfl) ?_
  unfold eX6_isBehind at h
  show Go mX6_isBehind 0 [some (.ref 0), some (.int a1), some (.int a2), some (.int a3), none, none] [] (hM V) 0 0 (some (.int res)) (hM V)
  refine go_aload_n (pc := 0) dX6_isBehind_0 rfl rfl ?_
  refine go_iload_n (pc := 1) dX6_isBehind_1 rfl rfl ?_
  refine go_iload_n (pc := 2) dX6_isBehind_2 rfl rfl ?_
  refine go_iconst (pc := 3) (v := 4) dX6_isBehind_3 ci_4 ?_
  refine go_irem (pc := 4) dX6_isBehind_4 (by decide) ?_
  obtain ⟨r1, e2, h⟩ := ok_bind h
  refine go_cV (pc := 5) (ci := 6) (As := [.int a1, .int (a3 - a3 / 4 * 4)]) (st := []) (E_X6_keyOf e2) rfl oX6_keyOf iX6_keyOf sX6_keyOf kX6_175 rfl (show TM 0 = (6 + 5, 29) from rfl) rfl (Nat.le_of_ble_eq_true rfl) ⟨Nat.le_of_ble_eq_true rfl, Nat.le_of_ble_eq_true rfl⟩ ⟨rfl, rfl⟩ dX6_isBehind_5 (st2 := [.int r1]) rfl ?_
  refine go_istore (pc := 8) (i := 4) dX6_isBehind_8 (Nat.le_of_ble_eq_true rfl) (L2 := [some (.ref 0), some (.int a1), some (.int a2), some (.int a3), some (.int r1), none]) rfl ?_
  refine go_aload_n (pc := 10) dX6_isBehind_10 rfl rfl ?_
  refine go_iload_n (pc := 11) dX6_isBehind_11 rfl rfl ?_
  refine go_iload_n (pc := 12) dX6_isBehind_12 rfl rfl ?_
  refine go_iconst (pc := 13) (v := 4) dX6_isBehind_13 ci_4 ?_
  refine go_irem (pc := 14) dX6_isBehind_14 (by decide) ?_
  obtain ⟨r3, e4, h⟩ := ok_bind h
  refine go_cV (pc := 15) (ci := 6) (As := [.int a2, .int (a3 - a3 / 4 * 4)]) (st := []) (E_X6_keyOf e4) rfl oX6_keyOf iX6_keyOf sX6_keyOf kX6_175 rfl (show TM 0 = (6 + 5, 29) from rfl) rfl (Nat.le_of_ble_eq_true rfl) ⟨Nat.le_of_ble_eq_true rfl, Nat.le_of_ble_eq_true rfl⟩ ⟨rfl, rfl⟩ dX6_isBehind_15 (st2 := [.int r3]) rfl ?_
  refine go_istore (pc := 18) (i := 5) dX6_isBehind_18 (Nat.le_of_ble_eq_true rfl) (L2 := [some (.ref 0), some (.int a1), some (.int a2), some (.int a3), some (.int r1), some (.int r3)]) rfl ?_
  refine go_iload_n (pc := 20) dX6_isBehind_20 rfl rfl ?_
  refine go_iconst (pc := 21) (v := 4) dX6_isBehind_21 ci_4 ?_
  refine go_icmp_ge (pc := 22) (tgt := 40) dX6_isBehind_22 rfl (fun c5 => ?_) (fun c5 => ?_)
  · replace h := ifp h c5
    refine go_iload (pc := 40) dX6_isBehind_40 rfl ?_
    refine go_iload (pc := 42) dX6_isBehind_42 rfl ?_
    refine go_icmp_ge (pc := 44) (tgt := 51) dX6_isBehind_44 rfl (fun c6 => ?_) (fun c6 => ?_)
    · replace h := ifp h c6
      refine go_iconst (pc := 51) (v := 0) dX6_isBehind_51 ci_0 ?_
      cases h
      exact go_iret (pc := 52) (Or.inr ⟨rfl, Or.inl rfl⟩) ⟨Nat.zero_le _, Nat.zero_le _⟩ dX6_isBehind_52
    · replace h := ifn h c6
      refine go_iconst (pc := 47) (v := 1) dX6_isBehind_47 ci_1 ?_
      refine go_goto (pc := 48) (tgt := 52) dX6_isBehind_48 rfl ?_
      cases h
      exact go_iret (pc := 52) (Or.inr ⟨rfl, Or.inr rfl⟩) ⟨Nat.zero_le _, Nat.zero_le _⟩ dX6_isBehind_52
  · replace h := ifn h c5
    refine go_iload (pc := 25) dX6_isBehind_25 rfl ?_
    refine go_iload (pc := 27) dX6_isBehind_27 rfl ?_
    refine go_icmp_le (pc := 29) (tgt := 36) dX6_isBehind_29 rfl (fun c7 => ?_) (fun c7 => ?_)
    · replace h := ifp h c7
      refine go_iconst (pc := 36) (v := 0) dX6_isBehind_36 ci_0 ?_
      refine go_goto (pc := 37) (tgt := 52) dX6_isBehind_37 rfl ?_
      cases h
      exact go_iret (pc := 52) (Or.inr ⟨rfl, Or.inl rfl⟩) ⟨Nat.zero_le _, Nat.zero_le _⟩ dX6_isBehind_52
    · replace h := ifn h c7
      refine go_iconst (pc := 32) (v := 1) dX6_isBehind_32 ci_1 ?_
      refine go_goto (pc := 33) (tgt := 52) dX6_isBehind_33 rfl ?_
      cases h
      exact go_iret (pc := 52) (Or.inr ⟨rfl, Or.inr rfl⟩) ⟨Nat.zero_le _, Nat.zero_le _⟩ dX6_isBehind_52
def eX6_doQuery_b194 : Nat → Int32 → Int32 → Int32 → Int32 → Mm → Option (Int32 × Mm)
  | 0, _, _, _, _, _ => none
  | n + 1, l3, l4, l5, l6, V => 
    if l5 ≤ l6 then
      some (0, V)
    else
      if (l3 + l4) ≤ l6 then
        some (0, V)
      else
        if l6 < 0 ∨ 50 ≤ l6.toNatClampNeg then none else
        (eX6_give (V 0 21) 0 (V 17 l6.toNatClampNeg) V).bind fun r24 =>
        eX6_doQuery_b194 n l3 l4 l5 (l6 + 1) r24
set_option maxHeartbeats 4000000 in
set_option maxRecDepth 100000 in
theorem gX6_doQuery_b194 : ∀ (n : Nat) (l3 : Int32) (l4 : Int32) (l5 : Int32) (l6 : Int32) (V : Mm) (res : Int32 × Mm) , eX6_doQuery_b194 n l3 l4 l5 l6 V = some res → Go mX6_doQuery 194 [some (.ref 0), none, none, some (.int l3), some (.int l4), some (.int l5), some (.int l6), none] [] (hM V) 0 0 (some (.int res.1)) (hM res.2) := by
  intro n
  induction n with
  | zero =>
    intro l3 l4 l5 l6 V res  h
    cases h
  | succ n ih =>
    intro l3 l4 l5 l6 V res  h
    rw [eX6_doQuery_b194] at h
    refine go_iload (pc := 194) dX6_doQuery_194 rfl ?_
    refine go_iload (pc := 196) dX6_doQuery_196 rfl ?_
    refine go_icmp_ge (pc := 198) (tgt := 232) dX6_doQuery_198 rfl (fun c21 => ?_) (fun c21 => ?_)
    · replace h := ifp h c21
      refine go_iconst (pc := 232) (v := 0) dX6_doQuery_232 ci_0 ?_
      cases h
      exact go_iret (pc := 233) (Or.inl rfl) ⟨Nat.zero_le _, Nat.zero_le _⟩ dX6_doQuery_233
    · replace h := ifn h c21
      refine go_iload (pc := 201) dX6_doQuery_201 rfl ?_
      refine go_iload_n (pc := 203) dX6_doQuery_203 rfl rfl ?_
      refine go_iload (pc := 204) dX6_doQuery_204 rfl ?_
      refine go_iadd (pc := 206) dX6_doQuery_206 ?_
      refine go_icmp_ge (pc := 207) (tgt := 232) dX6_doQuery_207 rfl (fun c22 => ?_) (fun c22 => ?_)
      · replace h := ifp h c22
        refine go_iconst (pc := 232) (v := 0) dX6_doQuery_232 ci_0 ?_
        cases h
        exact go_iret (pc := 233) (Or.inl rfl) ⟨Nat.zero_le _, Nat.zero_le _⟩ dX6_doQuery_233
      · replace h := ifn h c22
        refine go_aload_n (pc := 210) dX6_doQuery_210 rfl rfl ?_
        refine go_aload_n (pc := 211) dX6_doQuery_211 rfl rfl ?_
        refine go_gI (pc := 212) (v := V 0 21) fX6_129 (by decide) (show TM 0 = (6 + 5, 29) from rfl) dX6_doQuery_212 rfl ?_
        refine go_iconst (pc := 215) (v := 0) dX6_doQuery_215 ci_0 ?_
        refine go_aload_n (pc := 216) dX6_doQuery_216 rfl rfl ?_
        refine go_getP (pc := 217) (a := 17) fX6_62 (by decide) (show TM 0 = (6 + 5, 29) from rfl) rfl dX6_doQuery_217 ?_
        refine go_iload (pc := 220) dX6_doQuery_220 rfl ?_
        obtain ⟨c23, h⟩ := ok_not h
        refine go_ia (pc := 222) (v := V 17 l6.toNatClampNeg) (show TM 17 = (0, 50) from rfl) (vin c23) dX6_doQuery_222 rfl ?_
        obtain ⟨r24, e25, h⟩ := ok_bind h
        refine go_cV (pc := 223) (ci := 6) (As := [.int (V 0 21), .int 0, .int (V 17 l6.toNatClampNeg)]) (st := []) (E_X6_give e25) rfl oX6_give iX6_give sX6_give kX6_162 rfl (show TM 0 = (6 + 5, 29) from rfl) rfl (Nat.le_of_ble_eq_true rfl) ⟨Nat.le_of_ble_eq_true rfl, Nat.le_of_ble_eq_true rfl⟩ ⟨rfl, rfl⟩ dX6_doQuery_223 (st2 := []) rfl ?_
        refine go_iinc (pc := 226) (v := (l6 + 1)) dX6_doQuery_226 rfl (by rw [ci_1]) (Nat.le_of_ble_eq_true rfl) (L2 := [some (.ref 0), none, none, some (.int l3), some (.int l4), some (.int l5), some (.int (l6 + 1)), none]) rfl ?_
        refine go_goto (pc := 229) (tgt := 194) dX6_doQuery_229 rfl ?_
        exact ih _ _ _ _ _ _  h
def eX6_doQuery_b127 (k80 : Int32 → Int32 → Int32 → Int32 → Int32 → Int32 → Mm → Option (Int32 × Mm)) : Nat → Int32 → Int32 → Int32 → Int32 → Int32 → Int32 → Int32 → Mm → Option (Int32 × Mm)
  | 0, _, _, _, _, _, _, _, _ => none
  | n + 1, l1, l2, l3, l4, l5, l6, l7, V => 
    if l7 ≤ 0 then
      if l7 < 0 ∨ 50 ≤ l7.toNatClampNeg then none else
      k80 l1 l2 l3 l4 (l5 + 1) (l6 + 1) (wr V 17 l7.toNatClampNeg l6)
    else
      if (l7 - 1) < 0 ∨ 50 ≤ (l7 - 1).toNatClampNeg then none else
      (eX6_isBehind (V 17 ((l7 - 1).toNatClampNeg)) l6 l2 V).bind fun r33 =>
      if r33 = 0 then
        if l7 < 0 ∨ 50 ≤ l7.toNatClampNeg then none else
        k80 l1 l2 l3 l4 (l5 + 1) (l6 + 1) (wr V 17 l7.toNatClampNeg l6)
      else
        if (l7 - 1) < 0 ∨ 50 ≤ (l7 - 1).toNatClampNeg then none else
        if l7 < 0 ∨ 50 ≤ l7.toNatClampNeg then none else
        eX6_doQuery_b127 k80 n l1 l2 l3 l4 l5 l6 (l7 + (-1)) (wr V 17 l7.toNatClampNeg (V 17 ((l7 - 1).toNatClampNeg)))
set_option maxHeartbeats 4000000 in
set_option maxRecDepth 100000 in
theorem gX6_doQuery_b127 {k80 : Int32 → Int32 → Int32 → Int32 → Int32 → Int32 → Mm → Option (Int32 × Mm)} (hk80 : ∀ (l1 : Int32) (l2 : Int32) (l3 : Int32) (l4 : Int32) (l5 : Int32) (l6 : Int32) (V : Mm) (res : Int32 × Mm) , k80 l1 l2 l3 l4 l5 l6 V = some res → Go mX6_doQuery 80 [some (.ref 0), some (.int l1), some (.int l2), some (.int l3), some (.int l4), some (.int l5), some (.int l6), none] [] (hM V) 0 0 (some (.int res.1)) (hM res.2)) : ∀ (n : Nat) (l1 : Int32) (l2 : Int32) (l3 : Int32) (l4 : Int32) (l5 : Int32) (l6 : Int32) (l7 : Int32) (V : Mm) (res : Int32 × Mm) , eX6_doQuery_b127 k80 n l1 l2 l3 l4 l5 l6 l7 V = some res → Go mX6_doQuery 127 [some (.ref 0), some (.int l1), some (.int l2), some (.int l3), some (.int l4), some (.int l5), some (.int l6), some (.int l7)] [] (hM V) 0 0 (some (.int res.1)) (hM res.2) := by
  intro n
  induction n with
  | zero =>
    intro l1 l2 l3 l4 l5 l6 l7 V res  h
    cases h
  | succ n ih =>
    intro l1 l2 l3 l4 l5 l6 l7 V res  h
    rw [eX6_doQuery_b127] at h
    refine go_iload (pc := 127) dX6_doQuery_127 rfl ?_
    refine go_if_le (pc := 129) (tgt := 173) dX6_doQuery_129 rfl (fun c30 => ?_) (fun c30 => ?_)
    · replace h := ifp h c30
      refine go_aload_n (pc := 173) dX6_doQuery_173 rfl rfl ?_
      refine go_getP (pc := 174) (a := 17) fX6_62 (by decide) (show TM 0 = (6 + 5, 29) from rfl) rfl dX6_doQuery_174 ?_
      refine go_iload (pc := 177) dX6_doQuery_177 rfl ?_
      refine go_iload (pc := 179) dX6_doQuery_179 rfl ?_
      obtain ⟨c31, h⟩ := ok_not h
      refine go_iast (pc := 181) (show TM 17 = (0, 50) from rfl) (vin c31) dX6_doQuery_181 ?_
      refine go_iinc (pc := 182) (v := (l5 + 1)) dX6_doQuery_182 rfl (by rw [ci_1]) (Nat.le_of_ble_eq_true rfl) (L2 := [some (.ref 0), some (.int l1), some (.int l2), some (.int l3), some (.int l4), some (.int (l5 + 1)), some (.int l6), some (.int l7)]) rfl ?_
      refine go_iinc (pc := 185) (v := (l6 + 1)) dX6_doQuery_185 rfl (by rw [ci_1]) (Nat.le_of_ble_eq_true rfl) (L2 := [some (.ref 0), some (.int l1), some (.int l2), some (.int l3), some (.int l4), some (.int (l5 + 1)), some (.int (l6 + 1)), some (.int l7)]) rfl ?_
      refine go_goto (pc := 188) (tgt := 80) dX6_doQuery_188 rfl ?_
      refine go_le (lle_s (lle_s (lle_s (lle_s (lle_s (lle_s (lle_s (lle_n lle_0)))))))) ?_
      exact hk80 _ _ _ _ _ _ _ _  h
    · replace h := ifn h c30
      refine go_aload_n (pc := 132) dX6_doQuery_132 rfl rfl ?_
      refine go_aload_n (pc := 133) dX6_doQuery_133 rfl rfl ?_
      refine go_getP (pc := 134) (a := 17) fX6_62 (by decide) (show TM 0 = (6 + 5, 29) from rfl) rfl dX6_doQuery_134 ?_
      refine go_iload (pc := 137) dX6_doQuery_137 rfl ?_
      refine go_iconst (pc := 139) (v := 1) dX6_doQuery_139 ci_1 ?_
      refine go_isub (pc := 140) dX6_doQuery_140 ?_
      obtain ⟨c32, h⟩ := ok_not h
      refine go_ia (pc := 141) (v := V 17 ((l7 - 1).toNatClampNeg)) (show TM 17 = (0, 50) from rfl) (vin c32) dX6_doQuery_141 rfl ?_
      refine go_iload (pc := 142) dX6_doQuery_142 rfl ?_
      refine go_iload_n (pc := 144) dX6_doQuery_144 rfl rfl ?_
      obtain ⟨r33, e34, h⟩ := ok_bind h
      refine go_cV (pc := 145) (ci := 6) (As := [.int (V 17 ((l7 - 1).toNatClampNeg)), .int l6, .int l2]) (st := []) (E_X6_isBehind e34) rfl oX6_isBehind iX6_isBehind sX6_isBehind kX6_172 rfl (show TM 0 = (6 + 5, 29) from rfl) rfl (Nat.le_of_ble_eq_true rfl) ⟨Nat.le_of_ble_eq_true rfl, Nat.le_of_ble_eq_true rfl⟩ ⟨rfl, rfl⟩ dX6_doQuery_145 (st2 := [.int r33]) rfl ?_
      refine go_if_eq (pc := 148) (tgt := 173) dX6_doQuery_148 rfl (fun c35 => ?_) (fun c35 => ?_)
      · replace h := ifp h c35
        refine go_aload_n (pc := 173) dX6_doQuery_173 rfl rfl ?_
        refine go_getP (pc := 174) (a := 17) fX6_62 (by decide) (show TM 0 = (6 + 5, 29) from rfl) rfl dX6_doQuery_174 ?_
        refine go_iload (pc := 177) dX6_doQuery_177 rfl ?_
        refine go_iload (pc := 179) dX6_doQuery_179 rfl ?_
        obtain ⟨c36, h⟩ := ok_not h
        refine go_iast (pc := 181) (show TM 17 = (0, 50) from rfl) (vin c36) dX6_doQuery_181 ?_
        refine go_iinc (pc := 182) (v := (l5 + 1)) dX6_doQuery_182 rfl (by rw [ci_1]) (Nat.le_of_ble_eq_true rfl) (L2 := [some (.ref 0), some (.int l1), some (.int l2), some (.int l3), some (.int l4), some (.int (l5 + 1)), some (.int l6), some (.int l7)]) rfl ?_
        refine go_iinc (pc := 185) (v := (l6 + 1)) dX6_doQuery_185 rfl (by rw [ci_1]) (Nat.le_of_ble_eq_true rfl) (L2 := [some (.ref 0), some (.int l1), some (.int l2), some (.int l3), some (.int l4), some (.int (l5 + 1)), some (.int (l6 + 1)), some (.int l7)]) rfl ?_
        refine go_goto (pc := 188) (tgt := 80) dX6_doQuery_188 rfl ?_
        refine go_le (lle_s (lle_s (lle_s (lle_s (lle_s (lle_s (lle_s (lle_n lle_0)))))))) ?_
        exact hk80 _ _ _ _ _ _ _ _  h
      · replace h := ifn h c35
        refine go_aload_n (pc := 151) dX6_doQuery_151 rfl rfl ?_
        refine go_getP (pc := 152) (a := 17) fX6_62 (by decide) (show TM 0 = (6 + 5, 29) from rfl) rfl dX6_doQuery_152 ?_
        refine go_iload (pc := 155) dX6_doQuery_155 rfl ?_
        refine go_aload_n (pc := 157) dX6_doQuery_157 rfl rfl ?_
        refine go_getP (pc := 158) (a := 17) fX6_62 (by decide) (show TM 0 = (6 + 5, 29) from rfl) rfl dX6_doQuery_158 ?_
        refine go_iload (pc := 161) dX6_doQuery_161 rfl ?_
        refine go_iconst (pc := 163) (v := 1) dX6_doQuery_163 ci_1 ?_
        refine go_isub (pc := 164) dX6_doQuery_164 ?_
        obtain ⟨c37, h⟩ := ok_not h
        refine go_ia (pc := 165) (v := V 17 ((l7 - 1).toNatClampNeg)) (show TM 17 = (0, 50) from rfl) (vin c37) dX6_doQuery_165 rfl ?_
        obtain ⟨c38, h⟩ := ok_not h
        refine go_iast (pc := 166) (show TM 17 = (0, 50) from rfl) (vin c38) dX6_doQuery_166 ?_
        refine go_iinc (pc := 167) (v := (l7 + (-1))) dX6_doQuery_167 rfl (by rw [ci_m1]) (Nat.le_of_ble_eq_true rfl) (L2 := [some (.ref 0), some (.int l1), some (.int l2), some (.int l3), some (.int l4), some (.int l5), some (.int l6), some (.int (l7 + (-1)))]) rfl ?_
        refine go_goto (pc := 170) (tgt := 127) dX6_doQuery_170 rfl ?_
        exact ih _ _ _ _ _ _ _ _ _  h
def eX6_doQuery_b80 : Nat → Int32 → Int32 → Int32 → Int32 → Int32 → Int32 → Mm → Option (Int32 × Mm)
  | 0, _, _, _, _, _, _, _ => none
  | n + 1, l1, l2, l3, l4, l5, l6, V => 
    if (V 1 581) ≤ l6 then
      eX6_doQuery_b194 fu l3 l4 l5 l3 V
    else
      (eX6_isMail 1 l6 V).bind fun r26 =>
      if r26 = 0 then
        eX6_doQuery_b80 n l1 l2 l3 l4 l5 (l6 + 1) V
      else
        if l1 < 0 then
          eX6_doQuery_b127 (fun l1 l2 l3 l4 l5 l6 V => eX6_doQuery_b80 n l1 l2 l3 l4 l5 l6 V) fu l1 l2 l3 l4 l5 l6 l5 V
        else
          (eX6_isFit l6 l1 V).bind fun r39 =>
          if r39.1 = 0 then
            eX6_doQuery_b80 n l1 l2 l3 l4 l5 (l6 + 1) r39.2
          else
            eX6_doQuery_b127 (fun l1 l2 l3 l4 l5 l6 V => eX6_doQuery_b80 n l1 l2 l3 l4 l5 l6 V) fu l1 l2 l3 l4 l5 l6 l5 r39.2
set_option maxHeartbeats 4000000 in
set_option maxRecDepth 100000 in
theorem gX6_doQuery_b80 : ∀ (n : Nat) (l1 : Int32) (l2 : Int32) (l3 : Int32) (l4 : Int32) (l5 : Int32) (l6 : Int32) (V : Mm) (res : Int32 × Mm) , eX6_doQuery_b80 n l1 l2 l3 l4 l5 l6 V = some res → Go mX6_doQuery 80 [some (.ref 0), some (.int l1), some (.int l2), some (.int l3), some (.int l4), some (.int l5), some (.int l6), none] [] (hM V) 0 0 (some (.int res.1)) (hM res.2) := by
  intro n
  induction n with
  | zero =>
    intro l1 l2 l3 l4 l5 l6 V res  h
    cases h
  | succ n ih =>
    intro l1 l2 l3 l4 l5 l6 V res  h
    rw [eX6_doQuery_b80] at h
    refine go_iload (pc := 80) dX6_doQuery_80 rfl ?_
    refine go_aload_n (pc := 82) dX6_doQuery_82 rfl rfl ?_
    refine go_getP (pc := 83) (a := 1) fX6_7 (by decide) (show TM 0 = (6 + 5, 29) from rfl) rfl dX6_doQuery_83 ?_
    refine go_sipush (pc := 86) (v := 581) dX6_doQuery_86 cs_581 ?_
    refine go_ia (pc := 89) (v := V 1 581) (show TM 1 = (0, 586) from rfl) (vin (by decide)) dX6_doQuery_89 rfl ?_
    refine go_icmp_ge (pc := 90) (tgt := 191) dX6_doQuery_90 rfl (fun c20 => ?_) (fun c20 => ?_)
    · replace h := ifp h c20
      refine go_iload_n (pc := 191) dX6_doQuery_191 rfl rfl ?_
      refine go_istore (pc := 192) (i := 6) dX6_doQuery_192 (Nat.le_of_ble_eq_true rfl) (L2 := [some (.ref 0), some (.int l1), some (.int l2), some (.int l3), some (.int l4), some (.int l5), some (.int l3), none]) rfl ?_
      refine go_le (lle_s (lle_n (lle_n (lle_s (lle_s (lle_s (lle_s (lle_n lle_0)))))))) ?_
      exact gX6_doQuery_b194 _ _ _ _ _ _ _  h
    · replace h := ifn h c20
      refine go_aload_n (pc := 93) dX6_doQuery_93 rfl rfl ?_
      refine go_aload_n (pc := 94) dX6_doQuery_94 rfl rfl ?_
      refine go_getP (pc := 95) (a := 1) fX6_7 (by decide) (show TM 0 = (6 + 5, 29) from rfl) rfl dX6_doQuery_95 ?_
      refine go_iload (pc := 98) dX6_doQuery_98 rfl ?_
      obtain ⟨r26, e27, h⟩ := ok_bind h
      refine go_cV (pc := 100) (ci := 6) (As := [.ref 1, .int l6]) (st := []) (E_X6_isMail isW_1 e27) rfl oX6_isMail iX6_isMail sX6_isMail kX6_81 rfl (show TM 0 = (6 + 5, 29) from rfl) rfl (Nat.le_of_ble_eq_true rfl) ⟨Nat.le_of_ble_eq_true rfl, Nat.le_of_ble_eq_true rfl⟩ ⟨rfl, rfl⟩ dX6_doQuery_100 (st2 := [.int r26]) rfl ?_
      refine go_if_eq (pc := 103) (tgt := 185) dX6_doQuery_103 rfl (fun c28 => ?_) (fun c28 => ?_)
      · replace h := ifp h c28
        refine go_iinc (pc := 185) (v := (l6 + 1)) dX6_doQuery_185 rfl (by rw [ci_1]) (Nat.le_of_ble_eq_true rfl) (L2 := [some (.ref 0), some (.int l1), some (.int l2), some (.int l3), some (.int l4), some (.int l5), some (.int (l6 + 1)), none]) rfl ?_
        refine go_goto (pc := 188) (tgt := 80) dX6_doQuery_188 rfl ?_
        exact ih _ _ _ _ _ _ _ _  h
      · replace h := ifn h c28
        refine go_iload_n (pc := 106) dX6_doQuery_106 rfl rfl ?_
        refine go_if_lt (pc := 107) (tgt := 123) dX6_doQuery_107 rfl (fun c29 => ?_) (fun c29 => ?_)
        · replace h := ifp h c29
          refine go_iload (pc := 123) dX6_doQuery_123 rfl ?_
          refine go_istore (pc := 125) (i := 7) dX6_doQuery_125 (Nat.le_of_ble_eq_true rfl) (L2 := [some (.ref 0), some (.int l1), some (.int l2), some (.int l3), some (.int l4), some (.int l5), some (.int l6), some (.int l5)]) rfl ?_
          exact gX6_doQuery_b127 ih _ _ _ _ _ _ _ _ _ _  h
        · replace h := ifn h c29
          refine go_aload_n (pc := 110) dX6_doQuery_110 rfl rfl ?_
          refine go_iload (pc := 111) dX6_doQuery_111 rfl ?_
          refine go_iload_n (pc := 113) dX6_doQuery_113 rfl rfl ?_
          obtain ⟨r39, e40, h⟩ := ok_bind h
          refine go_cV (pc := 114) (ci := 6) (As := [.int l6, .int l1]) (st := []) (E_X6_isFit e40) rfl oX6_isFit iX6_isFit sX6_isFit kX6_169 rfl (show TM 0 = (6 + 5, 29) from rfl) rfl (Nat.le_of_ble_eq_true rfl) ⟨Nat.le_of_ble_eq_true rfl, Nat.le_of_ble_eq_true rfl⟩ ⟨rfl, rfl⟩ dX6_doQuery_114 (st2 := [.int r39.1]) rfl ?_
          refine go_if_ne (pc := 117) (tgt := 123) dX6_doQuery_117 rfl (fun c41 => ?_) (fun c41 => ?_)
          · replace h := ifn h c41
            refine go_iload (pc := 123) dX6_doQuery_123 rfl ?_
            refine go_istore (pc := 125) (i := 7) dX6_doQuery_125 (Nat.le_of_ble_eq_true rfl) (L2 := [some (.ref 0), some (.int l1), some (.int l2), some (.int l3), some (.int l4), some (.int l5), some (.int l6), some (.int l5)]) rfl ?_
            exact gX6_doQuery_b127 ih _ _ _ _ _ _ _ _ _ _  h
          · replace h := ifp h c41
            refine go_goto (pc := 120) (tgt := 185) dX6_doQuery_120 rfl ?_
            refine go_iinc (pc := 185) (v := (l6 + 1)) dX6_doQuery_185 rfl (by rw [ci_1]) (Nat.le_of_ble_eq_true rfl) (L2 := [some (.ref 0), some (.int l1), some (.int l2), some (.int l3), some (.int l4), some (.int l5), some (.int (l6 + 1)), none]) rfl ?_
            refine go_goto (pc := 188) (tgt := 80) dX6_doQuery_188 rfl ?_
            exact ih _ _ _ _ _ _ _ _  h
def eX6_doQuery  (V : Mm) : Option (Int32 × Mm) :=
  (eX6_number 0 V).bind fun r1 =>
  (eX6_number 1 V).bind fun r3 =>
  (eX6_number 2 V).bind fun r5 =>
  (eX6_number 3 V).bind fun r7 =>
  if r1 < (-1) then
    some ((-2), V)
  else
    (eX6_within r3 0 7 V).bind fun r10 =>
    if r10 = 0 then
      some ((-2), V)
    else
      (eX6_within r5 0 99 V).bind fun r13 =>
      if r13 = 0 then
        some ((-2), V)
      else
        (eX6_within r7 0 99 V).bind fun r16 =>
        if r16 = 0 then
          some ((-2), V)
        else
          if r1 < (V 0 24) then
            eX6_doQuery_b80 fu r1 r3 r5 r7 0 0 V
          else
            some ((-1), V)
set_option maxHeartbeats 4000000 in
set_option maxRecDepth 100000 in
theorem E_X6_doQuery  {V : Mm} {res : Int32 × Mm}  (h : eX6_doQuery V = some res) : Ev mX6_doQuery [.ref 0] (hM V) (some (.int res.1)) (hM res.2) := by
  refine Ev.of (n := 7) oX6_doQuery.1 (Nat.le_of_ble_eq_true rfl) ?_
  unfold eX6_doQuery at h
  show Go mX6_doQuery 0 [some (.ref 0), none, none, none, none, none, none, none] [] (hM V) 0 0 (some (.int res.1)) (hM res.2)
  refine go_aload_n (pc := 0) dX6_doQuery_0 rfl rfl ?_
  refine go_iconst (pc := 1) (v := 0) dX6_doQuery_1 ci_0 ?_
  obtain ⟨r1, e2, h⟩ := ok_bind h
  refine go_cV (pc := 2) (ci := 6) (As := [.int 0]) (st := []) (E_X6_number e2) rfl oX6_number iX6_number sX6_number kX6_146 rfl (show TM 0 = (6 + 5, 29) from rfl) rfl (Nat.le_of_ble_eq_true rfl) ⟨Nat.le_of_ble_eq_true rfl, Nat.le_of_ble_eq_true rfl⟩ ⟨rfl, rfl⟩ dX6_doQuery_2 (st2 := [.int r1]) rfl ?_
  refine go_istore_n (pc := 5) (i := 1) dX6_doQuery_5 rfl (Nat.le_of_ble_eq_true rfl) (L2 := [some (.ref 0), some (.int r1), none, none, none, none, none, none]) rfl ?_
  refine go_aload_n (pc := 6) dX6_doQuery_6 rfl rfl ?_
  refine go_iconst (pc := 7) (v := 1) dX6_doQuery_7 ci_1 ?_
  obtain ⟨r3, e4, h⟩ := ok_bind h
  refine go_cV (pc := 8) (ci := 6) (As := [.int 1]) (st := []) (E_X6_number e4) rfl oX6_number iX6_number sX6_number kX6_146 rfl (show TM 0 = (6 + 5, 29) from rfl) rfl (Nat.le_of_ble_eq_true rfl) ⟨Nat.le_of_ble_eq_true rfl, Nat.le_of_ble_eq_true rfl⟩ ⟨rfl, rfl⟩ dX6_doQuery_8 (st2 := [.int r3]) rfl ?_
  refine go_istore_n (pc := 11) (i := 2) dX6_doQuery_11 rfl (Nat.le_of_ble_eq_true rfl) (L2 := [some (.ref 0), some (.int r1), some (.int r3), none, none, none, none, none]) rfl ?_
  refine go_aload_n (pc := 12) dX6_doQuery_12 rfl rfl ?_
  refine go_iconst (pc := 13) (v := 2) dX6_doQuery_13 ci_2 ?_
  obtain ⟨r5, e6, h⟩ := ok_bind h
  refine go_cV (pc := 14) (ci := 6) (As := [.int 2]) (st := []) (E_X6_number e6) rfl oX6_number iX6_number sX6_number kX6_146 rfl (show TM 0 = (6 + 5, 29) from rfl) rfl (Nat.le_of_ble_eq_true rfl) ⟨Nat.le_of_ble_eq_true rfl, Nat.le_of_ble_eq_true rfl⟩ ⟨rfl, rfl⟩ dX6_doQuery_14 (st2 := [.int r5]) rfl ?_
  refine go_istore_n (pc := 17) (i := 3) dX6_doQuery_17 rfl (Nat.le_of_ble_eq_true rfl) (L2 := [some (.ref 0), some (.int r1), some (.int r3), some (.int r5), none, none, none, none]) rfl ?_
  refine go_aload_n (pc := 18) dX6_doQuery_18 rfl rfl ?_
  refine go_iconst (pc := 19) (v := 3) dX6_doQuery_19 ci_3 ?_
  obtain ⟨r7, e8, h⟩ := ok_bind h
  refine go_cV (pc := 20) (ci := 6) (As := [.int 3]) (st := []) (E_X6_number e8) rfl oX6_number iX6_number sX6_number kX6_146 rfl (show TM 0 = (6 + 5, 29) from rfl) rfl (Nat.le_of_ble_eq_true rfl) ⟨Nat.le_of_ble_eq_true rfl, Nat.le_of_ble_eq_true rfl⟩ ⟨rfl, rfl⟩ dX6_doQuery_20 (st2 := [.int r7]) rfl ?_
  refine go_istore (pc := 23) (i := 4) dX6_doQuery_23 (Nat.le_of_ble_eq_true rfl) (L2 := [some (.ref 0), some (.int r1), some (.int r3), some (.int r5), some (.int r7), none, none, none]) rfl ?_
  refine go_iload_n (pc := 25) dX6_doQuery_25 rfl rfl ?_
  refine go_iconst (pc := 26) (v := (-1)) dX6_doQuery_26 ci_m1 ?_
  refine go_icmp_lt (pc := 27) (tgt := 61) dX6_doQuery_27 rfl (fun c9 => ?_) (fun c9 => ?_)
  · replace h := ifp h c9
    refine go_bipush (pc := 61) (v := (-2)) dX6_doQuery_61 cb_m2 ?_
    cases h
    exact go_iret (pc := 63) (Or.inl rfl) ⟨Nat.zero_le _, Nat.zero_le _⟩ dX6_doQuery_63
  · replace h := ifn h c9
    refine go_iload_n (pc := 30) dX6_doQuery_30 rfl rfl ?_
    refine go_iconst (pc := 31) (v := 0) dX6_doQuery_31 ci_0 ?_
    refine go_bipush (pc := 32) (v := 7) dX6_doQuery_32 cb_7 ?_
    obtain ⟨r10, e11, h⟩ := ok_bind h
    refine go_cS (pc := 34) (As := [.int r3, .int 0, .int 7]) (st := []) (E_X6_within e11) rfl oX6_within iX6_within kX6_99 rfl (Nat.le_of_ble_eq_true rfl) ⟨Nat.le_of_ble_eq_true rfl, Nat.le_of_ble_eq_true rfl⟩ ⟨rfl, rfl⟩ dX6_doQuery_34 (st2 := [.int r10]) rfl ?_
    refine go_if_eq (pc := 37) (tgt := 61) dX6_doQuery_37 rfl (fun c12 => ?_) (fun c12 => ?_)
    · replace h := ifp h c12
      refine go_bipush (pc := 61) (v := (-2)) dX6_doQuery_61 cb_m2 ?_
      cases h
      exact go_iret (pc := 63) (Or.inl rfl) ⟨Nat.zero_le _, Nat.zero_le _⟩ dX6_doQuery_63
    · replace h := ifn h c12
      refine go_iload_n (pc := 40) dX6_doQuery_40 rfl rfl ?_
      refine go_iconst (pc := 41) (v := 0) dX6_doQuery_41 ci_0 ?_
      refine go_bipush (pc := 42) (v := 99) dX6_doQuery_42 cb_99 ?_
      obtain ⟨r13, e14, h⟩ := ok_bind h
      refine go_cS (pc := 44) (As := [.int r5, .int 0, .int 99]) (st := []) (E_X6_within e14) rfl oX6_within iX6_within kX6_99 rfl (Nat.le_of_ble_eq_true rfl) ⟨Nat.le_of_ble_eq_true rfl, Nat.le_of_ble_eq_true rfl⟩ ⟨rfl, rfl⟩ dX6_doQuery_44 (st2 := [.int r13]) rfl ?_
      refine go_if_eq (pc := 47) (tgt := 61) dX6_doQuery_47 rfl (fun c15 => ?_) (fun c15 => ?_)
      · replace h := ifp h c15
        refine go_bipush (pc := 61) (v := (-2)) dX6_doQuery_61 cb_m2 ?_
        cases h
        exact go_iret (pc := 63) (Or.inl rfl) ⟨Nat.zero_le _, Nat.zero_le _⟩ dX6_doQuery_63
      · replace h := ifn h c15
        refine go_iload (pc := 50) dX6_doQuery_50 rfl ?_
        refine go_iconst (pc := 52) (v := 0) dX6_doQuery_52 ci_0 ?_
        refine go_bipush (pc := 53) (v := 99) dX6_doQuery_53 cb_99 ?_
        obtain ⟨r16, e17, h⟩ := ok_bind h
        refine go_cS (pc := 55) (As := [.int r7, .int 0, .int 99]) (st := []) (E_X6_within e17) rfl oX6_within iX6_within kX6_99 rfl (Nat.le_of_ble_eq_true rfl) ⟨Nat.le_of_ble_eq_true rfl, Nat.le_of_ble_eq_true rfl⟩ ⟨rfl, rfl⟩ dX6_doQuery_55 (st2 := [.int r16]) rfl ?_
        refine go_if_ne (pc := 58) (tgt := 64) dX6_doQuery_58 rfl (fun c18 => ?_) (fun c18 => ?_)
        · replace h := ifn h c18
          refine go_iload_n (pc := 64) dX6_doQuery_64 rfl rfl ?_
          refine go_aload_n (pc := 65) dX6_doQuery_65 rfl rfl ?_
          refine go_gI (pc := 66) (v := V 0 24) fX6_166 (by decide) (show TM 0 = (6 + 5, 29) from rfl) dX6_doQuery_66 rfl ?_
          refine go_icmp_lt (pc := 69) (tgt := 74) dX6_doQuery_69 rfl (fun c19 => ?_) (fun c19 => ?_)
          · replace h := ifp h c19
            refine go_iconst (pc := 74) (v := 0) dX6_doQuery_74 ci_0 ?_
            refine go_istore (pc := 75) (i := 5) dX6_doQuery_75 (Nat.le_of_ble_eq_true rfl) (L2 := [some (.ref 0), some (.int r1), some (.int r3), some (.int r5), some (.int r7), some (.int 0), none, none]) rfl ?_
            refine go_iconst (pc := 77) (v := 0) dX6_doQuery_77 ci_0 ?_
            refine go_istore (pc := 78) (i := 6) dX6_doQuery_78 (Nat.le_of_ble_eq_true rfl) (L2 := [some (.ref 0), some (.int r1), some (.int r3), some (.int r5), some (.int r7), some (.int 0), some (.int 0), none]) rfl ?_
            exact gX6_doQuery_b80 _ _ _ _ _ _ _ _ _  h
          · replace h := ifn h c19
            refine go_iconst (pc := 72) (v := (-1)) dX6_doQuery_72 ci_m1 ?_
            cases h
            exact go_iret (pc := 73) (Or.inl rfl) ⟨Nat.zero_le _, Nat.zero_le _⟩ dX6_doQuery_73
        · replace h := ifp h c18
          refine go_bipush (pc := 61) (v := (-2)) dX6_doQuery_61 cb_m2 ?_
          cases h
          exact go_iret (pc := 63) (Or.inl rfl) ⟨Nat.zero_le _, Nat.zero_le _⟩ dX6_doQuery_63
def eX6_between_b142 (l6 : Int32) (l7 : Int32) (s0 : Int32) (V : Mm) : Option (Int32) :=
  if l6 = 3 then
    if l7 = 0 then
      some ((s0 + 0) + 0)
    else
      some ((s0 + 0) + 4)
  else
    if l7 = 0 then
      some ((s0 + 2) + 0)
    else
      some ((s0 + 2) + 4)
set_option maxHeartbeats 4000000 in
set_option maxRecDepth 100000 in
theorem gX6_between_b142 {l6 : Int32} {l7 : Int32} {s0 : Int32} {V : Mm} {res : Int32}  (h : eX6_between_b142 l6 l7 s0 V = some res) : Go mX6_between 142 [none, none, none, none, none, none, some (.int l6), some (.int l7), none] [.int s0] (hM V) 0 0 (some (.int res)) (hM V) := by
  unfold eX6_between_b142 at h
  refine go_iload (pc := 142) dX6_between_142 rfl ?_
  refine go_iconst (pc := 144) (v := 3) dX6_between_144 ci_3 ?_
  refine go_icmp_ne (pc := 145) (tgt := 152) dX6_between_145 rfl (fun c4 => ?_) (fun c4 => ?_)
  · replace h := ifn h c4
    refine go_iconst (pc := 152) (v := 2) dX6_between_152 ci_2 ?_
    refine go_iadd (pc := 153) dX6_between_153 ?_
    refine go_iload (pc := 154) dX6_between_154 rfl ?_
    refine go_if_eq (pc := 156) (tgt := 163) dX6_between_156 rfl (fun c5 => ?_) (fun c5 => ?_)
    · replace h := ifp h c5
      refine go_iconst (pc := 163) (v := 0) dX6_between_163 ci_0 ?_
      refine go_iadd (pc := 164) dX6_between_164 ?_
      cases h
      exact go_iret (pc := 165) (Or.inl rfl) ⟨Nat.zero_le _, Nat.zero_le _⟩ dX6_between_165
    · replace h := ifn h c5
      refine go_iconst (pc := 159) (v := 4) dX6_between_159 ci_4 ?_
      refine go_goto (pc := 160) (tgt := 164) dX6_between_160 rfl ?_
      refine go_iadd (pc := 164) dX6_between_164 ?_
      cases h
      exact go_iret (pc := 165) (Or.inl rfl) ⟨Nat.zero_le _, Nat.zero_le _⟩ dX6_between_165
  · replace h := ifp h c4
    refine go_iconst (pc := 148) (v := 0) dX6_between_148 ci_0 ?_
    refine go_goto (pc := 149) (tgt := 153) dX6_between_149 rfl ?_
    refine go_iadd (pc := 153) dX6_between_153 ?_
    refine go_iload (pc := 154) dX6_between_154 rfl ?_
    refine go_if_eq (pc := 156) (tgt := 163) dX6_between_156 rfl (fun c6 => ?_) (fun c6 => ?_)
    · replace h := ifp h c6
      refine go_iconst (pc := 163) (v := 0) dX6_between_163 ci_0 ?_
      refine go_iadd (pc := 164) dX6_between_164 ?_
      cases h
      exact go_iret (pc := 165) (Or.inl rfl) ⟨Nat.zero_le _, Nat.zero_le _⟩ dX6_between_165
    · replace h := ifn h c6
      refine go_iconst (pc := 159) (v := 4) dX6_between_159 ci_4 ?_
      refine go_goto (pc := 160) (tgt := 164) dX6_between_160 rfl ?_
      refine go_iadd (pc := 164) dX6_between_164 ?_
      cases h
      exact go_iret (pc := 165) (Or.inl rfl) ⟨Nat.zero_le _, Nat.zero_le _⟩ dX6_between_165
def eX6_between_b86 (k12 : Int32 → Int32 → Int32 → Int32 → Int32 → Int32 → Int32 → Int32 → Mm → Option (Int32)) (l1 : Int32) (l2 : Int32) (l3 : Int32) (l4 : Int32) (l7 : Int32) (l8 : Int32) (s0 : Int32) (V : Mm) : Option (Int32) :=
  if l8 < 0 ∨ 60 ≤ l8.toNatClampNeg then none else
  if l8 < 0 ∨ 60 ≤ l8.toNatClampNeg then none else
  if (V 14 l8.toNatClampNeg) = 2 then
    k12 l1 l2 l3 l4 s0 (V 14 l8.toNatClampNeg) (l7 ||| 1) (l8 + 1) V
  else
    k12 l1 l2 l3 l4 s0 (V 14 l8.toNatClampNeg) (l7 ||| 0) (l8 + 1) V
set_option maxHeartbeats 4000000 in
set_option maxRecDepth 100000 in
theorem gX6_between_b86 {k12 : Int32 → Int32 → Int32 → Int32 → Int32 → Int32 → Int32 → Int32 → Mm → Option (Int32)} (hk12 : ∀ (l1 : Int32) (l2 : Int32) (l3 : Int32) (l4 : Int32) (l5 : Int32) (l6 : Int32) (l7 : Int32) (l8 : Int32) (V : Mm) (res : Int32) , k12 l1 l2 l3 l4 l5 l6 l7 l8 V = some res → Go mX6_between 12 [some (.ref 0), some (.int l1), some (.int l2), some (.int l3), some (.int l4), some (.int l5), some (.int l6), some (.int l7), some (.int l8)] [] (hM V) 0 0 (some (.int res)) (hM V)) {l1 : Int32} {l2 : Int32} {l3 : Int32} {l4 : Int32} {l7 : Int32} {l8 : Int32} {s0 : Int32} {V : Mm} {res : Int32}  (h : eX6_between_b86 k12 l1 l2 l3 l4 l7 l8 s0 V = some res) : Go mX6_between 86 [some (.ref 0), some (.int l1), some (.int l2), some (.int l3), some (.int l4), none, none, some (.int l7), some (.int l8)] [.int s0] (hM V) 0 0 (some (.int res)) (hM V) := by
  unfold eX6_between_b86 at h
  refine go_istore (pc := 86) (i := 5) dX6_between_86 (Nat.le_of_ble_eq_true rfl) (L2 := [some (.ref 0), some (.int l1), some (.int l2), some (.int l3), some (.int l4), some (.int s0), none, some (.int l7), some (.int l8)]) rfl ?_
  refine go_aload_n (pc := 88) dX6_between_88 rfl rfl ?_
  refine go_getP (pc := 89) (a := 14) fX6_53 (by decide) (show TM 0 = (6 + 5, 29) from rfl) rfl dX6_between_89 ?_
  refine go_iload (pc := 92) dX6_between_92 rfl ?_
  obtain ⟨c16, h⟩ := ok_not h
  refine go_ia (pc := 94) (v := V 14 l8.toNatClampNeg) (show TM 14 = (0, 60) from rfl) (vin c16) dX6_between_94 rfl ?_
  refine go_istore (pc := 95) (i := 6) dX6_between_95 (Nat.le_of_ble_eq_true rfl) (L2 := [some (.ref 0), some (.int l1), some (.int l2), some (.int l3), some (.int l4), some (.int s0), some (.int (V 14 l8.toNatClampNeg)), some (.int l7), some (.int l8)]) rfl ?_
  refine go_iload (pc := 97) dX6_between_97 rfl ?_
  refine go_aload_n (pc := 99) dX6_between_99 rfl rfl ?_
  refine go_getP (pc := 100) (a := 14) fX6_53 (by decide) (show TM 0 = (6 + 5, 29) from rfl) rfl dX6_between_100 ?_
  refine go_iload (pc := 103) dX6_between_103 rfl ?_
  obtain ⟨c17, h⟩ := ok_not h
  refine go_ia (pc := 105) (v := V 14 l8.toNatClampNeg) (show TM 14 = (0, 60) from rfl) (vin c17) dX6_between_105 rfl ?_
  refine go_iconst (pc := 106) (v := 2) dX6_between_106 ci_2 ?_
  refine go_icmp_ne (pc := 107) (tgt := 114) dX6_between_107 rfl (fun c18 => ?_) (fun c18 => ?_)
  · replace h := ifn h c18
    refine go_iconst (pc := 114) (v := 0) dX6_between_114 ci_0 ?_
    refine go_ior (pc := 115) dX6_between_115 ?_
    refine go_istore (pc := 116) (i := 7) dX6_between_116 (Nat.le_of_ble_eq_true rfl) (L2 := [some (.ref 0), some (.int l1), some (.int l2), some (.int l3), some (.int l4), some (.int s0), some (.int (V 14 l8.toNatClampNeg)), some (.int (l7 ||| 0)), some (.int l8)]) rfl ?_
    refine go_iinc (pc := 118) (v := (l8 + 1)) dX6_between_118 rfl (by rw [ci_1]) (Nat.le_of_ble_eq_true rfl) (L2 := [some (.ref 0), some (.int l1), some (.int l2), some (.int l3), some (.int l4), some (.int s0), some (.int (V 14 l8.toNatClampNeg)), some (.int (l7 ||| 0)), some (.int (l8 + 1))]) rfl ?_
    refine go_goto (pc := 121) (tgt := 12) dX6_between_121 rfl ?_
    exact hk12 _ _ _ _ _ _ _ _ _ _  h
  · replace h := ifp h c18
    refine go_iconst (pc := 110) (v := 1) dX6_between_110 ci_1 ?_
    refine go_goto (pc := 111) (tgt := 115) dX6_between_111 rfl ?_
    refine go_ior (pc := 115) dX6_between_115 ?_
    refine go_istore (pc := 116) (i := 7) dX6_between_116 (Nat.le_of_ble_eq_true rfl) (L2 := [some (.ref 0), some (.int l1), some (.int l2), some (.int l3), some (.int l4), some (.int s0), some (.int (V 14 l8.toNatClampNeg)), some (.int (l7 ||| 1)), some (.int l8)]) rfl ?_
    refine go_iinc (pc := 118) (v := (l8 + 1)) dX6_between_118 rfl (by rw [ci_1]) (Nat.le_of_ble_eq_true rfl) (L2 := [some (.ref 0), some (.int l1), some (.int l2), some (.int l3), some (.int l4), some (.int s0), some (.int (V 14 l8.toNatClampNeg)), some (.int (l7 ||| 1)), some (.int (l8 + 1))]) rfl ?_
    refine go_goto (pc := 121) (tgt := 12) dX6_between_121 rfl ?_
    exact hk12 _ _ _ _ _ _ _ _ _ _  h
def eX6_between_b12 : Nat → Int32 → Int32 → Int32 → Int32 → Int32 → Int32 → Int32 → Int32 → Mm → Option (Int32)
  | 0, _, _, _, _, _, _, _, _, _ => none
  | n + 1, l1, l2, l3, l4, l5, l6, l7, l8, V => 
    if (V 0 13) ≤ l8 then
      if l5 = 0 then
        some 0
      else
        if l5 = 1 then
          eX6_between_b142 l6 l7 0 V
        else
          eX6_between_b142 l6 l7 1 V
    else
      if l8 < 0 ∨ 60 ≤ l8.toNatClampNeg then none else
      if (V 11 l8.toNatClampNeg) = l1 then
        if l8 < 0 ∨ 60 ≤ l8.toNatClampNeg then none else
        if (V 13 l8.toNatClampNeg) = l2 then
          if l8 < 0 ∨ 60 ≤ l8.toNatClampNeg then none else
          if (V 12 l8.toNatClampNeg) ≤ l3 then
            eX6_between_b12 n l1 l2 l3 l4 l5 l6 l7 (l8 + 1) V
          else
            if l8 < 0 ∨ 60 ≤ l8.toNatClampNeg then none else
            if (V 12 l8.toNatClampNeg) ≤ l4 then
              if l5 = 0 then
                if l8 < 0 ∨ 60 ≤ l8.toNatClampNeg then none else
                eX6_between_b86 (fun l1 l2 l3 l4 l5 l6 l7 l8 V => eX6_between_b12 n l1 l2 l3 l4 l5 l6 l7 l8 V) l1 l2 l3 l4 l7 l8 (V 14 l8.toNatClampNeg) V
              else
                eX6_between_b86 (fun l1 l2 l3 l4 l5 l6 l7 l8 V => eX6_between_b12 n l1 l2 l3 l4 l5 l6 l7 l8 V) l1 l2 l3 l4 l7 l8 l5 V
            else
              eX6_between_b12 n l1 l2 l3 l4 l5 l6 l7 (l8 + 1) V
        else
          eX6_between_b12 n l1 l2 l3 l4 l5 l6 l7 (l8 + 1) V
      else
        eX6_between_b12 n l1 l2 l3 l4 l5 l6 l7 (l8 + 1) V
set_option maxHeartbeats 4000000 in
set_option maxRecDepth 100000 in
theorem gX6_between_b12 : ∀ (n : Nat) (l1 : Int32) (l2 : Int32) (l3 : Int32) (l4 : Int32) (l5 : Int32) (l6 : Int32) (l7 : Int32) (l8 : Int32) (V : Mm) (res : Int32) , eX6_between_b12 n l1 l2 l3 l4 l5 l6 l7 l8 V = some res → Go mX6_between 12 [some (.ref 0), some (.int l1), some (.int l2), some (.int l3), some (.int l4), some (.int l5), some (.int l6), some (.int l7), some (.int l8)] [] (hM V) 0 0 (some (.int res)) (hM V) := by
  intro n
  induction n with
  | zero =>
    intro l1 l2 l3 l4 l5 l6 l7 l8 V res  h
    cases h
  | succ n ih =>
    intro l1 l2 l3 l4 l5 l6 l7 l8 V res  h
    rw [eX6_between_b12] at h
    refine go_iload (pc := 12) dX6_between_12 rfl ?_
    refine go_aload_n (pc := 14) dX6_between_14 rfl rfl ?_
    refine go_gI (pc := 15) (v := V 0 13) fX6_110 (by decide) (show TM 0 = (6 + 5, 29) from rfl) dX6_between_15 rfl ?_
    refine go_icmp_ge (pc := 18) (tgt := 124) dX6_between_18 rfl (fun c1 => ?_) (fun c1 => ?_)
    · replace h := ifp h c1
      refine go_iload (pc := 124) dX6_between_124 rfl ?_
      refine go_if_ne (pc := 126) (tgt := 131) dX6_between_126 rfl (fun c2 => ?_) (fun c2 => ?_)
      · replace h := ifn h c2
        refine go_iload (pc := 131) dX6_between_131 rfl ?_
        refine go_iconst (pc := 133) (v := 1) dX6_between_133 ci_1 ?_
        refine go_icmp_ne (pc := 134) (tgt := 141) dX6_between_134 rfl (fun c3 => ?_) (fun c3 => ?_)
        · replace h := ifn h c3
          refine go_iconst (pc := 141) (v := 1) dX6_between_141 ci_1 ?_
          refine go_le (lle_n (lle_n (lle_n (lle_n (lle_n (lle_n (lle_s (lle_s (lle_n lle_0))))))))) ?_
          exact gX6_between_b142  h
        · replace h := ifp h c3
          refine go_iconst (pc := 137) (v := 0) dX6_between_137 ci_0 ?_
          refine go_goto (pc := 138) (tgt := 142) dX6_between_138 rfl ?_
          refine go_le (lle_n (lle_n (lle_n (lle_n (lle_n (lle_n (lle_s (lle_s (lle_n lle_0))))))))) ?_
          exact gX6_between_b142  h
      · replace h := ifp h c2
        refine go_iconst (pc := 129) (v := 0) dX6_between_129 ci_0 ?_
        cases h
        exact go_iret (pc := 130) (Or.inl rfl) ⟨Nat.zero_le _, Nat.zero_le _⟩ dX6_between_130
    · replace h := ifn h c1
      refine go_aload_n (pc := 21) dX6_between_21 rfl rfl ?_
      refine go_getP (pc := 22) (a := 11) fX6_44 (by decide) (show TM 0 = (6 + 5, 29) from rfl) rfl dX6_between_22 ?_
      refine go_iload (pc := 25) dX6_between_25 rfl ?_
      obtain ⟨c7, h⟩ := ok_not h
      refine go_ia (pc := 27) (v := V 11 l8.toNatClampNeg) (show TM 11 = (0, 60) from rfl) (vin c7) dX6_between_27 rfl ?_
      refine go_iload_n (pc := 28) dX6_between_28 rfl rfl ?_
      refine go_icmp_ne (pc := 29) (tgt := 118) dX6_between_29 rfl (fun c8 => ?_) (fun c8 => ?_)
      · replace h := ifn h c8
        refine go_iinc (pc := 118) (v := (l8 + 1)) dX6_between_118 rfl (by rw [ci_1]) (Nat.le_of_ble_eq_true rfl) (L2 := [some (.ref 0), some (.int l1), some (.int l2), some (.int l3), some (.int l4), some (.int l5), some (.int l6), some (.int l7), some (.int (l8 + 1))]) rfl ?_
        refine go_goto (pc := 121) (tgt := 12) dX6_between_121 rfl ?_
        exact ih _ _ _ _ _ _ _ _ _ _  h
      · replace h := ifp h c8
        refine go_aload_n (pc := 32) dX6_between_32 rfl rfl ?_
        refine go_getP (pc := 33) (a := 13) fX6_50 (by decide) (show TM 0 = (6 + 5, 29) from rfl) rfl dX6_between_33 ?_
        refine go_iload (pc := 36) dX6_between_36 rfl ?_
        obtain ⟨c9, h⟩ := ok_not h
        refine go_ia (pc := 38) (v := V 13 l8.toNatClampNeg) (show TM 13 = (0, 60) from rfl) (vin c9) dX6_between_38 rfl ?_
        refine go_iload_n (pc := 39) dX6_between_39 rfl rfl ?_
        refine go_icmp_ne (pc := 40) (tgt := 118) dX6_between_40 rfl (fun c10 => ?_) (fun c10 => ?_)
        · replace h := ifn h c10
          refine go_iinc (pc := 118) (v := (l8 + 1)) dX6_between_118 rfl (by rw [ci_1]) (Nat.le_of_ble_eq_true rfl) (L2 := [some (.ref 0), some (.int l1), some (.int l2), some (.int l3), some (.int l4), some (.int l5), some (.int l6), some (.int l7), some (.int (l8 + 1))]) rfl ?_
          refine go_goto (pc := 121) (tgt := 12) dX6_between_121 rfl ?_
          exact ih _ _ _ _ _ _ _ _ _ _  h
        · replace h := ifp h c10
          refine go_aload_n (pc := 43) dX6_between_43 rfl rfl ?_
          refine go_getP (pc := 44) (a := 12) fX6_47 (by decide) (show TM 0 = (6 + 5, 29) from rfl) rfl dX6_between_44 ?_
          refine go_iload (pc := 47) dX6_between_47 rfl ?_
          obtain ⟨c11, h⟩ := ok_not h
          refine go_ia (pc := 49) (v := V 12 l8.toNatClampNeg) (show TM 12 = (0, 60) from rfl) (vin c11) dX6_between_49 rfl ?_
          refine go_iload_n (pc := 50) dX6_between_50 rfl rfl ?_
          refine go_icmp_le (pc := 51) (tgt := 118) dX6_between_51 rfl (fun c12 => ?_) (fun c12 => ?_)
          · replace h := ifp h c12
            refine go_iinc (pc := 118) (v := (l8 + 1)) dX6_between_118 rfl (by rw [ci_1]) (Nat.le_of_ble_eq_true rfl) (L2 := [some (.ref 0), some (.int l1), some (.int l2), some (.int l3), some (.int l4), some (.int l5), some (.int l6), some (.int l7), some (.int (l8 + 1))]) rfl ?_
            refine go_goto (pc := 121) (tgt := 12) dX6_between_121 rfl ?_
            exact ih _ _ _ _ _ _ _ _ _ _  h
          · replace h := ifn h c12
            refine go_aload_n (pc := 54) dX6_between_54 rfl rfl ?_
            refine go_getP (pc := 55) (a := 12) fX6_47 (by decide) (show TM 0 = (6 + 5, 29) from rfl) rfl dX6_between_55 ?_
            refine go_iload (pc := 58) dX6_between_58 rfl ?_
            obtain ⟨c13, h⟩ := ok_not h
            refine go_ia (pc := 60) (v := V 12 l8.toNatClampNeg) (show TM 12 = (0, 60) from rfl) (vin c13) dX6_between_60 rfl ?_
            refine go_iload (pc := 61) dX6_between_61 rfl ?_
            refine go_icmp_le (pc := 63) (tgt := 69) dX6_between_63 rfl (fun c14 => ?_) (fun c14 => ?_)
            · replace h := ifp h c14
              refine go_iload (pc := 69) dX6_between_69 rfl ?_
              refine go_if_ne (pc := 71) (tgt := 84) dX6_between_71 rfl (fun c15 => ?_) (fun c15 => ?_)
              · replace h := ifn h c15
                refine go_iload (pc := 84) dX6_between_84 rfl ?_
                refine go_le (lle_s (lle_s (lle_s (lle_s (lle_s (lle_n (lle_n (lle_s (lle_s lle_0))))))))) ?_
                exact gX6_between_b86 ih  h
              · replace h := ifp h c15
                refine go_aload_n (pc := 74) dX6_between_74 rfl rfl ?_
                refine go_getP (pc := 75) (a := 14) fX6_53 (by decide) (show TM 0 = (6 + 5, 29) from rfl) rfl dX6_between_75 ?_
                refine go_iload (pc := 78) dX6_between_78 rfl ?_
                obtain ⟨c19, h⟩ := ok_not h
                refine go_ia (pc := 80) (v := V 14 l8.toNatClampNeg) (show TM 14 = (0, 60) from rfl) (vin c19) dX6_between_80 rfl ?_
                refine go_goto (pc := 81) (tgt := 86) dX6_between_81 rfl ?_
                refine go_le (lle_s (lle_s (lle_s (lle_s (lle_s (lle_n (lle_n (lle_s (lle_s lle_0))))))))) ?_
                exact gX6_between_b86 ih  h
            · replace h := ifn h c14
              refine go_goto (pc := 66) (tgt := 118) dX6_between_66 rfl ?_
              refine go_iinc (pc := 118) (v := (l8 + 1)) dX6_between_118 rfl (by rw [ci_1]) (Nat.le_of_ble_eq_true rfl) (L2 := [some (.ref 0), some (.int l1), some (.int l2), some (.int l3), some (.int l4), some (.int l5), some (.int l6), some (.int l7), some (.int (l8 + 1))]) rfl ?_
              refine go_goto (pc := 121) (tgt := 12) dX6_between_121 rfl ?_
              exact ih _ _ _ _ _ _ _ _ _ _  h
def eX6_between (a1 : Int32) (a2 : Int32) (a3 : Int32) (a4 : Int32) (V : Mm) : Option (Int32) :=
  eX6_between_b12 fu a1 a2 a3 a4 0 0 0 0 V
set_option maxHeartbeats 4000000 in
set_option maxRecDepth 100000 in
theorem E_X6_between {a1 : Int32} {a2 : Int32} {a3 : Int32} {a4 : Int32} {V : Mm} {res : Int32}  (h : eX6_between a1 a2 a3 a4 V = some res) : Ev mX6_between [.ref 0, .int a1, .int a2, .int a3, .int a4] (hM V) (some (.int res)) (hM V) := by
  refine Ev.of (n := 4) oX6_between.1 (Nat.le_of_ble_eq_true rfl) ?_
  unfold eX6_between at h
  show Go mX6_between 0 [some (.ref 0), some (.int a1), some (.int a2), some (.int a3), some (.int a4), none, none, none, none] [] (hM V) 0 0 (some (.int res)) (hM V)
  refine go_iconst (pc := 0) (v := 0) dX6_between_0 ci_0 ?_
  refine go_istore (pc := 1) (i := 5) dX6_between_1 (Nat.le_of_ble_eq_true rfl) (L2 := [some (.ref 0), some (.int a1), some (.int a2), some (.int a3), some (.int a4), some (.int 0), none, none, none]) rfl ?_
  refine go_iconst (pc := 3) (v := 0) dX6_between_3 ci_0 ?_
  refine go_istore (pc := 4) (i := 6) dX6_between_4 (Nat.le_of_ble_eq_true rfl) (L2 := [some (.ref 0), some (.int a1), some (.int a2), some (.int a3), some (.int a4), some (.int 0), some (.int 0), none, none]) rfl ?_
  refine go_iconst (pc := 6) (v := 0) dX6_between_6 ci_0 ?_
  refine go_istore (pc := 7) (i := 7) dX6_between_7 (Nat.le_of_ble_eq_true rfl) (L2 := [some (.ref 0), some (.int a1), some (.int a2), some (.int a3), some (.int a4), some (.int 0), some (.int 0), some (.int 0), none]) rfl ?_
  refine go_iconst (pc := 9) (v := 0) dX6_between_9 ci_0 ?_
  refine go_istore (pc := 10) (i := 8) dX6_between_10 (Nat.le_of_ble_eq_true rfl) (L2 := [some (.ref 0), some (.int a1), some (.int a2), some (.int a3), some (.int a4), some (.int 0), some (.int 0), some (.int 0), some (.int 0)]) rfl ?_
  exact gX6_between_b12 _ _ _ _ _ _ _ _ _ _ _  h
