def eX6_state (a1 : Int32) (V : Mm) : Option (Int32) :=
  (eX6_within a1 0 2 V).bind fun r1 =>
  if r1 = 0 then
    some (-1)
  else
    if (583 + a1) < 0 ∨ 586 ≤ (583 + a1).toNatClampNeg then none else
    some (V 1 ((583 + a1).toNatClampNeg))
set_option maxHeartbeats 4000000 in
set_option maxRecDepth 100000 in
theorem E_X6_state {a1 : Int32} {V : Mm} {res : Int32}  (h : eX6_state a1 V = some res) : Ev mX6_state [.ref 0, .int a1] (hM V) (some (.int res)) (hM V) := by
  refine Ev.of (n := 0) oX6_state.1 (Nat.le_of_ble_eq_true rfl) ?_
  unfold eX6_state at h
  show Go mX6_state 0 [some (.ref 0), some (.int a1)] [] (hM V) 0 0 (some (.int res)) (hM V)
  refine go_iload_n (pc := 0) dX6_state_0 rfl rfl ?_
  refine go_iconst (pc := 1) (v := 0) dX6_state_1 ci_0 ?_
  refine go_iconst (pc := 2) (v := 2) dX6_state_2 ci_2 ?_
  obtain ⟨r1, e2, h⟩ := ok_bind h
  refine go_cS (pc := 3) (As := [.int a1, .int 0, .int 2]) (st := []) (E_X6_within e2) rfl oX6_within iX6_within kX6_99 rfl (Nat.le_of_ble_eq_true rfl) ⟨Nat.le_of_ble_eq_true rfl, Nat.le_of_ble_eq_true rfl⟩ ⟨rfl, rfl⟩ dX6_state_3 (st2 := [.int r1]) rfl ?_
  refine go_if_eq (pc := 6) (tgt := 22) dX6_state_6 rfl (fun c3 => ?_) (fun c3 => ?_)
  · replace h := ifp h c3
    refine go_iconst (pc := 22) (v := (-1)) dX6_state_22 ci_m1 ?_
    cases h
    exact go_iret (pc := 23) (Or.inl rfl) ⟨Nat.zero_le _, Nat.zero_le _⟩ dX6_state_23
  · replace h := ifn h c3
    refine go_aload_n (pc := 9) dX6_state_9 rfl rfl ?_
    refine go_getP (pc := 10) (a := 1) fX6_7 (by decide) (show TM 0 = (6 + 5, 29) from rfl) rfl dX6_state_10 ?_
    refine go_sipush (pc := 13) (v := 583) dX6_state_13 cs_583 ?_
    refine go_iload_n (pc := 16) dX6_state_16 rfl rfl ?_
    refine go_iadd (pc := 17) dX6_state_17 ?_
    obtain ⟨c4, h⟩ := ok_not h
    refine go_ia (pc := 18) (v := V 1 ((583 + a1).toNatClampNeg)) (show TM 1 = (0, 586) from rfl) (vin c4) dX6_state_18 rfl ?_
    refine go_goto (pc := 19) (tgt := 23) dX6_state_19 rfl ?_
    cases h
    exact go_iret (pc := 23) (Or.inl rfl) ⟨Nat.zero_le _, Nat.zero_le _⟩ dX6_state_23
def eX6_thereOf_b4 : Nat → Int32 → Int32 → Int32 → Mm → Option (Int32)
  | 0, _, _, _, _ => none
  | n + 1, l1, l2, l3, V => 
    if (580 + l1) < 0 ∨ 586 ≤ (580 + l1).toNatClampNeg then none else
    if (V 1 ((580 + l1).toNatClampNeg)) ≤ l3 then
      some l2
    else
      (eX6_isThere 1 l1 l3 V).bind fun r3 =>
      if r3 = 0 then
        eX6_thereOf_b4 n l1 (l2 + 0) (l3 + 1) V
      else
        eX6_thereOf_b4 n l1 (l2 + 1) (l3 + 1) V
set_option maxHeartbeats 4000000 in
set_option maxRecDepth 100000 in
theorem gX6_thereOf_b4 : ∀ (n : Nat) (l1 : Int32) (l2 : Int32) (l3 : Int32) (V : Mm) (res : Int32) , eX6_thereOf_b4 n l1 l2 l3 V = some res → Go mX6_thereOf 4 [some (.ref 0), some (.int l1), some (.int l2), some (.int l3)] [] (hM V) 0 0 (some (.int res)) (hM V) := by
  intro n
  induction n with
  | zero =>
    intro l1 l2 l3 V res  h
    cases h
  | succ n ih =>
    intro l1 l2 l3 V res  h
    rw [eX6_thereOf_b4] at h
    refine go_iload_n (pc := 4) dX6_thereOf_4 rfl rfl ?_
    refine go_aload_n (pc := 5) dX6_thereOf_5 rfl rfl ?_
    refine go_getP (pc := 6) (a := 1) fX6_7 (by decide) (show TM 0 = (6 + 5, 29) from rfl) rfl dX6_thereOf_6 ?_
    refine go_sipush (pc := 9) (v := 580) dX6_thereOf_9 cs_580 ?_
    refine go_iload_n (pc := 12) dX6_thereOf_12 rfl rfl ?_
    refine go_iadd (pc := 13) dX6_thereOf_13 ?_
    obtain ⟨c1, h⟩ := ok_not h
    refine go_ia (pc := 14) (v := V 1 ((580 + l1).toNatClampNeg)) (show TM 1 = (0, 586) from rfl) (vin c1) dX6_thereOf_14 rfl ?_
    refine go_icmp_ge (pc := 15) (tgt := 45) dX6_thereOf_15 rfl (fun c2 => ?_) (fun c2 => ?_)
    · replace h := ifp h c2
      refine go_iload_n (pc := 45) dX6_thereOf_45 rfl rfl ?_
      cases h
      exact go_iret (pc := 46) (Or.inl rfl) ⟨Nat.zero_le _, Nat.zero_le _⟩ dX6_thereOf_46
    · replace h := ifn h c2
      refine go_iload_n (pc := 18) dX6_thereOf_18 rfl rfl ?_
      refine go_aload_n (pc := 19) dX6_thereOf_19 rfl rfl ?_
      refine go_aload_n (pc := 20) dX6_thereOf_20 rfl rfl ?_
      refine go_getP (pc := 21) (a := 1) fX6_7 (by decide) (show TM 0 = (6 + 5, 29) from rfl) rfl dX6_thereOf_21 ?_
      refine go_iload_n (pc := 24) dX6_thereOf_24 rfl rfl ?_
      refine go_iload_n (pc := 25) dX6_thereOf_25 rfl rfl ?_
      obtain ⟨r3, e4, h⟩ := ok_bind h
      refine go_cV (pc := 26) (ci := 6) (As := [.ref 1, .int l1, .int l3]) (st := [.int l2]) (E_X6_isThere isW_1 e4) rfl oX6_isThere iX6_isThere sX6_isThere kX6_113 rfl (show TM 0 = (6 + 5, 29) from rfl) rfl (Nat.le_of_ble_eq_true rfl) ⟨Nat.le_of_ble_eq_true rfl, Nat.le_of_ble_eq_true rfl⟩ ⟨rfl, rfl⟩ dX6_thereOf_26 (st2 := [.int r3, .int l2]) rfl ?_
      refine go_if_eq (pc := 29) (tgt := 36) dX6_thereOf_29 rfl (fun c5 => ?_) (fun c5 => ?_)
      · replace h := ifp h c5
        refine go_iconst (pc := 36) (v := 0) dX6_thereOf_36 ci_0 ?_
        refine go_iadd (pc := 37) dX6_thereOf_37 ?_
        refine go_istore_n (pc := 38) (i := 2) dX6_thereOf_38 rfl (Nat.le_of_ble_eq_true rfl) (L2 := [some (.ref 0), some (.int l1), some (.int (l2 + 0)), some (.int l3)]) rfl ?_
        refine go_iinc (pc := 39) (v := (l3 + 1)) dX6_thereOf_39 rfl (by rw [ci_1]) (Nat.le_of_ble_eq_true rfl) (L2 := [some (.ref 0), some (.int l1), some (.int (l2 + 0)), some (.int (l3 + 1))]) rfl ?_
        refine go_goto (pc := 42) (tgt := 4) dX6_thereOf_42 rfl ?_
        exact ih _ _ _ _ _  h
      · replace h := ifn h c5
        refine go_iconst (pc := 32) (v := 1) dX6_thereOf_32 ci_1 ?_
        refine go_goto (pc := 33) (tgt := 37) dX6_thereOf_33 rfl ?_
        refine go_iadd (pc := 37) dX6_thereOf_37 ?_
        refine go_istore_n (pc := 38) (i := 2) dX6_thereOf_38 rfl (Nat.le_of_ble_eq_true rfl) (L2 := [some (.ref 0), some (.int l1), some (.int (l2 + 1)), some (.int l3)]) rfl ?_
        refine go_iinc (pc := 39) (v := (l3 + 1)) dX6_thereOf_39 rfl (by rw [ci_1]) (Nat.le_of_ble_eq_true rfl) (L2 := [some (.ref 0), some (.int l1), some (.int (l2 + 1)), some (.int (l3 + 1))]) rfl ?_
        refine go_goto (pc := 42) (tgt := 4) dX6_thereOf_42 rfl ?_
        exact ih _ _ _ _ _  h
def eX6_thereOf (a1 : Int32) (V : Mm) : Option (Int32) :=
  eX6_thereOf_b4 fu a1 0 0 V
set_option maxHeartbeats 4000000 in
set_option maxRecDepth 100000 in
theorem E_X6_thereOf {a1 : Int32} {V : Mm} {res : Int32}  (h : eX6_thereOf a1 V = some res) : Ev mX6_thereOf [.ref 0, .int a1] (hM V) (some (.int res)) (hM V) := by
  refine Ev.of (n := 2) oX6_thereOf.1 (Nat.le_of_ble_eq_true rfl) ?_
  unfold eX6_thereOf at h
  show Go mX6_thereOf 0 [some (.ref 0), some (.int a1), none, none] [] (hM V) 0 0 (some (.int res)) (hM V)
  refine go_iconst (pc := 0) (v := 0) dX6_thereOf_0 ci_0 ?_
  refine go_istore_n (pc := 1) (i := 2) dX6_thereOf_1 rfl (Nat.le_of_ble_eq_true rfl) (L2 := [some (.ref 0), some (.int a1), some (.int 0), none]) rfl ?_
  refine go_iconst (pc := 2) (v := 0) dX6_thereOf_2 ci_0 ?_
  refine go_istore_n (pc := 3) (i := 3) dX6_thereOf_3 rfl (Nat.le_of_ble_eq_true rfl) (L2 := [some (.ref 0), some (.int a1), some (.int 0), some (.int 0)]) rfl ?_
  exact gX6_thereOf_b4 _ _ _ _ _ _  h
def eX6_told (a1 : Int32) (V : Mm) : Option (Int32) :=
  if a1 = 0 then
    (eX6_thereOf a1 V).bind fun r2 =>
    some r2
  else
  if a1 = 1 then
    (eX6_thereOf a1 V).bind fun r5 =>
    some r5
  else
  if a1 = 2 then
    (eX6_thereOf a1 V).bind fun r8 =>
    some r8
  else
  if a1 = 3 then
    some (V 0 4)
  else
  if a1 = 4 then
    some (V 0 9)
  else
  if a1 = 5 then
    some (V 0 13)
  else
  if a1 = 6 then
    some (V 0 24)
  else
  if a1 = 10 then
    if ((580 + a1) - 10) < 0 ∨ 586 ≤ ((580 + a1) - 10).toNatClampNeg then none else
    some (V 1 (((580 + a1) - 10).toNatClampNeg))
  else
  if a1 = 11 then
    if ((580 + a1) - 10) < 0 ∨ 586 ≤ ((580 + a1) - 10).toNatClampNeg then none else
    some (V 1 (((580 + a1) - 10).toNatClampNeg))
  else
  if a1 = 12 then
    if ((580 + a1) - 10) < 0 ∨ 586 ≤ ((580 + a1) - 10).toNatClampNeg then none else
    some (V 1 (((580 + a1) - 10).toNatClampNeg))
  else
  some (-2)
set_option maxHeartbeats 4000000 in
set_option maxRecDepth 100000 in
theorem E_X6_told {a1 : Int32} {V : Mm} {res : Int32}  (h : eX6_told a1 V = some res) : Ev mX6_told [.ref 0, .int a1] (hM V) (some (.int res)) (hM V) := by
  refine Ev.of (n := 0) oX6_told.1 (Nat.le_of_ble_eq_true rfl) ?_
  unfold eX6_told at h
  show Go mX6_told 0 [some (.ref 0), some (.int a1)] [] (hM V) 0 0 (some (.int res)) (hM V)
  refine go_iload_n (pc := 0) dX6_told_0 rfl rfl ?_
  by_cases c1 : a1 = 0
  · replace h := ifp h c1
    refine go_tabIn (pc := 1) (tgt := 68) dX6_told_1 (by rw [c1]; decide) (by rw [c1]; decide) (off := 67) (by rw [c1]; rfl) rfl ?_
    refine go_aload_n (pc := 68) dX6_told_68 rfl rfl ?_
    refine go_iload_n (pc := 69) dX6_told_69 rfl rfl ?_
    obtain ⟨r2, e3, h⟩ := ok_bind h
    refine go_cV (pc := 70) (ci := 6) (As := [.int a1]) (st := []) (E_X6_thereOf e3) rfl oX6_thereOf iX6_thereOf sX6_thereOf kX6_274 rfl (show TM 0 = (6 + 5, 29) from rfl) rfl (Nat.le_of_ble_eq_true rfl) ⟨Nat.le_of_ble_eq_true rfl, Nat.le_of_ble_eq_true rfl⟩ ⟨rfl, rfl⟩ dX6_told_70 (st2 := [.int r2]) rfl ?_
    cases h
    exact go_iret (pc := 73) (Or.inl rfl) ⟨Nat.zero_le _, Nat.zero_le _⟩ dX6_told_73
  replace h := ifn h c1
  by_cases c4 : a1 = 1
  · replace h := ifp h c4
    refine go_tabIn (pc := 1) (tgt := 68) dX6_told_1 (by rw [c4]; decide) (by rw [c4]; decide) (off := 67) (by rw [c4]; rfl) rfl ?_
    refine go_aload_n (pc := 68) dX6_told_68 rfl rfl ?_
    refine go_iload_n (pc := 69) dX6_told_69 rfl rfl ?_
    obtain ⟨r5, e6, h⟩ := ok_bind h
    refine go_cV (pc := 70) (ci := 6) (As := [.int a1]) (st := []) (E_X6_thereOf e6) rfl oX6_thereOf iX6_thereOf sX6_thereOf kX6_274 rfl (show TM 0 = (6 + 5, 29) from rfl) rfl (Nat.le_of_ble_eq_true rfl) ⟨Nat.le_of_ble_eq_true rfl, Nat.le_of_ble_eq_true rfl⟩ ⟨rfl, rfl⟩ dX6_told_70 (st2 := [.int r5]) rfl ?_
    cases h
    exact go_iret (pc := 73) (Or.inl rfl) ⟨Nat.zero_le _, Nat.zero_le _⟩ dX6_told_73
  replace h := ifn h c4
  by_cases c7 : a1 = 2
  · replace h := ifp h c7
    refine go_tabIn (pc := 1) (tgt := 68) dX6_told_1 (by rw [c7]; decide) (by rw [c7]; decide) (off := 67) (by rw [c7]; rfl) rfl ?_
    refine go_aload_n (pc := 68) dX6_told_68 rfl rfl ?_
    refine go_iload_n (pc := 69) dX6_told_69 rfl rfl ?_
    obtain ⟨r8, e9, h⟩ := ok_bind h
    refine go_cV (pc := 70) (ci := 6) (As := [.int a1]) (st := []) (E_X6_thereOf e9) rfl oX6_thereOf iX6_thereOf sX6_thereOf kX6_274 rfl (show TM 0 = (6 + 5, 29) from rfl) rfl (Nat.le_of_ble_eq_true rfl) ⟨Nat.le_of_ble_eq_true rfl, Nat.le_of_ble_eq_true rfl⟩ ⟨rfl, rfl⟩ dX6_told_70 (st2 := [.int r8]) rfl ?_
    cases h
    exact go_iret (pc := 73) (Or.inl rfl) ⟨Nat.zero_le _, Nat.zero_le _⟩ dX6_told_73
  replace h := ifn h c7
  by_cases c10 : a1 = 3
  · replace h := ifp h c10
    refine go_tabIn (pc := 1) (tgt := 74) dX6_told_1 (by rw [c10]; decide) (by rw [c10]; decide) (off := 73) (by rw [c10]; rfl) rfl ?_
    refine go_aload_n (pc := 74) dX6_told_74 rfl rfl ?_
    refine go_gI (pc := 75) (v := V 0 4) fX6_103 (by decide) (show TM 0 = (6 + 5, 29) from rfl) dX6_told_75 rfl ?_
    cases h
    exact go_iret (pc := 78) (Or.inl rfl) ⟨Nat.zero_le _, Nat.zero_le _⟩ dX6_told_78
  replace h := ifn h c10
  by_cases c11 : a1 = 4
  · replace h := ifp h c11
    refine go_tabIn (pc := 1) (tgt := 79) dX6_told_1 (by rw [c11]; decide) (by rw [c11]; decide) (off := 78) (by rw [c11]; rfl) rfl ?_
    refine go_aload_n (pc := 79) dX6_told_79 rfl rfl ?_
    refine go_gI (pc := 80) (v := V 0 9) fX6_265 (by decide) (show TM 0 = (6 + 5, 29) from rfl) dX6_told_80 rfl ?_
    cases h
    exact go_iret (pc := 83) (Or.inl rfl) ⟨Nat.zero_le _, Nat.zero_le _⟩ dX6_told_83
  replace h := ifn h c11
  by_cases c12 : a1 = 5
  · replace h := ifp h c12
    refine go_tabIn (pc := 1) (tgt := 84) dX6_told_1 (by rw [c12]; decide) (by rw [c12]; decide) (off := 83) (by rw [c12]; rfl) rfl ?_
    refine go_aload_n (pc := 84) dX6_told_84 rfl rfl ?_
    refine go_gI (pc := 85) (v := V 0 13) fX6_110 (by decide) (show TM 0 = (6 + 5, 29) from rfl) dX6_told_85 rfl ?_
    cases h
    exact go_iret (pc := 88) (Or.inl rfl) ⟨Nat.zero_le _, Nat.zero_le _⟩ dX6_told_88
  replace h := ifn h c12
  by_cases c13 : a1 = 6
  · replace h := ifp h c13
    refine go_tabIn (pc := 1) (tgt := 89) dX6_told_1 (by rw [c13]; decide) (by rw [c13]; decide) (off := 88) (by rw [c13]; rfl) rfl ?_
    refine go_aload_n (pc := 89) dX6_told_89 rfl rfl ?_
    refine go_gI (pc := 90) (v := V 0 24) fX6_166 (by decide) (show TM 0 = (6 + 5, 29) from rfl) dX6_told_90 rfl ?_
    cases h
    exact go_iret (pc := 93) (Or.inl rfl) ⟨Nat.zero_le _, Nat.zero_le _⟩ dX6_told_93
  replace h := ifn h c13
  by_cases c14 : a1 = 10
  · replace h := ifp h c14
    refine go_tabIn (pc := 1) (tgt := 94) dX6_told_1 (by rw [c14]; decide) (by rw [c14]; decide) (off := 93) (by rw [c14]; rfl) rfl ?_
    refine go_aload_n (pc := 94) dX6_told_94 rfl rfl ?_
    refine go_getP (pc := 95) (a := 1) fX6_7 (by decide) (show TM 0 = (6 + 5, 29) from rfl) rfl dX6_told_95 ?_
    refine go_sipush (pc := 98) (v := 580) dX6_told_98 cs_580 ?_
    refine go_iload_n (pc := 101) dX6_told_101 rfl rfl ?_
    refine go_iadd (pc := 102) dX6_told_102 ?_
    refine go_bipush (pc := 103) (v := 10) dX6_told_103 cb_10 ?_
    refine go_isub (pc := 105) dX6_told_105 ?_
    obtain ⟨c15, h⟩ := ok_not h
    refine go_ia (pc := 106) (v := V 1 (((580 + a1) - 10).toNatClampNeg)) (show TM 1 = (0, 586) from rfl) (vin c15) dX6_told_106 rfl ?_
    cases h
    exact go_iret (pc := 107) (Or.inl rfl) ⟨Nat.zero_le _, Nat.zero_le _⟩ dX6_told_107
  replace h := ifn h c14
  by_cases c16 : a1 = 11
  · replace h := ifp h c16
    refine go_tabIn (pc := 1) (tgt := 94) dX6_told_1 (by rw [c16]; decide) (by rw [c16]; decide) (off := 93) (by rw [c16]; rfl) rfl ?_
    refine go_aload_n (pc := 94) dX6_told_94 rfl rfl ?_
    refine go_getP (pc := 95) (a := 1) fX6_7 (by decide) (show TM 0 = (6 + 5, 29) from rfl) rfl dX6_told_95 ?_
    refine go_sipush (pc := 98) (v := 580) dX6_told_98 cs_580 ?_
    refine go_iload_n (pc := 101) dX6_told_101 rfl rfl ?_
    refine go_iadd (pc := 102) dX6_told_102 ?_
    refine go_bipush (pc := 103) (v := 10) dX6_told_103 cb_10 ?_
    refine go_isub (pc := 105) dX6_told_105 ?_
    obtain ⟨c17, h⟩ := ok_not h
    refine go_ia (pc := 106) (v := V 1 (((580 + a1) - 10).toNatClampNeg)) (show TM 1 = (0, 586) from rfl) (vin c17) dX6_told_106 rfl ?_
    cases h
    exact go_iret (pc := 107) (Or.inl rfl) ⟨Nat.zero_le _, Nat.zero_le _⟩ dX6_told_107
  replace h := ifn h c16
  by_cases c18 : a1 = 12
  · replace h := ifp h c18
    refine go_tabIn (pc := 1) (tgt := 94) dX6_told_1 (by rw [c18]; decide) (by rw [c18]; decide) (off := 93) (by rw [c18]; rfl) rfl ?_
    refine go_aload_n (pc := 94) dX6_told_94 rfl rfl ?_
    refine go_getP (pc := 95) (a := 1) fX6_7 (by decide) (show TM 0 = (6 + 5, 29) from rfl) rfl dX6_told_95 ?_
    refine go_sipush (pc := 98) (v := 580) dX6_told_98 cs_580 ?_
    refine go_iload_n (pc := 101) dX6_told_101 rfl rfl ?_
    refine go_iadd (pc := 102) dX6_told_102 ?_
    refine go_bipush (pc := 103) (v := 10) dX6_told_103 cb_10 ?_
    refine go_isub (pc := 105) dX6_told_105 ?_
    obtain ⟨c19, h⟩ := ok_not h
    refine go_ia (pc := 106) (v := V 1 (((580 + a1) - 10).toNatClampNeg)) (show TM 1 = (0, 586) from rfl) (vin c19) dX6_told_106 rfl ?_
    cases h
    exact go_iret (pc := 107) (Or.inl rfl) ⟨Nat.zero_le _, Nat.zero_le _⟩ dX6_told_107
  replace h := ifn h c18
  by_cases c20 : a1 = 7
  · refine go_tabIn (pc := 1) (tgt := 108) dX6_told_1 (by rw [c20]; decide) (by rw [c20]; decide) (off := 107) (by rw [c20]; rfl) rfl ?_
    refine go_bipush (pc := 108) (v := (-2)) dX6_told_108 cb_m2 ?_
    cases h
    exact go_iret (pc := 110) (Or.inl rfl) ⟨Nat.zero_le _, Nat.zero_le _⟩ dX6_told_110
  by_cases c21 : a1 = 8
  · refine go_tabIn (pc := 1) (tgt := 108) dX6_told_1 (by rw [c21]; decide) (by rw [c21]; decide) (off := 107) (by rw [c21]; rfl) rfl ?_
    refine go_bipush (pc := 108) (v := (-2)) dX6_told_108 cb_m2 ?_
    cases h
    exact go_iret (pc := 110) (Or.inl rfl) ⟨Nat.zero_le _, Nat.zero_le _⟩ dX6_told_110
  by_cases c22 : a1 = 9
  · refine go_tabIn (pc := 1) (tgt := 108) dX6_told_1 (by rw [c22]; decide) (by rw [c22]; decide) (off := 107) (by rw [c22]; rfl) rfl ?_
    refine go_bipush (pc := 108) (v := (-2)) dX6_told_108 cb_m2 ?_
    cases h
    exact go_iret (pc := 110) (Or.inl rfl) ⟨Nat.zero_le _, Nat.zero_le _⟩ dX6_told_110
  have hh23 : (a1 : Int32).toInt < 0 ∨ 12 < (a1 : Int32).toInt := by
    have nc1 := nti (K := 0) c1 (by decide)
    have nc4 := nti (K := 1) c4 (by decide)
    have nc7 := nti (K := 2) c7 (by decide)
    have nc10 := nti (K := 3) c10 (by decide)
    have nc11 := nti (K := 4) c11 (by decide)
    have nc12 := nti (K := 5) c12 (by decide)
    have nc13 := nti (K := 6) c13 (by decide)
    have nc14 := nti (K := 10) c14 (by decide)
    have nc16 := nti (K := 11) c16 (by decide)
    have nc18 := nti (K := 12) c18 (by decide)
    have nc20 := nti (K := 7) c20 (by decide)
    have nc21 := nti (K := 8) c21 (by decide)
    have nc22 := nti (K := 9) c22 (by decide)
    omega
  refine go_tabOut (pc := 1) (tgt := 108) dX6_told_1 hh23 rfl ?_
  refine go_bipush (pc := 108) (v := (-2)) dX6_told_108 cb_m2 ?_
  cases h
  exact go_iret (pc := 110) (Or.inl rfl) ⟨Nat.zero_le _, Nat.zero_le _⟩ dX6_told_110
def eX6_box_b92 : Nat → Int32 → Int32 → Int32 → Mm → Option (Int32)
  | 0, _, _, _, _ => none
  | n + 1, l1, l3, l4, V => 
    if (V 1 581) ≤ l4 then
      some l3
    else
      (eX6_isMail 1 l4 V).bind fun r15 =>
      if r15 = 0 then
        eX6_box_b92 n l1 (l3 + 0) (l4 + 1) V
      else
        (eX6_mailPart 1 l4 9 V).bind fun r18 =>
        if ((r18 >>> (l1 &&& 31)) &&& 1) = 1 then
          eX6_box_b92 n l1 (l3 + 1) (l4 + 1) V
        else
          eX6_box_b92 n l1 (l3 + 0) (l4 + 1) V
set_option maxHeartbeats 4000000 in
set_option maxRecDepth 100000 in
theorem gX6_box_b92 : ∀ (n : Nat) (l1 : Int32) (l3 : Int32) (l4 : Int32) (V : Mm) (res : Int32) , eX6_box_b92 n l1 l3 l4 V = some res → Go mX6_box 92 [some (.ref 0), some (.int l1), none, some (.int l3), some (.int l4)] [] (hM V) 0 0 (some (.int res)) (hM V) := by
  intro n
  induction n with
  | zero =>
    intro l1 l3 l4 V res  h
    cases h
  | succ n ih =>
    intro l1 l3 l4 V res  h
    rw [eX6_box_b92] at h
    refine go_iload (pc := 92) dX6_box_92 rfl ?_
    refine go_aload_n (pc := 94) dX6_box_94 rfl rfl ?_
    refine go_getP (pc := 95) (a := 1) fX6_7 (by decide) (show TM 0 = (6 + 5, 29) from rfl) rfl dX6_box_95 ?_
    refine go_sipush (pc := 98) (v := 581) dX6_box_98 cs_581 ?_
    refine go_ia (pc := 101) (v := V 1 581) (show TM 1 = (0, 586) from rfl) (vin (by decide)) dX6_box_101 rfl ?_
    refine go_icmp_ge (pc := 102) (tgt := 152) dX6_box_102 rfl (fun c14 => ?_) (fun c14 => ?_)
    · replace h := ifp h c14
      refine go_iload_n (pc := 152) dX6_box_152 rfl rfl ?_
      cases h
      exact go_iret (pc := 153) (Or.inl rfl) ⟨Nat.zero_le _, Nat.zero_le _⟩ dX6_box_153
    · replace h := ifn h c14
      refine go_iload_n (pc := 105) dX6_box_105 rfl rfl ?_
      refine go_aload_n (pc := 106) dX6_box_106 rfl rfl ?_
      refine go_aload_n (pc := 107) dX6_box_107 rfl rfl ?_
      refine go_getP (pc := 108) (a := 1) fX6_7 (by decide) (show TM 0 = (6 + 5, 29) from rfl) rfl dX6_box_108 ?_
      refine go_iload (pc := 111) dX6_box_111 rfl ?_
      obtain ⟨r15, e16, h⟩ := ok_bind h
      refine go_cV (pc := 113) (ci := 6) (As := [.ref 1, .int l4]) (st := [.int l3]) (E_X6_isMail isW_1 e16) rfl oX6_isMail iX6_isMail sX6_isMail kX6_81 rfl (show TM 0 = (6 + 5, 29) from rfl) rfl (Nat.le_of_ble_eq_true rfl) ⟨Nat.le_of_ble_eq_true rfl, Nat.le_of_ble_eq_true rfl⟩ ⟨rfl, rfl⟩ dX6_box_113 (st2 := [.int r15, .int l3]) rfl ?_
      refine go_if_eq (pc := 116) (tgt := 143) dX6_box_116 rfl (fun c17 => ?_) (fun c17 => ?_)
      · replace h := ifp h c17
        refine go_iconst (pc := 143) (v := 0) dX6_box_143 ci_0 ?_
        refine go_iadd (pc := 144) dX6_box_144 ?_
        refine go_istore_n (pc := 145) (i := 3) dX6_box_145 rfl (Nat.le_of_ble_eq_true rfl) (L2 := [some (.ref 0), some (.int l1), none, some (.int (l3 + 0)), some (.int l4)]) rfl ?_
        refine go_iinc (pc := 146) (v := (l4 + 1)) dX6_box_146 rfl (by rw [ci_1]) (Nat.le_of_ble_eq_true rfl) (L2 := [some (.ref 0), some (.int l1), none, some (.int (l3 + 0)), some (.int (l4 + 1))]) rfl ?_
        refine go_goto (pc := 149) (tgt := 92) dX6_box_149 rfl ?_
        exact ih _ _ _ _ _  h
      · replace h := ifn h c17
        refine go_aload_n (pc := 119) dX6_box_119 rfl rfl ?_
        refine go_aload_n (pc := 120) dX6_box_120 rfl rfl ?_
        refine go_getP (pc := 121) (a := 1) fX6_7 (by decide) (show TM 0 = (6 + 5, 29) from rfl) rfl dX6_box_121 ?_
        refine go_iload (pc := 124) dX6_box_124 rfl ?_
        refine go_bipush (pc := 126) (v := 9) dX6_box_126 cb_9 ?_
        obtain ⟨r18, e19, h⟩ := ok_bind h
        refine go_cV (pc := 128) (ci := 6) (As := [.ref 1, .int l4, .int 9]) (st := [.int l3]) (E_X6_mailPart isW_1 e19) rfl oX6_mailPart iX6_mailPart sX6_mailPart kX6_85 rfl (show TM 0 = (6 + 5, 29) from rfl) rfl (Nat.le_of_ble_eq_true rfl) ⟨Nat.le_of_ble_eq_true rfl, Nat.le_of_ble_eq_true rfl⟩ ⟨rfl, rfl⟩ dX6_box_128 (st2 := [.int r18, .int l3]) rfl ?_
        refine go_iload_n (pc := 131) dX6_box_131 rfl rfl ?_
        refine go_ishr (pc := 132) dX6_box_132 ?_
        refine go_iconst (pc := 133) (v := 1) dX6_box_133 ci_1 ?_
        refine go_iand (pc := 134) dX6_box_134 ?_
        refine go_iconst (pc := 135) (v := 1) dX6_box_135 ci_1 ?_
        refine go_icmp_ne (pc := 136) (tgt := 143) dX6_box_136 rfl (fun c20 => ?_) (fun c20 => ?_)
        · replace h := ifn h c20
          refine go_iconst (pc := 143) (v := 0) dX6_box_143 ci_0 ?_
          refine go_iadd (pc := 144) dX6_box_144 ?_
          refine go_istore_n (pc := 145) (i := 3) dX6_box_145 rfl (Nat.le_of_ble_eq_true rfl) (L2 := [some (.ref 0), some (.int l1), none, some (.int (l3 + 0)), some (.int l4)]) rfl ?_
          refine go_iinc (pc := 146) (v := (l4 + 1)) dX6_box_146 rfl (by rw [ci_1]) (Nat.le_of_ble_eq_true rfl) (L2 := [some (.ref 0), some (.int l1), none, some (.int (l3 + 0)), some (.int (l4 + 1))]) rfl ?_
          refine go_goto (pc := 149) (tgt := 92) dX6_box_149 rfl ?_
          exact ih _ _ _ _ _  h
        · replace h := ifp h c20
          refine go_iconst (pc := 139) (v := 1) dX6_box_139 ci_1 ?_
          refine go_goto (pc := 140) (tgt := 144) dX6_box_140 rfl ?_
          refine go_iadd (pc := 144) dX6_box_144 ?_
          refine go_istore_n (pc := 145) (i := 3) dX6_box_145 rfl (Nat.le_of_ble_eq_true rfl) (L2 := [some (.ref 0), some (.int l1), none, some (.int (l3 + 1)), some (.int l4)]) rfl ?_
          refine go_iinc (pc := 146) (v := (l4 + 1)) dX6_box_146 rfl (by rw [ci_1]) (Nat.le_of_ble_eq_true rfl) (L2 := [some (.ref 0), some (.int l1), none, some (.int (l3 + 1)), some (.int (l4 + 1))]) rfl ?_
          refine go_goto (pc := 149) (tgt := 92) dX6_box_149 rfl ?_
          exact ih _ _ _ _ _  h
def eX6_box_b157 : Nat → Int32 → Int32 → Int32 → Mm → Option (Int32)
  | 0, _, _, _, _ => none
  | n + 1, l1, l3, l4, V => 
    if (V 1 580) ≤ l4 then
      some l3
    else
      (eX6_isBox 1 l4 V).bind fun r23 =>
      if r23 = 0 then
        eX6_box_b157 n l1 (l3 + 0) (l4 + 1) V
      else
        (eX6_boxPart 1 l4 2 V).bind fun r26 =>
        if r26 = l1 then
          eX6_box_b157 n l1 (l3 + 1) (l4 + 1) V
        else
          eX6_box_b157 n l1 (l3 + 0) (l4 + 1) V
set_option maxHeartbeats 4000000 in
set_option maxRecDepth 100000 in
theorem gX6_box_b157 : ∀ (n : Nat) (l1 : Int32) (l3 : Int32) (l4 : Int32) (V : Mm) (res : Int32) , eX6_box_b157 n l1 l3 l4 V = some res → Go mX6_box 157 [some (.ref 0), some (.int l1), none, some (.int l3), some (.int l4)] [] (hM V) 0 0 (some (.int res)) (hM V) := by
  intro n
  induction n with
  | zero =>
    intro l1 l3 l4 V res  h
    cases h
  | succ n ih =>
    intro l1 l3 l4 V res  h
    rw [eX6_box_b157] at h
    refine go_iload (pc := 157) dX6_box_157 rfl ?_
    refine go_aload_n (pc := 159) dX6_box_159 rfl rfl ?_
    refine go_getP (pc := 160) (a := 1) fX6_7 (by decide) (show TM 0 = (6 + 5, 29) from rfl) rfl dX6_box_160 ?_
    refine go_sipush (pc := 163) (v := 580) dX6_box_163 cs_580 ?_
    refine go_ia (pc := 166) (v := V 1 580) (show TM 1 = (0, 586) from rfl) (vin (by decide)) dX6_box_166 rfl ?_
    refine go_icmp_ge (pc := 167) (tgt := 212) dX6_box_167 rfl (fun c22 => ?_) (fun c22 => ?_)
    · replace h := ifp h c22
      refine go_iload_n (pc := 212) dX6_box_212 rfl rfl ?_
      cases h
      exact go_iret (pc := 213) (Or.inl rfl) ⟨Nat.zero_le _, Nat.zero_le _⟩ dX6_box_213
    · replace h := ifn h c22
      refine go_iload_n (pc := 170) dX6_box_170 rfl rfl ?_
      refine go_aload_n (pc := 171) dX6_box_171 rfl rfl ?_
      refine go_aload_n (pc := 172) dX6_box_172 rfl rfl ?_
      refine go_getP (pc := 173) (a := 1) fX6_7 (by decide) (show TM 0 = (6 + 5, 29) from rfl) rfl dX6_box_173 ?_
      refine go_iload (pc := 176) dX6_box_176 rfl ?_
      obtain ⟨r23, e24, h⟩ := ok_bind h
      refine go_cV (pc := 178) (ci := 6) (As := [.ref 1, .int l4]) (st := [.int l3]) (E_X6_isBox isW_1 e24) rfl oX6_isBox iX6_isBox sX6_isBox kX6_89 rfl (show TM 0 = (6 + 5, 29) from rfl) rfl (Nat.le_of_ble_eq_true rfl) ⟨Nat.le_of_ble_eq_true rfl, Nat.le_of_ble_eq_true rfl⟩ ⟨rfl, rfl⟩ dX6_box_178 (st2 := [.int r23, .int l3]) rfl ?_
      refine go_if_eq (pc := 181) (tgt := 203) dX6_box_181 rfl (fun c25 => ?_) (fun c25 => ?_)
      · replace h := ifp h c25
        refine go_iconst (pc := 203) (v := 0) dX6_box_203 ci_0 ?_
        refine go_iadd (pc := 204) dX6_box_204 ?_
        refine go_istore_n (pc := 205) (i := 3) dX6_box_205 rfl (Nat.le_of_ble_eq_true rfl) (L2 := [some (.ref 0), some (.int l1), none, some (.int (l3 + 0)), some (.int l4)]) rfl ?_
        refine go_iinc (pc := 206) (v := (l4 + 1)) dX6_box_206 rfl (by rw [ci_1]) (Nat.le_of_ble_eq_true rfl) (L2 := [some (.ref 0), some (.int l1), none, some (.int (l3 + 0)), some (.int (l4 + 1))]) rfl ?_
        refine go_goto (pc := 209) (tgt := 157) dX6_box_209 rfl ?_
        exact ih _ _ _ _ _  h
      · replace h := ifn h c25
        refine go_aload_n (pc := 184) dX6_box_184 rfl rfl ?_
        refine go_aload_n (pc := 185) dX6_box_185 rfl rfl ?_
        refine go_getP (pc := 186) (a := 1) fX6_7 (by decide) (show TM 0 = (6 + 5, 29) from rfl) rfl dX6_box_186 ?_
        refine go_iload (pc := 189) dX6_box_189 rfl ?_
        refine go_iconst (pc := 191) (v := 2) dX6_box_191 ci_2 ?_
        obtain ⟨r26, e27, h⟩ := ok_bind h
        refine go_cV (pc := 192) (ci := 6) (As := [.ref 1, .int l4, .int 2]) (st := [.int l3]) (E_X6_boxPart isW_1 e27) rfl oX6_boxPart iX6_boxPart sX6_boxPart kX6_96 rfl (show TM 0 = (6 + 5, 29) from rfl) rfl (Nat.le_of_ble_eq_true rfl) ⟨Nat.le_of_ble_eq_true rfl, Nat.le_of_ble_eq_true rfl⟩ ⟨rfl, rfl⟩ dX6_box_192 (st2 := [.int r26, .int l3]) rfl ?_
        refine go_iload_n (pc := 195) dX6_box_195 rfl rfl ?_
        refine go_icmp_ne (pc := 196) (tgt := 203) dX6_box_196 rfl (fun c28 => ?_) (fun c28 => ?_)
        · replace h := ifn h c28
          refine go_iconst (pc := 203) (v := 0) dX6_box_203 ci_0 ?_
          refine go_iadd (pc := 204) dX6_box_204 ?_
          refine go_istore_n (pc := 205) (i := 3) dX6_box_205 rfl (Nat.le_of_ble_eq_true rfl) (L2 := [some (.ref 0), some (.int l1), none, some (.int (l3 + 0)), some (.int l4)]) rfl ?_
          refine go_iinc (pc := 206) (v := (l4 + 1)) dX6_box_206 rfl (by rw [ci_1]) (Nat.le_of_ble_eq_true rfl) (L2 := [some (.ref 0), some (.int l1), none, some (.int (l3 + 0)), some (.int (l4 + 1))]) rfl ?_
          refine go_goto (pc := 209) (tgt := 157) dX6_box_209 rfl ?_
          exact ih _ _ _ _ _  h
        · replace h := ifp h c28
          refine go_iconst (pc := 199) (v := 1) dX6_box_199 ci_1 ?_
          refine go_goto (pc := 200) (tgt := 204) dX6_box_200 rfl ?_
          refine go_iadd (pc := 204) dX6_box_204 ?_
          refine go_istore_n (pc := 205) (i := 3) dX6_box_205 rfl (Nat.le_of_ble_eq_true rfl) (L2 := [some (.ref 0), some (.int l1), none, some (.int (l3 + 1)), some (.int l4)]) rfl ?_
          refine go_iinc (pc := 206) (v := (l4 + 1)) dX6_box_206 rfl (by rw [ci_1]) (Nat.le_of_ble_eq_true rfl) (L2 := [some (.ref 0), some (.int l1), none, some (.int (l3 + 1)), some (.int (l4 + 1))]) rfl ?_
          refine go_goto (pc := 209) (tgt := 157) dX6_box_209 rfl ?_
          exact ih _ _ _ _ _  h
def eX6_box (a1 : Int32) (a2 : Int32) (V : Mm) : Option (Int32) :=
  (eX6_isBox 1 a1 V).bind fun r1 =>
  if r1 = 0 then
    some (-1)
  else
    if a2 = 0 then
      (eX6_boxPart 1 a1 1 V).bind fun r5 =>
      some r5
    else
    if a2 = 1 then
      (eX6_boxPart 1 a1 2 V).bind fun r8 =>
      some r8
    else
    if a2 = 2 then
      (eX6_boxPart 1 a1 3 V).bind fun r11 =>
      some r11
    else
    if a2 = 3 then
      eX6_box_b92 fu a1 0 0 V
    else
    if a2 = 4 then
      eX6_box_b157 fu a1 0 0 V
    else
    if a2 = 5 then
      (eX6_deep 1 a1 V).bind fun r30 =>
      some r30
    else
    some (-2)
set_option maxHeartbeats 4000000 in
set_option maxRecDepth 100000 in
theorem E_X6_box {a1 : Int32} {a2 : Int32} {V : Mm} {res : Int32}  (h : eX6_box a1 a2 V = some res) : Ev mX6_box [.ref 0, .int a1, .int a2] (hM V) (some (.int res)) (hM V) := by
  refine Ev.of (n := 2) oX6_box.1 (Nat.le_of_ble_eq_true rfl) ?_
  unfold eX6_box at h
  show Go mX6_box 0 [some (.ref 0), some (.int a1), some (.int a2), none, none] [] (hM V) 0 0 (some (.int res)) (hM V)
  refine go_aload_n (pc := 0) dX6_box_0 rfl rfl ?_
  refine go_aload_n (pc := 1) dX6_box_1 rfl rfl ?_
  refine go_getP (pc := 2) (a := 1) fX6_7 (by decide) (show TM 0 = (6 + 5, 29) from rfl) rfl dX6_box_2 ?_
  refine go_iload_n (pc := 5) dX6_box_5 rfl rfl ?_
  obtain ⟨r1, e2, h⟩ := ok_bind h
  refine go_cV (pc := 6) (ci := 6) (As := [.ref 1, .int a1]) (st := []) (E_X6_isBox isW_1 e2) rfl oX6_isBox iX6_isBox sX6_isBox kX6_89 rfl (show TM 0 = (6 + 5, 29) from rfl) rfl (Nat.le_of_ble_eq_true rfl) ⟨Nat.le_of_ble_eq_true rfl, Nat.le_of_ble_eq_true rfl⟩ ⟨rfl, rfl⟩ dX6_box_6 (st2 := [.int r1]) rfl ?_
  refine go_if_ne (pc := 9) (tgt := 14) dX6_box_9 rfl (fun c3 => ?_) (fun c3 => ?_)
  · replace h := ifn h c3
    refine go_iconst (pc := 14) (v := 0) dX6_box_14 ci_0 ?_
    refine go_istore_n (pc := 15) (i := 3) dX6_box_15 rfl (Nat.le_of_ble_eq_true rfl) (L2 := [some (.ref 0), some (.int a1), some (.int a2), some (.int 0), none]) rfl ?_
    refine go_iload_n (pc := 16) dX6_box_16 rfl rfl ?_
    by_cases c4 : a2 = 0
    · replace h := ifp h c4
      refine go_tabIn (pc := 17) (tgt := 56) dX6_box_17 (by rw [c4]; decide) (by rw [c4]; decide) (off := 39) (by rw [c4]; rfl) rfl ?_
      refine go_aload_n (pc := 56) dX6_box_56 rfl rfl ?_
      refine go_aload_n (pc := 57) dX6_box_57 rfl rfl ?_
      refine go_getP (pc := 58) (a := 1) fX6_7 (by decide) (show TM 0 = (6 + 5, 29) from rfl) rfl dX6_box_58 ?_
      refine go_iload_n (pc := 61) dX6_box_61 rfl rfl ?_
      refine go_iconst (pc := 62) (v := 1) dX6_box_62 ci_1 ?_
      obtain ⟨r5, e6, h⟩ := ok_bind h
      refine go_cV (pc := 63) (ci := 6) (As := [.ref 1, .int a1, .int 1]) (st := []) (E_X6_boxPart isW_1 e6) rfl oX6_boxPart iX6_boxPart sX6_boxPart kX6_96 rfl (show TM 0 = (6 + 5, 29) from rfl) rfl (Nat.le_of_ble_eq_true rfl) ⟨Nat.le_of_ble_eq_true rfl, Nat.le_of_ble_eq_true rfl⟩ ⟨rfl, rfl⟩ dX6_box_63 (st2 := [.int r5]) rfl ?_
      cases h
      exact go_iret (pc := 66) (Or.inl rfl) ⟨Nat.zero_le _, Nat.zero_le _⟩ dX6_box_66
    replace h := ifn h c4
    by_cases c7 : a2 = 1
    · replace h := ifp h c7
      refine go_tabIn (pc := 17) (tgt := 67) dX6_box_17 (by rw [c7]; decide) (by rw [c7]; decide) (off := 50) (by rw [c7]; rfl) rfl ?_
      refine go_aload_n (pc := 67) dX6_box_67 rfl rfl ?_
      refine go_aload_n (pc := 68) dX6_box_68 rfl rfl ?_
      refine go_getP (pc := 69) (a := 1) fX6_7 (by decide) (show TM 0 = (6 + 5, 29) from rfl) rfl dX6_box_69 ?_
      refine go_iload_n (pc := 72) dX6_box_72 rfl rfl ?_
      refine go_iconst (pc := 73) (v := 2) dX6_box_73 ci_2 ?_
      obtain ⟨r8, e9, h⟩ := ok_bind h
      refine go_cV (pc := 74) (ci := 6) (As := [.ref 1, .int a1, .int 2]) (st := []) (E_X6_boxPart isW_1 e9) rfl oX6_boxPart iX6_boxPart sX6_boxPart kX6_96 rfl (show TM 0 = (6 + 5, 29) from rfl) rfl (Nat.le_of_ble_eq_true rfl) ⟨Nat.le_of_ble_eq_true rfl, Nat.le_of_ble_eq_true rfl⟩ ⟨rfl, rfl⟩ dX6_box_74 (st2 := [.int r8]) rfl ?_
      cases h
      exact go_iret (pc := 77) (Or.inl rfl) ⟨Nat.zero_le _, Nat.zero_le _⟩ dX6_box_77
    replace h := ifn h c7
    by_cases c10 : a2 = 2
    · replace h := ifp h c10
      refine go_tabIn (pc := 17) (tgt := 78) dX6_box_17 (by rw [c10]; decide) (by rw [c10]; decide) (off := 61) (by rw [c10]; rfl) rfl ?_
      refine go_aload_n (pc := 78) dX6_box_78 rfl rfl ?_
      refine go_aload_n (pc := 79) dX6_box_79 rfl rfl ?_
      refine go_getP (pc := 80) (a := 1) fX6_7 (by decide) (show TM 0 = (6 + 5, 29) from rfl) rfl dX6_box_80 ?_
      refine go_iload_n (pc := 83) dX6_box_83 rfl rfl ?_
      refine go_iconst (pc := 84) (v := 3) dX6_box_84 ci_3 ?_
      obtain ⟨r11, e12, h⟩ := ok_bind h
      refine go_cV (pc := 85) (ci := 6) (As := [.ref 1, .int a1, .int 3]) (st := []) (E_X6_boxPart isW_1 e12) rfl oX6_boxPart iX6_boxPart sX6_boxPart kX6_96 rfl (show TM 0 = (6 + 5, 29) from rfl) rfl (Nat.le_of_ble_eq_true rfl) ⟨Nat.le_of_ble_eq_true rfl, Nat.le_of_ble_eq_true rfl⟩ ⟨rfl, rfl⟩ dX6_box_85 (st2 := [.int r11]) rfl ?_
      cases h
      exact go_iret (pc := 88) (Or.inl rfl) ⟨Nat.zero_le _, Nat.zero_le _⟩ dX6_box_88
    replace h := ifn h c10
    by_cases c13 : a2 = 3
    · replace h := ifp h c13
      refine go_tabIn (pc := 17) (tgt := 89) dX6_box_17 (by rw [c13]; decide) (by rw [c13]; decide) (off := 72) (by rw [c13]; rfl) rfl ?_
      refine go_iconst (pc := 89) (v := 0) dX6_box_89 ci_0 ?_
      refine go_istore (pc := 90) (i := 4) dX6_box_90 (Nat.le_of_ble_eq_true rfl) (L2 := [some (.ref 0), some (.int a1), some (.int a2), some (.int 0), some (.int 0)]) rfl ?_
      refine go_le (lle_s (lle_s (lle_n (lle_s (lle_s lle_0))))) ?_
      exact gX6_box_b92 _ _ _ _ _ _  h
    replace h := ifn h c13
    by_cases c21 : a2 = 4
    · replace h := ifp h c21
      refine go_tabIn (pc := 17) (tgt := 154) dX6_box_17 (by rw [c21]; decide) (by rw [c21]; decide) (off := 137) (by rw [c21]; rfl) rfl ?_
      refine go_iconst (pc := 154) (v := 0) dX6_box_154 ci_0 ?_
      refine go_istore (pc := 155) (i := 4) dX6_box_155 (Nat.le_of_ble_eq_true rfl) (L2 := [some (.ref 0), some (.int a1), some (.int a2), some (.int 0), some (.int 0)]) rfl ?_
      refine go_le (lle_s (lle_s (lle_n (lle_s (lle_s lle_0))))) ?_
      exact gX6_box_b157 _ _ _ _ _ _  h
    replace h := ifn h c21
    by_cases c29 : a2 = 5
    · replace h := ifp h c29
      refine go_tabIn (pc := 17) (tgt := 214) dX6_box_17 (by rw [c29]; decide) (by rw [c29]; decide) (off := 197) (by rw [c29]; rfl) rfl ?_
      refine go_aload_n (pc := 214) dX6_box_214 rfl rfl ?_
      refine go_aload_n (pc := 215) dX6_box_215 rfl rfl ?_
      refine go_getP (pc := 216) (a := 1) fX6_7 (by decide) (show TM 0 = (6 + 5, 29) from rfl) rfl dX6_box_216 ?_
      refine go_iload_n (pc := 219) dX6_box_219 rfl rfl ?_
      obtain ⟨r30, e31, h⟩ := ok_bind h
      refine go_cV (pc := 220) (ci := 6) (As := [.ref 1, .int a1]) (st := []) (E_X6_deep isW_1 e31) rfl oX6_deep iX6_deep sX6_deep kX6_195 rfl (show TM 0 = (6 + 5, 29) from rfl) rfl (Nat.le_of_ble_eq_true rfl) ⟨Nat.le_of_ble_eq_true rfl, Nat.le_of_ble_eq_true rfl⟩ ⟨rfl, rfl⟩ dX6_box_220 (st2 := [.int r30]) rfl ?_
      cases h
      exact go_iret (pc := 223) (Or.inl rfl) ⟨Nat.zero_le _, Nat.zero_le _⟩ dX6_box_223
    replace h := ifn h c29
    have hh32 : (a2 : Int32).toInt < 0 ∨ 5 < (a2 : Int32).toInt := by
      have nc4 := nti (K := 0) c4 (by decide)
      have nc7 := nti (K := 1) c7 (by decide)
      have nc10 := nti (K := 2) c10 (by decide)
      have nc13 := nti (K := 3) c13 (by decide)
      have nc21 := nti (K := 4) c21 (by decide)
      have nc29 := nti (K := 5) c29 (by decide)
      omega
    refine go_tabOut (pc := 17) (tgt := 224) dX6_box_17 hh32 rfl ?_
    refine go_bipush (pc := 224) (v := (-2)) dX6_box_224 cb_m2 ?_
    cases h
    exact go_iret (pc := 226) (Or.inl rfl) ⟨Nat.zero_le _, Nat.zero_le _⟩ dX6_box_226
  · replace h := ifp h c3
    refine go_iconst (pc := 12) (v := (-1)) dX6_box_12 ci_m1 ?_
    cases h
    exact go_iret (pc := 13) (Or.inl rfl) ⟨Nat.zero_le _, Nat.zero_le _⟩ dX6_box_13
def eX6_mail_b61 : Nat → Int32 → Int32 → Int32 → Mm → Option (Int32)
  | 0, _, _, _, _ => none
  | n + 1, l3, l4, l5, V => 
    if 20 ≤ l5 then
      some l4
    else
      eX6_mail_b61 n l3 (l4 + ((l3 >>> (l5 &&& 31)) &&& 1)) (l5 + 1) V
set_option maxHeartbeats 4000000 in
set_option maxRecDepth 100000 in
theorem gX6_mail_b61 : ∀ (n : Nat) (l3 : Int32) (l4 : Int32) (l5 : Int32) (V : Mm) (res : Int32) , eX6_mail_b61 n l3 l4 l5 V = some res → Go mX6_mail 61 [none, none, none, some (.int l3), some (.int l4), some (.int l5)] [] (hM V) 0 0 (some (.int res)) (hM V) := by
  intro n
  induction n with
  | zero =>
    intro l3 l4 l5 V res  h
    cases h
  | succ n ih =>
    intro l3 l4 l5 V res  h
    rw [eX6_mail_b61] at h
    refine go_iload (pc := 61) dX6_mail_61 rfl ?_
    refine go_bipush (pc := 63) (v := 20) dX6_mail_63 cb_20 ?_
    refine go_icmp_ge (pc := 65) (tgt := 85) dX6_mail_65 rfl (fun c14 => ?_) (fun c14 => ?_)
    · replace h := ifp h c14
      refine go_iload (pc := 85) dX6_mail_85 rfl ?_
      cases h
      exact go_iret (pc := 87) (Or.inl rfl) ⟨Nat.zero_le _, Nat.zero_le _⟩ dX6_mail_87
    · replace h := ifn h c14
      refine go_iload (pc := 68) dX6_mail_68 rfl ?_
      refine go_iload_n (pc := 70) dX6_mail_70 rfl rfl ?_
      refine go_iload (pc := 71) dX6_mail_71 rfl ?_
      refine go_ishr (pc := 73) dX6_mail_73 ?_
      refine go_iconst (pc := 74) (v := 1) dX6_mail_74 ci_1 ?_
      refine go_iand (pc := 75) dX6_mail_75 ?_
      refine go_iadd (pc := 76) dX6_mail_76 ?_
      refine go_istore (pc := 77) (i := 4) dX6_mail_77 (Nat.le_of_ble_eq_true rfl) (L2 := [none, none, none, some (.int l3), some (.int (l4 + ((l3 >>> (l5 &&& 31)) &&& 1))), some (.int l5)]) rfl ?_
      refine go_iinc (pc := 79) (v := (l5 + 1)) dX6_mail_79 rfl (by rw [ci_1]) (Nat.le_of_ble_eq_true rfl) (L2 := [none, none, none, some (.int l3), some (.int (l4 + ((l3 >>> (l5 &&& 31)) &&& 1))), some (.int (l5 + 1))]) rfl ?_
      refine go_goto (pc := 82) (tgt := 61) dX6_mail_82 rfl ?_
      exact ih _ _ _ _ _  h
def eX6_mail (a1 : Int32) (a2 : Int32) (V : Mm) : Option (Int32) :=
  (eX6_isMail 1 a1 V).bind fun r1 =>
  if r1 = 0 then
    some (-1)
  else
    (eX6_within a2 0 7 V).bind fun r4 =>
    if r4 = 0 then
      (eX6_mailPart 1 a1 9 V).bind fun r7 =>
      if a2 = 8 then
        eX6_mail_b61 fu r7 0 0 V
      else
        if a2 < 20 then
          some (-2)
        else
          (eX6_isBox 1 (a2 - 20) V).bind fun r11 =>
          if r11 = 0 then
            some (-2)
          else
            some ((r7 >>> ((a2 - 20) &&& 31)) &&& 1)
    else
      (eX6_mailPart 1 a1 (a2 + 1) V).bind fun r15 =>
      some r15
set_option maxHeartbeats 4000000 in
set_option maxRecDepth 100000 in
theorem E_X6_mail {a1 : Int32} {a2 : Int32} {V : Mm} {res : Int32}  (h : eX6_mail a1 a2 V = some res) : Ev mX6_mail [.ref 0, .int a1, .int a2] (hM V) (some (.int res)) (hM V) := by
  refine Ev.of (n := 3) oX6_mail.1 (Nat.le_of_ble_eq_true rfl) ?_
  unfold eX6_mail at h
  show Go mX6_mail 0 [some (.ref 0), some (.int a1), some (.int a2), none, none, none] [] (hM V) 0 0 (some (.int res)) (hM V)
  refine go_aload_n (pc := 0) dX6_mail_0 rfl rfl ?_
  refine go_aload_n (pc := 1) dX6_mail_1 rfl rfl ?_
  refine go_getP (pc := 2) (a := 1) fX6_7 (by decide) (show TM 0 = (6 + 5, 29) from rfl) rfl dX6_mail_2 ?_
  refine go_iload_n (pc := 5) dX6_mail_5 rfl rfl ?_
  obtain ⟨r1, e2, h⟩ := ok_bind h
  refine go_cV (pc := 6) (ci := 6) (As := [.ref 1, .int a1]) (st := []) (E_X6_isMail isW_1 e2) rfl oX6_isMail iX6_isMail sX6_isMail kX6_81 rfl (show TM 0 = (6 + 5, 29) from rfl) rfl (Nat.le_of_ble_eq_true rfl) ⟨Nat.le_of_ble_eq_true rfl, Nat.le_of_ble_eq_true rfl⟩ ⟨rfl, rfl⟩ dX6_mail_6 (st2 := [.int r1]) rfl ?_
  refine go_if_ne (pc := 9) (tgt := 14) dX6_mail_9 rfl (fun c3 => ?_) (fun c3 => ?_)
  · replace h := ifn h c3
    refine go_iload_n (pc := 14) dX6_mail_14 rfl rfl ?_
    refine go_iconst (pc := 15) (v := 0) dX6_mail_15 ci_0 ?_
    refine go_bipush (pc := 16) (v := 7) dX6_mail_16 cb_7 ?_
    obtain ⟨r4, e5, h⟩ := ok_bind h
    refine go_cS (pc := 18) (As := [.int a2, .int 0, .int 7]) (st := []) (E_X6_within e5) rfl oX6_within iX6_within kX6_99 rfl (Nat.le_of_ble_eq_true rfl) ⟨Nat.le_of_ble_eq_true rfl, Nat.le_of_ble_eq_true rfl⟩ ⟨rfl, rfl⟩ dX6_mail_18 (st2 := [.int r4]) rfl ?_
    refine go_if_eq (pc := 21) (tgt := 37) dX6_mail_21 rfl (fun c6 => ?_) (fun c6 => ?_)
    · replace h := ifp h c6
      refine go_aload_n (pc := 37) dX6_mail_37 rfl rfl ?_
      refine go_aload_n (pc := 38) dX6_mail_38 rfl rfl ?_
      refine go_getP (pc := 39) (a := 1) fX6_7 (by decide) (show TM 0 = (6 + 5, 29) from rfl) rfl dX6_mail_39 ?_
      refine go_iload_n (pc := 42) dX6_mail_42 rfl rfl ?_
      refine go_bipush (pc := 43) (v := 9) dX6_mail_43 cb_9 ?_
      obtain ⟨r7, e8, h⟩ := ok_bind h
      refine go_cV (pc := 45) (ci := 6) (As := [.ref 1, .int a1, .int 9]) (st := []) (E_X6_mailPart isW_1 e8) rfl oX6_mailPart iX6_mailPart sX6_mailPart kX6_85 rfl (show TM 0 = (6 + 5, 29) from rfl) rfl (Nat.le_of_ble_eq_true rfl) ⟨Nat.le_of_ble_eq_true rfl, Nat.le_of_ble_eq_true rfl⟩ ⟨rfl, rfl⟩ dX6_mail_45 (st2 := [.int r7]) rfl ?_
      refine go_istore_n (pc := 48) (i := 3) dX6_mail_48 rfl (Nat.le_of_ble_eq_true rfl) (L2 := [some (.ref 0), some (.int a1), some (.int a2), some (.int r7), none, none]) rfl ?_
      refine go_iload_n (pc := 49) dX6_mail_49 rfl rfl ?_
      refine go_bipush (pc := 50) (v := 8) dX6_mail_50 cb_8 ?_
      refine go_icmp_ne (pc := 52) (tgt := 88) dX6_mail_52 rfl (fun c9 => ?_) (fun c9 => ?_)
      · replace h := ifn h c9
        refine go_iload_n (pc := 88) dX6_mail_88 rfl rfl ?_
        refine go_bipush (pc := 89) (v := 20) dX6_mail_89 cb_20 ?_
        refine go_icmp_lt (pc := 91) (tgt := 120) dX6_mail_91 rfl (fun c10 => ?_) (fun c10 => ?_)
        · replace h := ifp h c10
          refine go_bipush (pc := 120) (v := (-2)) dX6_mail_120 cb_m2 ?_
          cases h
          exact go_iret (pc := 122) (Or.inl rfl) ⟨Nat.zero_le _, Nat.zero_le _⟩ dX6_mail_122
        · replace h := ifn h c10
          refine go_aload_n (pc := 94) dX6_mail_94 rfl rfl ?_
          refine go_aload_n (pc := 95) dX6_mail_95 rfl rfl ?_
          refine go_getP (pc := 96) (a := 1) fX6_7 (by decide) (show TM 0 = (6 + 5, 29) from rfl) rfl dX6_mail_96 ?_
          refine go_iload_n (pc := 99) dX6_mail_99 rfl rfl ?_
          refine go_bipush (pc := 100) (v := 20) dX6_mail_100 cb_20 ?_
          refine go_isub (pc := 102) dX6_mail_102 ?_
          obtain ⟨r11, e12, h⟩ := ok_bind h
          refine go_cV (pc := 103) (ci := 6) (As := [.ref 1, .int (a2 - 20)]) (st := []) (E_X6_isBox isW_1 e12) rfl oX6_isBox iX6_isBox sX6_isBox kX6_89 rfl (show TM 0 = (6 + 5, 29) from rfl) rfl (Nat.le_of_ble_eq_true rfl) ⟨Nat.le_of_ble_eq_true rfl, Nat.le_of_ble_eq_true rfl⟩ ⟨rfl, rfl⟩ dX6_mail_103 (st2 := [.int r11]) rfl ?_
          refine go_if_eq (pc := 106) (tgt := 120) dX6_mail_106 rfl (fun c13 => ?_) (fun c13 => ?_)
          · replace h := ifp h c13
            refine go_bipush (pc := 120) (v := (-2)) dX6_mail_120 cb_m2 ?_
            cases h
            exact go_iret (pc := 122) (Or.inl rfl) ⟨Nat.zero_le _, Nat.zero_le _⟩ dX6_mail_122
          · replace h := ifn h c13
            refine go_iload_n (pc := 109) dX6_mail_109 rfl rfl ?_
            refine go_iload_n (pc := 110) dX6_mail_110 rfl rfl ?_
            refine go_bipush (pc := 111) (v := 20) dX6_mail_111 cb_20 ?_
            refine go_isub (pc := 113) dX6_mail_113 ?_
            refine go_ishr (pc := 114) dX6_mail_114 ?_
            refine go_iconst (pc := 115) (v := 1) dX6_mail_115 ci_1 ?_
            refine go_iand (pc := 116) dX6_mail_116 ?_
            refine go_goto (pc := 117) (tgt := 122) dX6_mail_117 rfl ?_
            cases h
            exact go_iret (pc := 122) (Or.inl rfl) ⟨Nat.zero_le _, Nat.zero_le _⟩ dX6_mail_122
      · replace h := ifp h c9
        refine go_iconst (pc := 55) (v := 0) dX6_mail_55 ci_0 ?_
        refine go_istore (pc := 56) (i := 4) dX6_mail_56 (Nat.le_of_ble_eq_true rfl) (L2 := [some (.ref 0), some (.int a1), some (.int a2), some (.int r7), some (.int 0), none]) rfl ?_
        refine go_iconst (pc := 58) (v := 0) dX6_mail_58 ci_0 ?_
        refine go_istore (pc := 59) (i := 5) dX6_mail_59 (Nat.le_of_ble_eq_true rfl) (L2 := [some (.ref 0), some (.int a1), some (.int a2), some (.int r7), some (.int 0), some (.int 0)]) rfl ?_
        refine go_le (lle_n (lle_n (lle_n (lle_s (lle_s (lle_s lle_0)))))) ?_
        exact gX6_mail_b61 _ _ _ _ _ _  h
    · replace h := ifn h c6
      refine go_aload_n (pc := 24) dX6_mail_24 rfl rfl ?_
      refine go_aload_n (pc := 25) dX6_mail_25 rfl rfl ?_
      refine go_getP (pc := 26) (a := 1) fX6_7 (by decide) (show TM 0 = (6 + 5, 29) from rfl) rfl dX6_mail_26 ?_
      refine go_iload_n (pc := 29) dX6_mail_29 rfl rfl ?_
      refine go_iload_n (pc := 30) dX6_mail_30 rfl rfl ?_
      refine go_iconst (pc := 31) (v := 1) dX6_mail_31 ci_1 ?_
      refine go_iadd (pc := 32) dX6_mail_32 ?_
      obtain ⟨r15, e16, h⟩ := ok_bind h
      refine go_cV (pc := 33) (ci := 6) (As := [.ref 1, .int a1, .int (a2 + 1)]) (st := []) (E_X6_mailPart isW_1 e16) rfl oX6_mailPart iX6_mailPart sX6_mailPart kX6_85 rfl (show TM 0 = (6 + 5, 29) from rfl) rfl (Nat.le_of_ble_eq_true rfl) ⟨Nat.le_of_ble_eq_true rfl, Nat.le_of_ble_eq_true rfl⟩ ⟨rfl, rfl⟩ dX6_mail_33 (st2 := [.int r15]) rfl ?_
      cases h
      exact go_iret (pc := 36) (Or.inl rfl) ⟨Nat.zero_le _, Nat.zero_le _⟩ dX6_mail_36
  · replace h := ifp h c3
    refine go_iconst (pc := 12) (v := (-1)) dX6_mail_12 ci_m1 ?_
    cases h
    exact go_iret (pc := 13) (Or.inl rfl) ⟨Nat.zero_le _, Nat.zero_le _⟩ dX6_mail_13
def eX6_thread_b35 : Nat → Int32 → Int32 → Int32 → Mm → Option (Int32)
  | 0, _, _, _, _ => none
  | n + 1, l1, l3, l4, V => 
    if (V 1 581) ≤ l4 then
      some (-1)
    else
      if l3 < 0 then
        some (-1)
      else
        (eX6_isMail 1 l4 V).bind fun r7 =>
        if r7 = 0 then
          eX6_thread_b35 n l1 l3 (l4 + 1) V
        else
          (eX6_mailPart 1 l4 8 V).bind fun r10 =>
          if r10 = l1 then
            if l3 = 0 then
              some l4
            else
              eX6_thread_b35 n l1 (l3 + (-1)) (l4 + 1) V
          else
            eX6_thread_b35 n l1 l3 (l4 + 1) V
set_option maxHeartbeats 4000000 in
set_option maxRecDepth 100000 in
theorem gX6_thread_b35 : ∀ (n : Nat) (l1 : Int32) (l3 : Int32) (l4 : Int32) (V : Mm) (res : Int32) , eX6_thread_b35 n l1 l3 l4 V = some res → Go mX6_thread 35 [some (.ref 0), some (.int l1), none, some (.int l3), some (.int l4)] [] (hM V) 0 0 (some (.int res)) (hM V) := by
  intro n
  induction n with
  | zero =>
    intro l1 l3 l4 V res  h
    cases h
  | succ n ih =>
    intro l1 l3 l4 V res  h
    rw [eX6_thread_b35] at h
    refine go_iload (pc := 35) dX6_thread_35 rfl ?_
    refine go_aload_n (pc := 37) dX6_thread_37 rfl rfl ?_
    refine go_getP (pc := 38) (a := 1) fX6_7 (by decide) (show TM 0 = (6 + 5, 29) from rfl) rfl dX6_thread_38 ?_
    refine go_sipush (pc := 41) (v := 581) dX6_thread_41 cs_581 ?_
    refine go_ia (pc := 44) (v := V 1 581) (show TM 1 = (0, 586) from rfl) (vin (by decide)) dX6_thread_44 rfl ?_
    refine go_icmp_ge (pc := 45) (tgt := 100) dX6_thread_45 rfl (fun c5 => ?_) (fun c5 => ?_)
    · replace h := ifp h c5
      refine go_iconst (pc := 100) (v := (-1)) dX6_thread_100 ci_m1 ?_
      cases h
      exact go_iret (pc := 101) (Or.inl rfl) ⟨Nat.zero_le _, Nat.zero_le _⟩ dX6_thread_101
    · replace h := ifn h c5
      refine go_iload_n (pc := 48) dX6_thread_48 rfl rfl ?_
      refine go_if_lt (pc := 49) (tgt := 100) dX6_thread_49 rfl (fun c6 => ?_) (fun c6 => ?_)
      · replace h := ifp h c6
        refine go_iconst (pc := 100) (v := (-1)) dX6_thread_100 ci_m1 ?_
        cases h
        exact go_iret (pc := 101) (Or.inl rfl) ⟨Nat.zero_le _, Nat.zero_le _⟩ dX6_thread_101
      · replace h := ifn h c6
        refine go_aload_n (pc := 52) dX6_thread_52 rfl rfl ?_
        refine go_aload_n (pc := 53) dX6_thread_53 rfl rfl ?_
        refine go_getP (pc := 54) (a := 1) fX6_7 (by decide) (show TM 0 = (6 + 5, 29) from rfl) rfl dX6_thread_54 ?_
        refine go_iload (pc := 57) dX6_thread_57 rfl ?_
        obtain ⟨r7, e8, h⟩ := ok_bind h
        refine go_cV (pc := 59) (ci := 6) (As := [.ref 1, .int l4]) (st := []) (E_X6_isMail isW_1 e8) rfl oX6_isMail iX6_isMail sX6_isMail kX6_81 rfl (show TM 0 = (6 + 5, 29) from rfl) rfl (Nat.le_of_ble_eq_true rfl) ⟨Nat.le_of_ble_eq_true rfl, Nat.le_of_ble_eq_true rfl⟩ ⟨rfl, rfl⟩ dX6_thread_59 (st2 := [.int r7]) rfl ?_
        refine go_if_eq (pc := 62) (tgt := 94) dX6_thread_62 rfl (fun c9 => ?_) (fun c9 => ?_)
        · replace h := ifp h c9
          refine go_iinc (pc := 94) (v := (l4 + 1)) dX6_thread_94 rfl (by rw [ci_1]) (Nat.le_of_ble_eq_true rfl) (L2 := [some (.ref 0), some (.int l1), none, some (.int l3), some (.int (l4 + 1))]) rfl ?_
          refine go_goto (pc := 97) (tgt := 35) dX6_thread_97 rfl ?_
          exact ih _ _ _ _ _  h
        · replace h := ifn h c9
          refine go_aload_n (pc := 65) dX6_thread_65 rfl rfl ?_
          refine go_aload_n (pc := 66) dX6_thread_66 rfl rfl ?_
          refine go_getP (pc := 67) (a := 1) fX6_7 (by decide) (show TM 0 = (6 + 5, 29) from rfl) rfl dX6_thread_67 ?_
          refine go_iload (pc := 70) dX6_thread_70 rfl ?_
          refine go_bipush (pc := 72) (v := 8) dX6_thread_72 cb_8 ?_
          obtain ⟨r10, e11, h⟩ := ok_bind h
          refine go_cV (pc := 74) (ci := 6) (As := [.ref 1, .int l4, .int 8]) (st := []) (E_X6_mailPart isW_1 e11) rfl oX6_mailPart iX6_mailPart sX6_mailPart kX6_85 rfl (show TM 0 = (6 + 5, 29) from rfl) rfl (Nat.le_of_ble_eq_true rfl) ⟨Nat.le_of_ble_eq_true rfl, Nat.le_of_ble_eq_true rfl⟩ ⟨rfl, rfl⟩ dX6_thread_74 (st2 := [.int r10]) rfl ?_
          refine go_iload_n (pc := 77) dX6_thread_77 rfl rfl ?_
          refine go_icmp_eq (pc := 78) (tgt := 84) dX6_thread_78 rfl (fun c12 => ?_) (fun c12 => ?_)
          · replace h := ifp h c12
            refine go_iload_n (pc := 84) dX6_thread_84 rfl rfl ?_
            refine go_if_ne (pc := 85) (tgt := 91) dX6_thread_85 rfl (fun c13 => ?_) (fun c13 => ?_)
            · replace h := ifn h c13
              refine go_iinc (pc := 91) (v := (l3 + (-1))) dX6_thread_91 rfl (by rw [ci_m1]) (Nat.le_of_ble_eq_true rfl) (L2 := [some (.ref 0), some (.int l1), none, some (.int (l3 + (-1))), some (.int l4)]) rfl ?_
              refine go_iinc (pc := 94) (v := (l4 + 1)) dX6_thread_94 rfl (by rw [ci_1]) (Nat.le_of_ble_eq_true rfl) (L2 := [some (.ref 0), some (.int l1), none, some (.int (l3 + (-1))), some (.int (l4 + 1))]) rfl ?_
              refine go_goto (pc := 97) (tgt := 35) dX6_thread_97 rfl ?_
              exact ih _ _ _ _ _  h
            · replace h := ifp h c13
              refine go_iload (pc := 88) dX6_thread_88 rfl ?_
              cases h
              exact go_iret (pc := 90) (Or.inl rfl) ⟨Nat.zero_le _, Nat.zero_le _⟩ dX6_thread_90
          · replace h := ifn h c12
            refine go_goto (pc := 81) (tgt := 94) dX6_thread_81 rfl ?_
            refine go_iinc (pc := 94) (v := (l4 + 1)) dX6_thread_94 rfl (by rw [ci_1]) (Nat.le_of_ble_eq_true rfl) (L2 := [some (.ref 0), some (.int l1), none, some (.int l3), some (.int (l4 + 1))]) rfl ?_
            refine go_goto (pc := 97) (tgt := 35) dX6_thread_97 rfl ?_
            exact ih _ _ _ _ _  h
def eX6_thread (a1 : Int32) (a2 : Int32) (V : Mm) : Option (Int32) :=
  (eX6_isThere 1 2 a1 V).bind fun r1 =>
  if r1 = 0 then
    some (-1)
  else
    if a2 = (-1) then
      (eX6_mailsOf 1 a1 V).bind fun r14 =>
      some r14
    else
      eX6_thread_b35 fu a1 a2 0 V
set_option maxHeartbeats 4000000 in
set_option maxRecDepth 100000 in
theorem E_X6_thread {a1 : Int32} {a2 : Int32} {V : Mm} {res : Int32}  (h : eX6_thread a1 a2 V = some res) : Ev mX6_thread [.ref 0, .int a1, .int a2] (hM V) (some (.int res)) (hM V) := by
  refine Ev.of (n := 2) oX6_thread.1 (Nat.le_of_ble_eq_true rfl) ?_
  unfold eX6_thread at h
  show Go mX6_thread 0 [some (.ref 0), some (.int a1), some (.int a2), none, none] [] (hM V) 0 0 (some (.int res)) (hM V)
  refine go_aload_n (pc := 0) dX6_thread_0 rfl rfl ?_
  refine go_aload_n (pc := 1) dX6_thread_1 rfl rfl ?_
  refine go_getP (pc := 2) (a := 1) fX6_7 (by decide) (show TM 0 = (6 + 5, 29) from rfl) rfl dX6_thread_2 ?_
  refine go_iconst (pc := 5) (v := 2) dX6_thread_5 ci_2 ?_
  refine go_iload_n (pc := 6) dX6_thread_6 rfl rfl ?_
  obtain ⟨r1, e2, h⟩ := ok_bind h
  refine go_cV (pc := 7) (ci := 6) (As := [.ref 1, .int 2, .int a1]) (st := []) (E_X6_isThere isW_1 e2) rfl oX6_isThere iX6_isThere sX6_isThere kX6_113 rfl (show TM 0 = (6 + 5, 29) from rfl) rfl (Nat.le_of_ble_eq_true rfl) ⟨Nat.le_of_ble_eq_true rfl, Nat.le_of_ble_eq_true rfl⟩ ⟨rfl, rfl⟩ dX6_thread_7 (st2 := [.int r1]) rfl ?_
  refine go_if_ne (pc := 10) (tgt := 15) dX6_thread_10 rfl (fun c3 => ?_) (fun c3 => ?_)
  · replace h := ifn h c3
    refine go_iload_n (pc := 15) dX6_thread_15 rfl rfl ?_
    refine go_iconst (pc := 16) (v := (-1)) dX6_thread_16 ci_m1 ?_
    refine go_icmp_ne (pc := 17) (tgt := 30) dX6_thread_17 rfl (fun c4 => ?_) (fun c4 => ?_)
    · replace h := ifn h c4
      refine go_iload_n (pc := 30) dX6_thread_30 rfl rfl ?_
      refine go_istore_n (pc := 31) (i := 3) dX6_thread_31 rfl (Nat.le_of_ble_eq_true rfl) (L2 := [some (.ref 0), some (.int a1), some (.int a2), some (.int a2), none]) rfl ?_
      refine go_iconst (pc := 32) (v := 0) dX6_thread_32 ci_0 ?_
      refine go_istore (pc := 33) (i := 4) dX6_thread_33 (Nat.le_of_ble_eq_true rfl) (L2 := [some (.ref 0), some (.int a1), some (.int a2), some (.int a2), some (.int 0)]) rfl ?_
      refine go_le (lle_s (lle_s (lle_n (lle_s (lle_s lle_0))))) ?_
      exact gX6_thread_b35 _ _ _ _ _ _  h
    · replace h := ifp h c4
      refine go_aload_n (pc := 20) dX6_thread_20 rfl rfl ?_
      refine go_aload_n (pc := 21) dX6_thread_21 rfl rfl ?_
      refine go_getP (pc := 22) (a := 1) fX6_7 (by decide) (show TM 0 = (6 + 5, 29) from rfl) rfl dX6_thread_22 ?_
      refine go_iload_n (pc := 25) dX6_thread_25 rfl rfl ?_
      obtain ⟨r14, e15, h⟩ := ok_bind h
      refine go_cV (pc := 26) (ci := 6) (As := [.ref 1, .int a1]) (st := []) (E_X6_mailsOf isW_1 e15) rfl oX6_mailsOf iX6_mailsOf sX6_mailsOf kX6_92 rfl (show TM 0 = (6 + 5, 29) from rfl) rfl (Nat.le_of_ble_eq_true rfl) ⟨Nat.le_of_ble_eq_true rfl, Nat.le_of_ble_eq_true rfl⟩ ⟨rfl, rfl⟩ dX6_thread_26 (st2 := [.int r14]) rfl ?_
      cases h
      exact go_iret (pc := 29) (Or.inl rfl) ⟨Nat.zero_le _, Nat.zero_le _⟩ dX6_thread_29
  · replace h := ifp h c3
    refine go_iconst (pc := 13) (v := (-1)) dX6_thread_13 ci_m1 ?_
    cases h
    exact go_iret (pc := 14) (Or.inl rfl) ⟨Nat.zero_le _, Nat.zero_le _⟩ dX6_thread_14
def eX6_entry (a1 : Int32) (a2 : Int32) (V : Mm) : Option (Int32) :=
  if a1 < 0 then
    some (-1)
  else
    if a1 < (V 0 13) then
      if a2 = 0 then
        if a1 < 0 ∨ 60 ≤ a1.toNatClampNeg then none else
        some (V 11 a1.toNatClampNeg)
      else
      if a2 = 1 then
        if a1 < 0 ∨ 60 ≤ a1.toNatClampNeg then none else
        some (V 12 a1.toNatClampNeg)
      else
      if a2 = 2 then
        if a1 < 0 ∨ 60 ≤ a1.toNatClampNeg then none else
        some (V 13 a1.toNatClampNeg)
      else
      if a2 = 3 then
        if a1 < 0 ∨ 60 ≤ a1.toNatClampNeg then none else
        some (V 14 a1.toNatClampNeg)
      else
      some (-2)
    else
      some (-1)
set_option maxHeartbeats 4000000 in
set_option maxRecDepth 100000 in
theorem E_X6_entry {a1 : Int32} {a2 : Int32} {V : Mm} {res : Int32}  (h : eX6_entry a1 a2 V = some res) : Ev mX6_entry [.ref 0, .int a1, .int a2] (hM V) (some (.int res)) (hM V) := by
  refine Ev.of (n := 0) oX6_entry.1 (Nat.le_of_ble_eq_true rfl) ?_
  unfold eX6_entry at h
  show Go mX6_entry 0 [some (.ref 0), some (.int a1), some (.int a2)] [] (hM V) 0 0 (some (.int res)) (hM V)
  refine go_iload_n (pc := 0) dX6_entry_0 rfl rfl ?_
  refine go_if_lt (pc := 1) (tgt := 12) dX6_entry_1 rfl (fun c1 => ?_) (fun c1 => ?_)
  · replace h := ifp h c1
    refine go_iconst (pc := 12) (v := (-1)) dX6_entry_12 ci_m1 ?_
    cases h
    exact go_iret (pc := 13) (Or.inl rfl) ⟨Nat.zero_le _, Nat.zero_le _⟩ dX6_entry_13
  · replace h := ifn h c1
    refine go_iload_n (pc := 4) dX6_entry_4 rfl rfl ?_
    refine go_aload_n (pc := 5) dX6_entry_5 rfl rfl ?_
    refine go_gI (pc := 6) (v := V 0 13) fX6_110 (by decide) (show TM 0 = (6 + 5, 29) from rfl) dX6_entry_6 rfl ?_
    refine go_icmp_lt (pc := 9) (tgt := 14) dX6_entry_9 rfl (fun c2 => ?_) (fun c2 => ?_)
    · replace h := ifp h c2
      refine go_iload_n (pc := 14) dX6_entry_14 rfl rfl ?_
      by_cases c3 : a2 = 0
      · replace h := ifp h c3
        refine go_tabIn (pc := 15) (tgt := 44) dX6_entry_15 (by rw [c3]; decide) (by rw [c3]; decide) (off := 29) (by rw [c3]; rfl) rfl ?_
        refine go_aload_n (pc := 44) dX6_entry_44 rfl rfl ?_
        refine go_getP (pc := 45) (a := 11) fX6_44 (by decide) (show TM 0 = (6 + 5, 29) from rfl) rfl dX6_entry_45 ?_
        refine go_iload_n (pc := 48) dX6_entry_48 rfl rfl ?_
        obtain ⟨c4, h⟩ := ok_not h
        refine go_ia (pc := 49) (v := V 11 a1.toNatClampNeg) (show TM 11 = (0, 60) from rfl) (vin c4) dX6_entry_49 rfl ?_
        cases h
        exact go_iret (pc := 50) (Or.inl rfl) ⟨Nat.zero_le _, Nat.zero_le _⟩ dX6_entry_50
      replace h := ifn h c3
      by_cases c5 : a2 = 1
      · replace h := ifp h c5
        refine go_tabIn (pc := 15) (tgt := 51) dX6_entry_15 (by rw [c5]; decide) (by rw [c5]; decide) (off := 36) (by rw [c5]; rfl) rfl ?_
        refine go_aload_n (pc := 51) dX6_entry_51 rfl rfl ?_
        refine go_getP (pc := 52) (a := 12) fX6_47 (by decide) (show TM 0 = (6 + 5, 29) from rfl) rfl dX6_entry_52 ?_
        refine go_iload_n (pc := 55) dX6_entry_55 rfl rfl ?_
        obtain ⟨c6, h⟩ := ok_not h
        refine go_ia (pc := 56) (v := V 12 a1.toNatClampNeg) (show TM 12 = (0, 60) from rfl) (vin c6) dX6_entry_56 rfl ?_
        cases h
        exact go_iret (pc := 57) (Or.inl rfl) ⟨Nat.zero_le _, Nat.zero_le _⟩ dX6_entry_57
      replace h := ifn h c5
      by_cases c7 : a2 = 2
      · replace h := ifp h c7
        refine go_tabIn (pc := 15) (tgt := 58) dX6_entry_15 (by rw [c7]; decide) (by rw [c7]; decide) (off := 43) (by rw [c7]; rfl) rfl ?_
        refine go_aload_n (pc := 58) dX6_entry_58 rfl rfl ?_
        refine go_getP (pc := 59) (a := 13) fX6_50 (by decide) (show TM 0 = (6 + 5, 29) from rfl) rfl dX6_entry_59 ?_
        refine go_iload_n (pc := 62) dX6_entry_62 rfl rfl ?_
        obtain ⟨c8, h⟩ := ok_not h
        refine go_ia (pc := 63) (v := V 13 a1.toNatClampNeg) (show TM 13 = (0, 60) from rfl) (vin c8) dX6_entry_63 rfl ?_
        cases h
        exact go_iret (pc := 64) (Or.inl rfl) ⟨Nat.zero_le _, Nat.zero_le _⟩ dX6_entry_64
      replace h := ifn h c7
      by_cases c9 : a2 = 3
      · replace h := ifp h c9
        refine go_tabIn (pc := 15) (tgt := 65) dX6_entry_15 (by rw [c9]; decide) (by rw [c9]; decide) (off := 50) (by rw [c9]; rfl) rfl ?_
        refine go_aload_n (pc := 65) dX6_entry_65 rfl rfl ?_
        refine go_getP (pc := 66) (a := 14) fX6_53 (by decide) (show TM 0 = (6 + 5, 29) from rfl) rfl dX6_entry_66 ?_
        refine go_iload_n (pc := 69) dX6_entry_69 rfl rfl ?_
        obtain ⟨c10, h⟩ := ok_not h
        refine go_ia (pc := 70) (v := V 14 a1.toNatClampNeg) (show TM 14 = (0, 60) from rfl) (vin c10) dX6_entry_70 rfl ?_
        cases h
        exact go_iret (pc := 71) (Or.inl rfl) ⟨Nat.zero_le _, Nat.zero_le _⟩ dX6_entry_71
      replace h := ifn h c9
      have hh11 : (a2 : Int32).toInt < 0 ∨ 3 < (a2 : Int32).toInt := by
        have nc3 := nti (K := 0) c3 (by decide)
        have nc5 := nti (K := 1) c5 (by decide)
        have nc7 := nti (K := 2) c7 (by decide)
        have nc9 := nti (K := 3) c9 (by decide)
        omega
      refine go_tabOut (pc := 15) (tgt := 72) dX6_entry_15 hh11 rfl ?_
      refine go_bipush (pc := 72) (v := (-2)) dX6_entry_72 cb_m2 ?_
      cases h
      exact go_iret (pc := 74) (Or.inl rfl) ⟨Nat.zero_le _, Nat.zero_le _⟩ dX6_entry_74
    · replace h := ifn h c2
      refine go_iconst (pc := 12) (v := (-1)) dX6_entry_12 ci_m1 ?_
      cases h
      exact go_iret (pc := 13) (Or.inl rfl) ⟨Nat.zero_le _, Nat.zero_le _⟩ dX6_entry_13
def eX6_filter_b92 (l1 : Int32) (l2 : Int32) (l3 : Int32) (V : Mm) : Option (Int32 × Mm) :=
  if (V 0 24) = 20 then
    some ((-4), V)
  else
    if V 0 24 < 0 ∨ 20 ≤ (V 0 24).toNatClampNeg then none else
    if V 0 24 < 0 ∨ 20 ≤ (V 0 24).toNatClampNeg then none else
    if V 0 24 < 0 ∨ 20 ≤ (V 0 24).toNatClampNeg then none else
    some ((((V 0 24) + 1) - 1), (wr (wr (wr (wr V 19 ((V 0 24).toNatClampNeg) l1) 20 ((V 0 24).toNatClampNeg) l2) 21 ((V 0 24).toNatClampNeg) l3) 0 24 ((V 0 24) + 1)))
set_option maxHeartbeats 4000000 in
set_option maxRecDepth 100000 in
theorem gX6_filter_b92 {l1 : Int32} {l2 : Int32} {l3 : Int32} {V : Mm} {res : Int32 × Mm}  (h : eX6_filter_b92 l1 l2 l3 V = some res) : Go mX6_filter 92 [some (.ref 0), some (.int l1), some (.int l2), some (.int l3), none] [] (hM V) 0 0 (some (.int res.1)) (hM res.2) := by
  unfold eX6_filter_b92 at h
  refine go_aload_n (pc := 92) dX6_filter_92 rfl rfl ?_
  refine go_gI (pc := 93) (v := V 0 24) fX6_166 (by decide) (show TM 0 = (6 + 5, 29) from rfl) dX6_filter_93 rfl ?_
  refine go_bipush (pc := 96) (v := 20) dX6_filter_96 cb_20 ?_
  refine go_icmp_ne (pc := 98) (tgt := 104) dX6_filter_98 rfl (fun c11 => ?_) (fun c11 => ?_)
  · replace h := ifn h c11
    refine go_aload_n (pc := 104) dX6_filter_104 rfl rfl ?_
    refine go_getP (pc := 105) (a := 19) fX6_68 (by decide) (show TM 0 = (6 + 5, 29) from rfl) rfl dX6_filter_105 ?_
    refine go_aload_n (pc := 108) dX6_filter_108 rfl rfl ?_
    refine go_gI (pc := 109) (v := V 0 24) fX6_166 (by decide) (show TM 0 = (6 + 5, 29) from rfl) dX6_filter_109 rfl ?_
    refine go_iload_n (pc := 112) dX6_filter_112 rfl rfl ?_
    obtain ⟨c12, h⟩ := ok_not h
    refine go_iast (pc := 113) (show TM 19 = (0, 20) from rfl) (vin c12) dX6_filter_113 ?_
    refine go_aload_n (pc := 114) dX6_filter_114 rfl rfl ?_
    refine go_getP (pc := 115) (a := 20) fX6_71 (by decide) (show TM 0 = (6 + 5, 29) from rfl) rfl dX6_filter_115 ?_
    refine go_aload_n (pc := 118) dX6_filter_118 rfl rfl ?_
    refine go_gI (pc := 119) (v := V 0 24) fX6_166 (by decide) (show TM 0 = (6 + 5, 29) from rfl) dX6_filter_119 rfl ?_
    refine go_iload_n (pc := 122) dX6_filter_122 rfl rfl ?_
    obtain ⟨c13, h⟩ := ok_not h
    refine go_iast (pc := 123) (show TM 20 = (0, 20) from rfl) (vin c13) dX6_filter_123 ?_
    refine go_aload_n (pc := 124) dX6_filter_124 rfl rfl ?_
    refine go_getP (pc := 125) (a := 21) fX6_74 (by decide) (show TM 0 = (6 + 5, 29) from rfl) rfl dX6_filter_125 ?_
    refine go_aload_n (pc := 128) dX6_filter_128 rfl rfl ?_
    refine go_gI (pc := 129) (v := V 0 24) fX6_166 (by decide) (show TM 0 = (6 + 5, 29) from rfl) dX6_filter_129 rfl ?_
    refine go_iload_n (pc := 132) dX6_filter_132 rfl rfl ?_
    obtain ⟨c14, h⟩ := ok_not h
    refine go_iast (pc := 133) (show TM 21 = (0, 20) from rfl) (vin c14) dX6_filter_133 ?_
    refine go_aload_n (pc := 134) dX6_filter_134 rfl rfl ?_
    refine go_dup (pc := 135) dX6_filter_135 ?_
    refine go_gI (pc := 136) (v := V 0 24) fX6_166 (by decide) (show TM 0 = (6 + 5, 29) from rfl) dX6_filter_136 rfl ?_
    refine go_iconst (pc := 139) (v := 1) dX6_filter_139 ci_1 ?_
    refine go_iadd (pc := 140) dX6_filter_140 ?_
    refine go_putI (pc := 141) (k := 24) fX6_166 (Or.inl rfl) (Or.inl rfl) (show TM 0 = (6 + 5, 29) from rfl) dX6_filter_141 ?_
    refine go_aload_n (pc := 144) dX6_filter_144 rfl rfl ?_
    refine go_gI (pc := 145) (v := ((V 0 24) + 1)) fX6_166 (by decide) (show TM 0 = (6 + 5, 29) from rfl) dX6_filter_145 rfl ?_
    refine go_iconst (pc := 148) (v := 1) dX6_filter_148 ci_1 ?_
    refine go_isub (pc := 149) dX6_filter_149 ?_
    cases h
    exact go_iret (pc := 150) (Or.inl rfl) ⟨Nat.zero_le _, Nat.zero_le _⟩ dX6_filter_150
  · replace h := ifp h c11
    refine go_bipush (pc := 101) (v := (-4)) dX6_filter_101 cb_m4 ?_
    cases h
    exact go_iret (pc := 103) (Or.inl rfl) ⟨Nat.zero_le _, Nat.zero_le _⟩ dX6_filter_103
def eX6_filter_b44 (l1 : Int32) (l2 : Int32) (l3 : Int32) (l4 : Int32) (V : Mm) : Option (Int32 × Mm) :=
  if l4 = 0 then
    (eX6_within l1 0 10 V).bind fun r7 =>
    if r7 = 0 then
      some ((-2), V)
    else
      if l1 = 5 then
        (eX6_within l2 0 3 V).bind fun r15 =>
        if r15 = 0 then
          some ((-2), V)
        else
          eX6_filter_b92 l1 l2 l3 V
      else
        eX6_filter_b92 l1 l2 l3 V
  else
    (eX6_within l3 0 ((V 0 24) - 1) V).bind fun r18 =>
    if r18 = 0 then
      some ((-1), V)
    else
      (eX6_within l1 0 10 V).bind fun r21 =>
      if r21 = 0 then
        some ((-2), V)
      else
        if l1 = 5 then
          (eX6_within l2 0 3 V).bind fun r25 =>
          if r25 = 0 then
            some ((-2), V)
          else
            eX6_filter_b92 l1 l2 l3 V
        else
          eX6_filter_b92 l1 l2 l3 V
set_option maxHeartbeats 4000000 in
set_option maxRecDepth 100000 in
theorem gX6_filter_b44 {l1 : Int32} {l2 : Int32} {l3 : Int32} {l4 : Int32} {V : Mm} {res : Int32 × Mm}  (h : eX6_filter_b44 l1 l2 l3 l4 V = some res) : Go mX6_filter 44 [some (.ref 0), some (.int l1), some (.int l2), some (.int l3), some (.int l4)] [] (hM V) 0 0 (some (.int res.1)) (hM res.2) := by
  unfold eX6_filter_b44 at h
  refine go_iload (pc := 44) dX6_filter_44 rfl ?_
  refine go_if_eq (pc := 46) (tgt := 65) dX6_filter_46 rfl (fun c6 => ?_) (fun c6 => ?_)
  · replace h := ifp h c6
    refine go_iload_n (pc := 65) dX6_filter_65 rfl rfl ?_
    refine go_iconst (pc := 66) (v := 0) dX6_filter_66 ci_0 ?_
    refine go_bipush (pc := 67) (v := 10) dX6_filter_67 cb_10 ?_
    obtain ⟨r7, e8, h⟩ := ok_bind h
    refine go_cS (pc := 69) (As := [.int l1, .int 0, .int 10]) (st := []) (E_X6_within e8) rfl oX6_within iX6_within kX6_99 rfl (Nat.le_of_ble_eq_true rfl) ⟨Nat.le_of_ble_eq_true rfl, Nat.le_of_ble_eq_true rfl⟩ ⟨rfl, rfl⟩ dX6_filter_69 (st2 := [.int r7]) rfl ?_
    refine go_if_eq (pc := 72) (tgt := 89) dX6_filter_72 rfl (fun c9 => ?_) (fun c9 => ?_)
    · replace h := ifp h c9
      refine go_bipush (pc := 89) (v := (-2)) dX6_filter_89 cb_m2 ?_
      cases h
      exact go_iret (pc := 91) (Or.inl rfl) ⟨Nat.zero_le _, Nat.zero_le _⟩ dX6_filter_91
    · replace h := ifn h c9
      refine go_iload_n (pc := 75) dX6_filter_75 rfl rfl ?_
      refine go_iconst (pc := 76) (v := 5) dX6_filter_76 ci_5 ?_
      refine go_icmp_ne (pc := 77) (tgt := 92) dX6_filter_77 rfl (fun c10 => ?_) (fun c10 => ?_)
      · replace h := ifn h c10
        refine go_le (lle_s (lle_s (lle_s (lle_s (lle_n lle_0))))) ?_
        exact gX6_filter_b92  h
      · replace h := ifp h c10
        refine go_iload_n (pc := 80) dX6_filter_80 rfl rfl ?_
        refine go_iconst (pc := 81) (v := 0) dX6_filter_81 ci_0 ?_
        refine go_iconst (pc := 82) (v := 3) dX6_filter_82 ci_3 ?_
        obtain ⟨r15, e16, h⟩ := ok_bind h
        refine go_cS (pc := 83) (As := [.int l2, .int 0, .int 3]) (st := []) (E_X6_within e16) rfl oX6_within iX6_within kX6_99 rfl (Nat.le_of_ble_eq_true rfl) ⟨Nat.le_of_ble_eq_true rfl, Nat.le_of_ble_eq_true rfl⟩ ⟨rfl, rfl⟩ dX6_filter_83 (st2 := [.int r15]) rfl ?_
        refine go_if_ne (pc := 86) (tgt := 92) dX6_filter_86 rfl (fun c17 => ?_) (fun c17 => ?_)
        · replace h := ifn h c17
          refine go_le (lle_s (lle_s (lle_s (lle_s (lle_n lle_0))))) ?_
          exact gX6_filter_b92  h
        · replace h := ifp h c17
          refine go_bipush (pc := 89) (v := (-2)) dX6_filter_89 cb_m2 ?_
          cases h
          exact go_iret (pc := 91) (Or.inl rfl) ⟨Nat.zero_le _, Nat.zero_le _⟩ dX6_filter_91
  · replace h := ifn h c6
    refine go_iload_n (pc := 49) dX6_filter_49 rfl rfl ?_
    refine go_iconst (pc := 50) (v := 0) dX6_filter_50 ci_0 ?_
    refine go_aload_n (pc := 51) dX6_filter_51 rfl rfl ?_
    refine go_gI (pc := 52) (v := V 0 24) fX6_166 (by decide) (show TM 0 = (6 + 5, 29) from rfl) dX6_filter_52 rfl ?_
    refine go_iconst (pc := 55) (v := 1) dX6_filter_55 ci_1 ?_
    refine go_isub (pc := 56) dX6_filter_56 ?_
    obtain ⟨r18, e19, h⟩ := ok_bind h
    refine go_cS (pc := 57) (As := [.int l3, .int 0, .int ((V 0 24) - 1)]) (st := []) (E_X6_within e19) rfl oX6_within iX6_within kX6_99 rfl (Nat.le_of_ble_eq_true rfl) ⟨Nat.le_of_ble_eq_true rfl, Nat.le_of_ble_eq_true rfl⟩ ⟨rfl, rfl⟩ dX6_filter_57 (st2 := [.int r18]) rfl ?_
    refine go_if_ne (pc := 60) (tgt := 65) dX6_filter_60 rfl (fun c20 => ?_) (fun c20 => ?_)
    · replace h := ifn h c20
      refine go_iload_n (pc := 65) dX6_filter_65 rfl rfl ?_
      refine go_iconst (pc := 66) (v := 0) dX6_filter_66 ci_0 ?_
      refine go_bipush (pc := 67) (v := 10) dX6_filter_67 cb_10 ?_
      obtain ⟨r21, e22, h⟩ := ok_bind h
      refine go_cS (pc := 69) (As := [.int l1, .int 0, .int 10]) (st := []) (E_X6_within e22) rfl oX6_within iX6_within kX6_99 rfl (Nat.le_of_ble_eq_true rfl) ⟨Nat.le_of_ble_eq_true rfl, Nat.le_of_ble_eq_true rfl⟩ ⟨rfl, rfl⟩ dX6_filter_69 (st2 := [.int r21]) rfl ?_
      refine go_if_eq (pc := 72) (tgt := 89) dX6_filter_72 rfl (fun c23 => ?_) (fun c23 => ?_)
      · replace h := ifp h c23
        refine go_bipush (pc := 89) (v := (-2)) dX6_filter_89 cb_m2 ?_
        cases h
        exact go_iret (pc := 91) (Or.inl rfl) ⟨Nat.zero_le _, Nat.zero_le _⟩ dX6_filter_91
      · replace h := ifn h c23
        refine go_iload_n (pc := 75) dX6_filter_75 rfl rfl ?_
        refine go_iconst (pc := 76) (v := 5) dX6_filter_76 ci_5 ?_
        refine go_icmp_ne (pc := 77) (tgt := 92) dX6_filter_77 rfl (fun c24 => ?_) (fun c24 => ?_)
        · replace h := ifn h c24
          refine go_le (lle_s (lle_s (lle_s (lle_s (lle_n lle_0))))) ?_
          exact gX6_filter_b92  h
        · replace h := ifp h c24
          refine go_iload_n (pc := 80) dX6_filter_80 rfl rfl ?_
          refine go_iconst (pc := 81) (v := 0) dX6_filter_81 ci_0 ?_
          refine go_iconst (pc := 82) (v := 3) dX6_filter_82 ci_3 ?_
          obtain ⟨r25, e26, h⟩ := ok_bind h
          refine go_cS (pc := 83) (As := [.int l2, .int 0, .int 3]) (st := []) (E_X6_within e26) rfl oX6_within iX6_within kX6_99 rfl (Nat.le_of_ble_eq_true rfl) ⟨Nat.le_of_ble_eq_true rfl, Nat.le_of_ble_eq_true rfl⟩ ⟨rfl, rfl⟩ dX6_filter_83 (st2 := [.int r25]) rfl ?_
          refine go_if_ne (pc := 86) (tgt := 92) dX6_filter_86 rfl (fun c27 => ?_) (fun c27 => ?_)
          · replace h := ifn h c27
            refine go_le (lle_s (lle_s (lle_s (lle_s (lle_n lle_0))))) ?_
            exact gX6_filter_b92  h
          · replace h := ifp h c27
            refine go_bipush (pc := 89) (v := (-2)) dX6_filter_89 cb_m2 ?_
            cases h
            exact go_iret (pc := 91) (Or.inl rfl) ⟨Nat.zero_le _, Nat.zero_le _⟩ dX6_filter_91
    · replace h := ifp h c20
      refine go_iconst (pc := 63) (v := (-1)) dX6_filter_63 ci_m1 ?_
      cases h
      exact go_iret (pc := 64) (Or.inl rfl) ⟨Nat.zero_le _, Nat.zero_le _⟩ dX6_filter_64
def eX6_filter_b17 (l1 : Int32) (l2 : Int32) (l3 : Int32) (s0 : Int32) (V : Mm) : Option (Int32 × Mm) :=
  if s0 = 0 then
    if l1 = 10 then
      (eX6_within l2 0 ((V 0 24) - 1) V).bind fun r29 =>
      if r29 = 0 then
        some ((-1), V)
      else
        eX6_filter_b44 l1 l2 l3 s0 V
    else
      eX6_filter_b44 l1 l2 l3 s0 V
  else
    (eX6_within l2 0 ((V 0 24) - 1) V).bind fun r3 =>
    if r3 = 0 then
      some ((-1), V)
    else
      eX6_filter_b44 l1 l2 l3 s0 V
set_option maxHeartbeats 4000000 in
set_option maxRecDepth 100000 in
theorem gX6_filter_b17 {l1 : Int32} {l2 : Int32} {l3 : Int32} {s0 : Int32} {V : Mm} {res : Int32 × Mm}  (h : eX6_filter_b17 l1 l2 l3 s0 V = some res) : Go mX6_filter 17 [some (.ref 0), some (.int l1), some (.int l2), some (.int l3), none] [.int s0] (hM V) 0 0 (some (.int res.1)) (hM res.2) := by
  unfold eX6_filter_b17 at h
  refine go_istore (pc := 17) (i := 4) dX6_filter_17 (Nat.le_of_ble_eq_true rfl) (L2 := [some (.ref 0), some (.int l1), some (.int l2), some (.int l3), some (.int s0)]) rfl ?_
  refine go_iload (pc := 19) dX6_filter_19 rfl ?_
  refine go_if_ne (pc := 21) (tgt := 30) dX6_filter_21 rfl (fun c2 => ?_) (fun c2 => ?_)
  · replace h := ifn h c2
    refine go_iload_n (pc := 30) dX6_filter_30 rfl rfl ?_
    refine go_iconst (pc := 31) (v := 0) dX6_filter_31 ci_0 ?_
    refine go_aload_n (pc := 32) dX6_filter_32 rfl rfl ?_
    refine go_gI (pc := 33) (v := V 0 24) fX6_166 (by decide) (show TM 0 = (6 + 5, 29) from rfl) dX6_filter_33 rfl ?_
    refine go_iconst (pc := 36) (v := 1) dX6_filter_36 ci_1 ?_
    refine go_isub (pc := 37) dX6_filter_37 ?_
    obtain ⟨r3, e4, h⟩ := ok_bind h
    refine go_cS (pc := 38) (As := [.int l2, .int 0, .int ((V 0 24) - 1)]) (st := []) (E_X6_within e4) rfl oX6_within iX6_within kX6_99 rfl (Nat.le_of_ble_eq_true rfl) ⟨Nat.le_of_ble_eq_true rfl, Nat.le_of_ble_eq_true rfl⟩ ⟨rfl, rfl⟩ dX6_filter_38 (st2 := [.int r3]) rfl ?_
    refine go_if_eq (pc := 41) (tgt := 63) dX6_filter_41 rfl (fun c5 => ?_) (fun c5 => ?_)
    · replace h := ifp h c5
      refine go_iconst (pc := 63) (v := (-1)) dX6_filter_63 ci_m1 ?_
      cases h
      exact go_iret (pc := 64) (Or.inl rfl) ⟨Nat.zero_le _, Nat.zero_le _⟩ dX6_filter_64
    · replace h := ifn h c5
      exact gX6_filter_b44  h
  · replace h := ifp h c2
    refine go_iload_n (pc := 24) dX6_filter_24 rfl rfl ?_
    refine go_bipush (pc := 25) (v := 10) dX6_filter_25 cb_10 ?_
    refine go_icmp_ne (pc := 27) (tgt := 44) dX6_filter_27 rfl (fun c28 => ?_) (fun c28 => ?_)
    · replace h := ifn h c28
      exact gX6_filter_b44  h
    · replace h := ifp h c28
      refine go_iload_n (pc := 30) dX6_filter_30 rfl rfl ?_
      refine go_iconst (pc := 31) (v := 0) dX6_filter_31 ci_0 ?_
      refine go_aload_n (pc := 32) dX6_filter_32 rfl rfl ?_
      refine go_gI (pc := 33) (v := V 0 24) fX6_166 (by decide) (show TM 0 = (6 + 5, 29) from rfl) dX6_filter_33 rfl ?_
      refine go_iconst (pc := 36) (v := 1) dX6_filter_36 ci_1 ?_
      refine go_isub (pc := 37) dX6_filter_37 ?_
      obtain ⟨r29, e30, h⟩ := ok_bind h
      refine go_cS (pc := 38) (As := [.int l2, .int 0, .int ((V 0 24) - 1)]) (st := []) (E_X6_within e30) rfl oX6_within iX6_within kX6_99 rfl (Nat.le_of_ble_eq_true rfl) ⟨Nat.le_of_ble_eq_true rfl, Nat.le_of_ble_eq_true rfl⟩ ⟨rfl, rfl⟩ dX6_filter_38 (st2 := [.int r29]) rfl ?_
      refine go_if_eq (pc := 41) (tgt := 63) dX6_filter_41 rfl (fun c31 => ?_) (fun c31 => ?_)
      · replace h := ifp h c31
        refine go_iconst (pc := 63) (v := (-1)) dX6_filter_63 ci_m1 ?_
        cases h
        exact go_iret (pc := 64) (Or.inl rfl) ⟨Nat.zero_le _, Nat.zero_le _⟩ dX6_filter_64
      · replace h := ifn h c31
        exact gX6_filter_b44  h
def eX6_filter (a1 : Int32) (a2 : Int32) (a3 : Int32) (V : Mm) : Option (Int32 × Mm) :=
  if a1 = 8 then
    eX6_filter_b17 a1 a2 a3 1 V
  else
    if a1 = 9 then
      eX6_filter_b17 a1 a2 a3 1 V
    else
      eX6_filter_b17 a1 a2 a3 0 V
set_option maxHeartbeats 4000000 in
set_option maxRecDepth 100000 in
theorem E_X6_filter {a1 : Int32} {a2 : Int32} {a3 : Int32} {V : Mm} {res : Int32 × Mm}  (h : eX6_filter a1 a2 a3 V = some res) : Ev mX6_filter [.ref 0, .int a1, .int a2, .int a3] (hM V) (some (.int res.1)) (hM res.2) := by
  refine Ev.of (n := 1) oX6_filter.1 (Nat.le_of_ble_eq_true rfl) ?_
  unfold eX6_filter at h
  show Go mX6_filter 0 [some (.ref 0), some (.int a1), some (.int a2), some (.int a3), none] [] (hM V) 0 0 (some (.int res.1)) (hM res.2)
  refine go_iload_n (pc := 0) dX6_filter_0 rfl rfl ?_
  refine go_bipush (pc := 1) (v := 8) dX6_filter_1 cb_8 ?_
  refine go_icmp_eq (pc := 3) (tgt := 12) dX6_filter_3 rfl (fun c1 => ?_) (fun c1 => ?_)
  · replace h := ifp h c1
    refine go_iconst (pc := 12) (v := 1) dX6_filter_12 ci_1 ?_
    refine go_goto (pc := 13) (tgt := 17) dX6_filter_13 rfl ?_
    exact gX6_filter_b17  h
  · replace h := ifn h c1
    refine go_iload_n (pc := 6) dX6_filter_6 rfl rfl ?_
    refine go_bipush (pc := 7) (v := 9) dX6_filter_7 cb_9 ?_
    refine go_icmp_ne (pc := 9) (tgt := 16) dX6_filter_9 rfl (fun c32 => ?_) (fun c32 => ?_)
    · replace h := ifn h c32
      refine go_iconst (pc := 16) (v := 0) dX6_filter_16 ci_0 ?_
      exact gX6_filter_b17  h
    · replace h := ifp h c32
      refine go_iconst (pc := 12) (v := 1) dX6_filter_12 ci_1 ?_
      refine go_goto (pc := 13) (tgt := 17) dX6_filter_13 rfl ?_
      exact gX6_filter_b17  h
def eX6_fits (a1 : Int32) (a2 : Int32) (V : Mm) : Option (Int32 × Mm) :=
  (eX6_isMail 1 a1 V).bind fun r1 =>
  if r1 = 0 then
    some ((-1), V)
  else
    (eX6_within a2 0 ((V 0 24) - 1) V).bind fun r4 =>
    if r4 = 0 then
      some ((-1), V)
    else
      (eX6_isFit a1 a2 V).bind fun r7 =>
      if r7.1 = 0 then
        some (0, r7.2)
      else
        some (1, r7.2)
set_option maxHeartbeats 4000000 in
set_option maxRecDepth 100000 in
theorem E_X6_fits {a1 : Int32} {a2 : Int32} {V : Mm} {res : Int32 × Mm}  (h : eX6_fits a1 a2 V = some res) : Ev mX6_fits [.ref 0, .int a1, .int a2] (hM V) (some (.int res.1)) (hM res.2) := by
  refine Ev.of (n := 0) oX6_fits.1 (Nat.le_of_ble_eq_true rfl) ?_
  unfold eX6_fits at h
  show Go mX6_fits 0 [some (.ref 0), some (.int a1), some (.int a2)] [] (hM V) 0 0 (some (.int res.1)) (hM res.2)
  refine go_aload_n (pc := 0) dX6_fits_0 rfl rfl ?_
  refine go_aload_n (pc := 1) dX6_fits_1 rfl rfl ?_
  refine go_getP (pc := 2) (a := 1) fX6_7 (by decide) (show TM 0 = (6 + 5, 29) from rfl) rfl dX6_fits_2 ?_
  refine go_iload_n (pc := 5) dX6_fits_5 rfl rfl ?_
  obtain ⟨r1, e2, h⟩ := ok_bind h
  refine go_cV (pc := 6) (ci := 6) (As := [.ref 1, .int a1]) (st := []) (E_X6_isMail isW_1 e2) rfl oX6_isMail iX6_isMail sX6_isMail kX6_81 rfl (show TM 0 = (6 + 5, 29) from rfl) rfl (Nat.le_of_ble_eq_true rfl) ⟨Nat.le_of_ble_eq_true rfl, Nat.le_of_ble_eq_true rfl⟩ ⟨rfl, rfl⟩ dX6_fits_6 (st2 := [.int r1]) rfl ?_
  refine go_if_eq (pc := 9) (tgt := 26) dX6_fits_9 rfl (fun c3 => ?_) (fun c3 => ?_)
  · replace h := ifp h c3
    refine go_iconst (pc := 26) (v := (-1)) dX6_fits_26 ci_m1 ?_
    cases h
    exact go_iret (pc := 27) (Or.inl rfl) ⟨Nat.zero_le _, Nat.zero_le _⟩ dX6_fits_27
  · replace h := ifn h c3
    refine go_iload_n (pc := 12) dX6_fits_12 rfl rfl ?_
    refine go_iconst (pc := 13) (v := 0) dX6_fits_13 ci_0 ?_
    refine go_aload_n (pc := 14) dX6_fits_14 rfl rfl ?_
    refine go_gI (pc := 15) (v := V 0 24) fX6_166 (by decide) (show TM 0 = (6 + 5, 29) from rfl) dX6_fits_15 rfl ?_
    refine go_iconst (pc := 18) (v := 1) dX6_fits_18 ci_1 ?_
    refine go_isub (pc := 19) dX6_fits_19 ?_
    obtain ⟨r4, e5, h⟩ := ok_bind h
    refine go_cS (pc := 20) (As := [.int a2, .int 0, .int ((V 0 24) - 1)]) (st := []) (E_X6_within e5) rfl oX6_within iX6_within kX6_99 rfl (Nat.le_of_ble_eq_true rfl) ⟨Nat.le_of_ble_eq_true rfl, Nat.le_of_ble_eq_true rfl⟩ ⟨rfl, rfl⟩ dX6_fits_20 (st2 := [.int r4]) rfl ?_
    refine go_if_ne (pc := 23) (tgt := 28) dX6_fits_23 rfl (fun c6 => ?_) (fun c6 => ?_)
    · replace h := ifn h c6
      refine go_aload_n (pc := 28) dX6_fits_28 rfl rfl ?_
      refine go_iload_n (pc := 29) dX6_fits_29 rfl rfl ?_
      refine go_iload_n (pc := 30) dX6_fits_30 rfl rfl ?_
      obtain ⟨r7, e8, h⟩ := ok_bind h
      refine go_cV (pc := 31) (ci := 6) (As := [.int a1, .int a2]) (st := []) (E_X6_isFit e8) rfl oX6_isFit iX6_isFit sX6_isFit kX6_169 rfl (show TM 0 = (6 + 5, 29) from rfl) rfl (Nat.le_of_ble_eq_true rfl) ⟨Nat.le_of_ble_eq_true rfl, Nat.le_of_ble_eq_true rfl⟩ ⟨rfl, rfl⟩ dX6_fits_31 (st2 := [.int r7.1]) rfl ?_
      refine go_if_eq (pc := 34) (tgt := 41) dX6_fits_34 rfl (fun c9 => ?_) (fun c9 => ?_)
      · replace h := ifp h c9
        refine go_iconst (pc := 41) (v := 0) dX6_fits_41 ci_0 ?_
        cases h
        exact go_iret (pc := 42) (Or.inl rfl) ⟨Nat.zero_le _, Nat.zero_le _⟩ dX6_fits_42
      · replace h := ifn h c9
        refine go_iconst (pc := 37) (v := 1) dX6_fits_37 ci_1 ?_
        refine go_goto (pc := 38) (tgt := 42) dX6_fits_38 rfl ?_
        cases h
        exact go_iret (pc := 42) (Or.inl rfl) ⟨Nat.zero_le _, Nat.zero_le _⟩ dX6_fits_42
    · replace h := ifp h c6
      refine go_iconst (pc := 26) (v := (-1)) dX6_fits_26 ci_m1 ?_
      cases h
      exact go_iret (pc := 27) (Or.inl rfl) ⟨Nat.zero_le _, Nat.zero_le _⟩ dX6_fits_27
