def eX5_get (a1 : Int32) (a2 : Int32) (a3 : Int32) (V : Mm) : Option (Int32 × Mm) :=
  (eX5_putOfIds 0 a1 a2 a3 0 0 V).bind fun r1 =>
  some (r1.1, r1.2)
set_option maxHeartbeats 4000000 in
set_option maxRecDepth 100000 in
theorem E_X5_get {a1 : Int32} {a2 : Int32} {a3 : Int32} {V : Mm} {res : Int32 × Mm}  (h : eX5_get a1 a2 a3 V = some res) : Ev mX5_get [.ref 0, .int a1, .int a2, .int a3] (hC V) (some (.int res.1)) (hC res.2) := by
  refine Ev.of (n := 0) oX5_get.1 (Nat.le_of_ble_eq_true rfl) ?_
  unfold eX5_get at h
  show Go mX5_get 0 [some (.ref 0), some (.int a1), some (.int a2), some (.int a3)] [] (hC V) 0 0 (some (.int res.1)) (hC res.2)
  refine go_aload_n (pc := 0) dX5_get_0 rfl rfl ?_
  refine go_iconst (pc := 1) (v := 0) dX5_get_1 ci_0 ?_
  refine go_iload_n (pc := 2) dX5_get_2 rfl rfl ?_
  refine go_iload_n (pc := 3) dX5_get_3 rfl rfl ?_
  refine go_iload_n (pc := 4) dX5_get_4 rfl rfl ?_
  refine go_iconst (pc := 5) (v := 0) dX5_get_5 ci_0 ?_
  refine go_iconst (pc := 6) (v := 0) dX5_get_6 ci_0 ?_
  obtain ⟨r1, e2, h⟩ := ok_bind h
  refine go_cV (pc := 7) (ci := 5) (As := [.int 0, .int a1, .int a2, .int a3, .int 0, .int 0]) (st := []) (E_X5_putOfIds e2) rfl oX5_putOfIds iX5_putOfIds sX5_putOfIds kX5_59 rfl (show TC 0 = (5 + 5, 13) from rfl) rfl (Nat.le_of_ble_eq_true rfl) ⟨Nat.le_of_ble_eq_true rfl, Nat.le_of_ble_eq_true rfl⟩ ⟨rfl, rfl⟩ dX5_get_7 (st2 := [.int r1.1]) rfl ?_
  cases h
  exact go_iret (pc := 10) (Or.inl rfl) ⟨Nat.zero_le _, Nat.zero_le _⟩ dX5_get_10
def eX5_query (a1 : Int32) (a2 : Int32) (a3 : Int32) (a4 : Int32) (V : Mm) : Option (Int32 × Mm) :=
  if (V 0 10) < 12 then
    if V 0 10 < 0 ∨ 12 ≤ (V 0 10).toNatClampNeg then none else
    (eX0_begin (89 + 9 * (V 0 10).toNatClampNeg) 1 1 V).bind fun r3 =>
    some ((wr (wr (wr (wr r3 (89 + 9 * (V 0 10).toNatClampNeg) 7 a1) (89 + 9 * (V 0 10).toNatClampNeg) 8 a2) (89 + 9 * (V 0 10).toNatClampNeg) 9 a3) (89 + 9 * (V 0 10).toNatClampNeg) 10 a4) 0 10, (wr (wr (wr (wr (wr r3 (89 + 9 * (V 0 10).toNatClampNeg) 7 a1) (89 + 9 * (V 0 10).toNatClampNeg) 8 a2) (89 + 9 * (V 0 10).toNatClampNeg) 9 a3) (89 + 9 * (V 0 10).toNatClampNeg) 10 a4) 0 10 (((wr (wr (wr (wr r3 (89 + 9 * (V 0 10).toNatClampNeg) 7 a1) (89 + 9 * (V 0 10).toNatClampNeg) 8 a2) (89 + 9 * (V 0 10).toNatClampNeg) 9 a3) (89 + 9 * (V 0 10).toNatClampNeg) 10 a4) 0 10) + 1)))
  else
    some ((-4), V)
set_option maxHeartbeats 4000000 in
set_option maxRecDepth 100000 in
theorem E_X5_query {a1 : Int32} {a2 : Int32} {a3 : Int32} {a4 : Int32} {V : Mm} {res : Int32 × Mm}  (h : eX5_query a1 a2 a3 a4 V = some res) : Ev mX5_query [.ref 0, .int a1, .int a2, .int a3, .int a4] (hC V) (some (.int res.1)) (hC res.2) := by
  refine Ev.of (n := 1) oX5_query.1 (Nat.le_of_ble_eq_true rfl) ?_
  unfold eX5_query at h
  show Go mX5_query 0 [some (.ref 0), some (.int a1), some (.int a2), some (.int a3), some (.int a4), none] [] (hC V) 0 0 (some (.int res.1)) (hC res.2)
  refine go_aload_n (pc := 0) dX5_query_0 rfl rfl ?_
  refine go_gI (pc := 1) (v := V 0 10) fX5_63 (by decide) (show TC 0 = (5 + 5, 13) from rfl) dX5_query_1 rfl ?_
  refine go_bipush (pc := 4) (v := 12) dX5_query_4 cb_12 ?_
  refine go_icmp_lt (pc := 6) (tgt := 12) dX5_query_6 rfl (fun c1 => ?_) (fun c1 => ?_)
  · replace h := ifp h c1
    refine go_aload_n (pc := 12) dX5_query_12 rfl rfl ?_
    refine go_getP (pc := 13) (a := 2) fX5_15 (by decide) (show TC 0 = (5 + 5, 13) from rfl) rfl dX5_query_13 ?_
    refine go_aload_n (pc := 16) dX5_query_16 rfl rfl ?_
    refine go_gI (pc := 17) (v := V 0 10) fX5_63 (by decide) (show TC 0 = (5 + 5, 13) from rfl) dX5_query_17 rfl ?_
    obtain ⟨c2, h⟩ := ok_not h
    refine go_aald (pc := 20) (t := 3) (a := (89 + 9 * (V 0 10).toNatClampNeg)) (by decide) (show TC 2 = (3, 12) from rfl) (vin c2) (C_P (vlt c2)) dX5_query_20 ?_
    refine go_astore (pc := 21) (i := 5) dX5_query_21 (Nat.le_of_ble_eq_true rfl) (L2 := [some (.ref 0), some (.int a1), some (.int a2), some (.int a3), some (.int a4), some (.ref (89 + 9 * (V 0 10).toNatClampNeg))]) rfl ?_
    refine go_aload (pc := 23) dX5_query_23 rfl ?_
    refine go_iconst (pc := 25) (v := 1) dX5_query_25 ci_1 ?_
    refine go_iconst (pc := 26) (v := 1) dX5_query_26 ci_1 ?_
    obtain ⟨r3, e4, h⟩ := ok_bind h
    refine go_cV (pc := 27) (ci := 0) (As := [.int 1, .int 1]) (st := []) (E_X0_begin (isCall_of (vlt c2)) e4) rfl oX0_begin iX0_begin sX0_begin kX5_67 rfl (C_T (isCall_of (vlt c2))) rfl (Nat.le_of_ble_eq_true rfl) ⟨Nat.le_of_ble_eq_true rfl, Nat.le_of_ble_eq_true rfl⟩ ⟨rfl, rfl⟩ dX5_query_27 (st2 := []) rfl ?_
    refine go_aload (pc := 30) dX5_query_30 rfl ?_
    refine go_iload_n (pc := 32) dX5_query_32 rfl rfl ?_
    refine go_putI (pc := 33) (k := 7) fX5_71 (Or.inl rfl) (Or.inl rfl) (C_T (isCall_of (vlt c2))) dX5_query_33 ?_
    refine go_aload (pc := 36) dX5_query_36 rfl ?_
    refine go_iload_n (pc := 38) dX5_query_38 rfl rfl ?_
    refine go_putI (pc := 39) (k := 8) fX5_74 (Or.inl rfl) (Or.inl rfl) (C_T (isCall_of (vlt c2))) dX5_query_39 ?_
    refine go_aload (pc := 42) dX5_query_42 rfl ?_
    refine go_iload_n (pc := 44) dX5_query_44 rfl rfl ?_
    refine go_putI (pc := 45) (k := 9) fX5_77 (Or.inl rfl) (Or.inl rfl) (C_T (isCall_of (vlt c2))) dX5_query_45 ?_
    refine go_aload (pc := 48) dX5_query_48 rfl ?_
    refine go_iload (pc := 50) dX5_query_50 rfl ?_
    refine go_putI (pc := 52) (k := 10) fX5_80 (Or.inl rfl) (Or.inl rfl) (C_T (isCall_of (vlt c2))) dX5_query_52 ?_
    refine go_aload_n (pc := 55) dX5_query_55 rfl rfl ?_
    refine go_dup (pc := 56) dX5_query_56 ?_
    refine go_gI (pc := 57) (v := (wr (wr (wr (wr r3 (89 + 9 * (V 0 10).toNatClampNeg) 7 a1) (89 + 9 * (V 0 10).toNatClampNeg) 8 a2) (89 + 9 * (V 0 10).toNatClampNeg) 9 a3) (89 + 9 * (V 0 10).toNatClampNeg) 10 a4) 0 10) fX5_63 (by decide) (show TC 0 = (5 + 5, 13) from rfl) dX5_query_57 rfl ?_
    refine go_dup_x1 (pc := 60) dX5_query_60 ?_
    refine go_iconst (pc := 61) (v := 1) dX5_query_61 ci_1 ?_
    refine go_iadd (pc := 62) dX5_query_62 ?_
    refine go_putI (pc := 63) (k := 10) fX5_63 (Or.inl rfl) (Or.inl rfl) (show TC 0 = (5 + 5, 13) from rfl) dX5_query_63 ?_
    cases h
    exact go_iret (pc := 66) (Or.inl rfl) ⟨Nat.zero_le _, Nat.zero_le _⟩ dX5_query_66
  · replace h := ifn h c1
    refine go_bipush (pc := 9) (v := (-4)) dX5_query_9 cb_m4 ?_
    cases h
    exact go_iret (pc := 11) (Or.inl rfl) ⟨Nat.zero_le _, Nat.zero_le _⟩ dX5_query_11
def eX5_changes (a1 : Int32) (a2 : Int32) (a3 : Int32) (V : Mm) : Option (Int32 × Mm) :=
  if (V 0 10) < 12 then
    if V 0 10 < 0 ∨ 12 ≤ (V 0 10).toNatClampNeg then none else
    (eX0_begin (89 + 9 * (V 0 10).toNatClampNeg) 2 a1 V).bind fun r3 =>
    some ((wr (wr r3 (89 + 9 * (V 0 10).toNatClampNeg) 11 a2) (89 + 9 * (V 0 10).toNatClampNeg) 10 a3) 0 10, (wr (wr (wr r3 (89 + 9 * (V 0 10).toNatClampNeg) 11 a2) (89 + 9 * (V 0 10).toNatClampNeg) 10 a3) 0 10 (((wr (wr r3 (89 + 9 * (V 0 10).toNatClampNeg) 11 a2) (89 + 9 * (V 0 10).toNatClampNeg) 10 a3) 0 10) + 1)))
  else
    some ((-4), V)
set_option maxHeartbeats 4000000 in
set_option maxRecDepth 100000 in
theorem E_X5_changes {a1 : Int32} {a2 : Int32} {a3 : Int32} {V : Mm} {res : Int32 × Mm}  (h : eX5_changes a1 a2 a3 V = some res) : Ev mX5_changes [.ref 0, .int a1, .int a2, .int a3] (hC V) (some (.int res.1)) (hC res.2) := by
  refine Ev.of (n := 1) oX5_changes.1 (Nat.le_of_ble_eq_true rfl) ?_
  unfold eX5_changes at h
  show Go mX5_changes 0 [some (.ref 0), some (.int a1), some (.int a2), some (.int a3), none] [] (hC V) 0 0 (some (.int res.1)) (hC res.2)
  refine go_aload_n (pc := 0) dX5_changes_0 rfl rfl ?_
  refine go_gI (pc := 1) (v := V 0 10) fX5_63 (by decide) (show TC 0 = (5 + 5, 13) from rfl) dX5_changes_1 rfl ?_
  refine go_bipush (pc := 4) (v := 12) dX5_changes_4 cb_12 ?_
  refine go_icmp_lt (pc := 6) (tgt := 12) dX5_changes_6 rfl (fun c1 => ?_) (fun c1 => ?_)
  · replace h := ifp h c1
    refine go_aload_n (pc := 12) dX5_changes_12 rfl rfl ?_
    refine go_getP (pc := 13) (a := 2) fX5_15 (by decide) (show TC 0 = (5 + 5, 13) from rfl) rfl dX5_changes_13 ?_
    refine go_aload_n (pc := 16) dX5_changes_16 rfl rfl ?_
    refine go_gI (pc := 17) (v := V 0 10) fX5_63 (by decide) (show TC 0 = (5 + 5, 13) from rfl) dX5_changes_17 rfl ?_
    obtain ⟨c2, h⟩ := ok_not h
    refine go_aald (pc := 20) (t := 3) (a := (89 + 9 * (V 0 10).toNatClampNeg)) (by decide) (show TC 2 = (3, 12) from rfl) (vin c2) (C_P (vlt c2)) dX5_changes_20 ?_
    refine go_astore (pc := 21) (i := 4) dX5_changes_21 (Nat.le_of_ble_eq_true rfl) (L2 := [some (.ref 0), some (.int a1), some (.int a2), some (.int a3), some (.ref (89 + 9 * (V 0 10).toNatClampNeg))]) rfl ?_
    refine go_aload (pc := 23) dX5_changes_23 rfl ?_
    refine go_iconst (pc := 25) (v := 2) dX5_changes_25 ci_2 ?_
    refine go_iload_n (pc := 26) dX5_changes_26 rfl rfl ?_
    obtain ⟨r3, e4, h⟩ := ok_bind h
    refine go_cV (pc := 27) (ci := 0) (As := [.int 2, .int a1]) (st := []) (E_X0_begin (isCall_of (vlt c2)) e4) rfl oX0_begin iX0_begin sX0_begin kX5_67 rfl (C_T (isCall_of (vlt c2))) rfl (Nat.le_of_ble_eq_true rfl) ⟨Nat.le_of_ble_eq_true rfl, Nat.le_of_ble_eq_true rfl⟩ ⟨rfl, rfl⟩ dX5_changes_27 (st2 := []) rfl ?_
    refine go_aload (pc := 30) dX5_changes_30 rfl ?_
    refine go_iload_n (pc := 32) dX5_changes_32 rfl rfl ?_
    refine go_putI (pc := 33) (k := 11) fX5_83 (Or.inl rfl) (Or.inl rfl) (C_T (isCall_of (vlt c2))) dX5_changes_33 ?_
    refine go_aload (pc := 36) dX5_changes_36 rfl ?_
    refine go_iload_n (pc := 38) dX5_changes_38 rfl rfl ?_
    refine go_putI (pc := 39) (k := 10) fX5_80 (Or.inl rfl) (Or.inl rfl) (C_T (isCall_of (vlt c2))) dX5_changes_39 ?_
    refine go_aload_n (pc := 42) dX5_changes_42 rfl rfl ?_
    refine go_dup (pc := 43) dX5_changes_43 ?_
    refine go_gI (pc := 44) (v := (wr (wr r3 (89 + 9 * (V 0 10).toNatClampNeg) 11 a2) (89 + 9 * (V 0 10).toNatClampNeg) 10 a3) 0 10) fX5_63 (by decide) (show TC 0 = (5 + 5, 13) from rfl) dX5_changes_44 rfl ?_
    refine go_dup_x1 (pc := 47) dX5_changes_47 ?_
    refine go_iconst (pc := 48) (v := 1) dX5_changes_48 ci_1 ?_
    refine go_iadd (pc := 49) dX5_changes_49 ?_
    refine go_putI (pc := 50) (k := 10) fX5_63 (Or.inl rfl) (Or.inl rfl) (show TC 0 = (5 + 5, 13) from rfl) dX5_changes_50 ?_
    cases h
    exact go_iret (pc := 53) (Or.inl rfl) ⟨Nat.zero_le _, Nat.zero_le _⟩ dX5_changes_53
  · replace h := ifn h c1
    refine go_bipush (pc := 9) (v := (-4)) dX5_changes_9 cb_m4 ?_
    cases h
    exact go_iret (pc := 11) (Or.inl rfl) ⟨Nat.zero_le _, Nat.zero_le _⟩ dX5_changes_11
def eX5_make (a1 : Int32) (a2 : Int32) (V : Mm) : Option (Int32 × Mm) :=
  if (V 0 10) < 12 then
    if V 0 10 < 0 ∨ 12 ≤ (V 0 10).toNatClampNeg then none else
    (eX0_begin (89 + 9 * (V 0 10).toNatClampNeg) 3 a1 V).bind fun r3 =>
    some ((wcp (wr r3 (89 + 9 * (V 0 10).toNatClampNeg) 6 a2) 1 ((89 + 9 * (V 0 10).toNatClampNeg) + 1) 0 0 10) 0 10, (wr (wcp (wr r3 (89 + 9 * (V 0 10).toNatClampNeg) 6 a2) 1 ((89 + 9 * (V 0 10).toNatClampNeg) + 1) 0 0 10) 0 10 (((wcp (wr r3 (89 + 9 * (V 0 10).toNatClampNeg) 6 a2) 1 ((89 + 9 * (V 0 10).toNatClampNeg) + 1) 0 0 10) 0 10) + 1)))
  else
    some ((-4), V)
set_option maxHeartbeats 4000000 in
set_option maxRecDepth 100000 in
theorem E_X5_make {a1 : Int32} {a2 : Int32} {V : Mm} {res : Int32 × Mm}  (h : eX5_make a1 a2 V = some res) : Ev mX5_make [.ref 0, .int a1, .int a2] (hC V) (some (.int res.1)) (hC res.2) := by
  refine Ev.of (n := 1) oX5_make.1 (Nat.le_of_ble_eq_true rfl) ?_
  unfold eX5_make at h
  show Go mX5_make 0 [some (.ref 0), some (.int a1), some (.int a2), none] [] (hC V) 0 0 (some (.int res.1)) (hC res.2)
  refine go_aload_n (pc := 0) dX5_make_0 rfl rfl ?_
  refine go_gI (pc := 1) (v := V 0 10) fX5_63 (by decide) (show TC 0 = (5 + 5, 13) from rfl) dX5_make_1 rfl ?_
  refine go_bipush (pc := 4) (v := 12) dX5_make_4 cb_12 ?_
  refine go_icmp_lt (pc := 6) (tgt := 12) dX5_make_6 rfl (fun c1 => ?_) (fun c1 => ?_)
  · replace h := ifp h c1
    refine go_aload_n (pc := 12) dX5_make_12 rfl rfl ?_
    refine go_getP (pc := 13) (a := 2) fX5_15 (by decide) (show TC 0 = (5 + 5, 13) from rfl) rfl dX5_make_13 ?_
    refine go_aload_n (pc := 16) dX5_make_16 rfl rfl ?_
    refine go_gI (pc := 17) (v := V 0 10) fX5_63 (by decide) (show TC 0 = (5 + 5, 13) from rfl) dX5_make_17 rfl ?_
    obtain ⟨c2, h⟩ := ok_not h
    refine go_aald (pc := 20) (t := 3) (a := (89 + 9 * (V 0 10).toNatClampNeg)) (by decide) (show TC 2 = (3, 12) from rfl) (vin c2) (C_P (vlt c2)) dX5_make_20 ?_
    refine go_astore_n (pc := 21) (i := 3) dX5_make_21 rfl (Nat.le_of_ble_eq_true rfl) (L2 := [some (.ref 0), some (.int a1), some (.int a2), some (.ref (89 + 9 * (V 0 10).toNatClampNeg))]) rfl ?_
    refine go_aload_n (pc := 22) dX5_make_22 rfl rfl ?_
    refine go_iconst (pc := 23) (v := 3) dX5_make_23 ci_3 ?_
    refine go_iload_n (pc := 24) dX5_make_24 rfl rfl ?_
    obtain ⟨r3, e4, h⟩ := ok_bind h
    refine go_cV (pc := 25) (ci := 0) (As := [.int 3, .int a1]) (st := []) (E_X0_begin (isCall_of (vlt c2)) e4) rfl oX0_begin iX0_begin sX0_begin kX5_67 rfl (C_T (isCall_of (vlt c2))) rfl (Nat.le_of_ble_eq_true rfl) ⟨Nat.le_of_ble_eq_true rfl, Nat.le_of_ble_eq_true rfl⟩ ⟨rfl, rfl⟩ dX5_make_25 (st2 := []) rfl ?_
    refine go_aload_n (pc := 28) dX5_make_28 rfl rfl ?_
    refine go_iload_n (pc := 29) dX5_make_29 rfl rfl ?_
    refine go_putI (pc := 30) (k := 6) fX5_86 (Or.inl rfl) (Or.inl rfl) (C_T (isCall_of (vlt c2))) dX5_make_30 ?_
    refine go_aload_n (pc := 33) dX5_make_33 rfl rfl ?_
    refine go_getP (pc := 34) (a := 1) fX5_9 (by decide) (show TC 0 = (5 + 5, 13) from rfl) rfl dX5_make_34 ?_
    refine go_iconst (pc := 37) (v := 0) dX5_make_37 ci_0 ?_
    refine go_aload_n (pc := 38) dX5_make_38 rfl rfl ?_
    refine go_getP (pc := 39) (a := ((89 + 9 * (V 0 10).toNatClampNeg) + 1)) fX5_89 (by decide) (C_T (isCall_of (vlt c2))) (C_0 (isCall_of (vlt c2))) dX5_make_39 ?_
    refine go_iconst (pc := 42) (v := 0) dX5_make_42 ci_0 ?_
    refine go_bipush (pc := 43) (v := 10) dX5_make_43 cb_10 ?_
    refine go_copy (pc := 45) ⟨kX5_90, wAcp⟩ (show TC 1 = (0, 10) from rfl) (C_T0 (isCall_of (vlt c2))) (by decide) (by decide) (by decide) (by decide) (by decide) (Nat.le_of_ble_eq_true rfl) (by decide +kernel) dX5_make_45 ?_
    refine go_aload_n (pc := 48) dX5_make_48 rfl rfl ?_
    refine go_dup (pc := 49) dX5_make_49 ?_
    refine go_gI (pc := 50) (v := (wcp (wr r3 (89 + 9 * (V 0 10).toNatClampNeg) 6 a2) 1 ((89 + 9 * (V 0 10).toNatClampNeg) + 1) 0 0 10) 0 10) fX5_63 (by decide) (show TC 0 = (5 + 5, 13) from rfl) dX5_make_50 rfl ?_
    refine go_dup_x1 (pc := 53) dX5_make_53 ?_
    refine go_iconst (pc := 54) (v := 1) dX5_make_54 ci_1 ?_
    refine go_iadd (pc := 55) dX5_make_55 ?_
    refine go_putI (pc := 56) (k := 10) fX5_63 (Or.inl rfl) (Or.inl rfl) (show TC 0 = (5 + 5, 13) from rfl) dX5_make_56 ?_
    cases h
    exact go_iret (pc := 59) (Or.inl rfl) ⟨Nat.zero_le _, Nat.zero_le _⟩ dX5_make_59
  · replace h := ifn h c1
    refine go_bipush (pc := 9) (v := (-4)) dX5_make_9 cb_m4 ?_
    cases h
    exact go_iret (pc := 11) (Or.inl rfl) ⟨Nat.zero_le _, Nat.zero_le _⟩ dX5_make_11
def eX5_change (a1 : Int32) (a2 : Int32) (a3 : Int32) (a4 : Int32) (a5 : Int32) (V : Mm) : Option (Int32 × Mm) :=
  (eX5_putOfIds 4 a1 a2 a3 a4 a5 V).bind fun r1 =>
  some (r1.1, r1.2)
set_option maxHeartbeats 4000000 in
set_option maxRecDepth 100000 in
theorem E_X5_change {a1 : Int32} {a2 : Int32} {a3 : Int32} {a4 : Int32} {a5 : Int32} {V : Mm} {res : Int32 × Mm}  (h : eX5_change a1 a2 a3 a4 a5 V = some res) : Ev mX5_change [.ref 0, .int a1, .int a2, .int a3, .int a4, .int a5] (hC V) (some (.int res.1)) (hC res.2) := by
  refine Ev.of (n := 0) oX5_change.1 (Nat.le_of_ble_eq_true rfl) ?_
  unfold eX5_change at h
  show Go mX5_change 0 [some (.ref 0), some (.int a1), some (.int a2), some (.int a3), some (.int a4), some (.int a5)] [] (hC V) 0 0 (some (.int res.1)) (hC res.2)
  refine go_aload_n (pc := 0) dX5_change_0 rfl rfl ?_
  refine go_iconst (pc := 1) (v := 4) dX5_change_1 ci_4 ?_
  refine go_iload_n (pc := 2) dX5_change_2 rfl rfl ?_
  refine go_iload_n (pc := 3) dX5_change_3 rfl rfl ?_
  refine go_iload_n (pc := 4) dX5_change_4 rfl rfl ?_
  refine go_iload (pc := 5) dX5_change_5 rfl ?_
  refine go_iload (pc := 7) dX5_change_7 rfl ?_
  obtain ⟨r1, e2, h⟩ := ok_bind h
  refine go_cV (pc := 9) (ci := 5) (As := [.int 4, .int a1, .int a2, .int a3, .int a4, .int a5]) (st := []) (E_X5_putOfIds e2) rfl oX5_putOfIds iX5_putOfIds sX5_putOfIds kX5_59 rfl (show TC 0 = (5 + 5, 13) from rfl) rfl (Nat.le_of_ble_eq_true rfl) ⟨Nat.le_of_ble_eq_true rfl, Nat.le_of_ble_eq_true rfl⟩ ⟨rfl, rfl⟩ dX5_change_9 (st2 := [.int r1.1]) rfl ?_
  cases h
  exact go_iret (pc := 12) (Or.inl rfl) ⟨Nat.zero_le _, Nat.zero_le _⟩ dX5_change_12
def eX5_destroy (a1 : Int32) (a2 : Int32) (a3 : Int32) (V : Mm) : Option (Int32 × Mm) :=
  (eX5_putOfIds 5 a1 a2 a3 0 0 V).bind fun r1 =>
  some (r1.1, r1.2)
set_option maxHeartbeats 4000000 in
set_option maxRecDepth 100000 in
theorem E_X5_destroy {a1 : Int32} {a2 : Int32} {a3 : Int32} {V : Mm} {res : Int32 × Mm}  (h : eX5_destroy a1 a2 a3 V = some res) : Ev mX5_destroy [.ref 0, .int a1, .int a2, .int a3] (hC V) (some (.int res.1)) (hC res.2) := by
  refine Ev.of (n := 0) oX5_destroy.1 (Nat.le_of_ble_eq_true rfl) ?_
  unfold eX5_destroy at h
  show Go mX5_destroy 0 [some (.ref 0), some (.int a1), some (.int a2), some (.int a3)] [] (hC V) 0 0 (some (.int res.1)) (hC res.2)
  refine go_aload_n (pc := 0) dX5_destroy_0 rfl rfl ?_
  refine go_iconst (pc := 1) (v := 5) dX5_destroy_1 ci_5 ?_
  refine go_iload_n (pc := 2) dX5_destroy_2 rfl rfl ?_
  refine go_iload_n (pc := 3) dX5_destroy_3 rfl rfl ?_
  refine go_iload_n (pc := 4) dX5_destroy_4 rfl rfl ?_
  refine go_iconst (pc := 5) (v := 0) dX5_destroy_5 ci_0 ?_
  refine go_iconst (pc := 6) (v := 0) dX5_destroy_6 ci_0 ?_
  obtain ⟨r1, e2, h⟩ := ok_bind h
  refine go_cV (pc := 7) (ci := 5) (As := [.int 5, .int a1, .int a2, .int a3, .int 0, .int 0]) (st := []) (E_X5_putOfIds e2) rfl oX5_putOfIds iX5_putOfIds sX5_putOfIds kX5_59 rfl (show TC 0 = (5 + 5, 13) from rfl) rfl (Nat.le_of_ble_eq_true rfl) ⟨Nat.le_of_ble_eq_true rfl, Nat.le_of_ble_eq_true rfl⟩ ⟨rfl, rfl⟩ dX5_destroy_7 (st2 := [.int r1.1]) rfl ?_
  cases h
  exact go_iret (pc := 10) (Or.inl rfl) ⟨Nat.zero_le _, Nat.zero_le _⟩ dX5_destroy_10
def eX5_crash (a1 : Int32) (V : Mm) : Option (Int32 × Mm) :=
  if a1 < 0 then
    some ((-2), V)
  else
    if a1 ≤ 12 then
      some (1, (wr V 0 12 1))
    else
      some ((-2), V)
set_option maxHeartbeats 4000000 in
set_option maxRecDepth 100000 in
theorem E_X5_crash {a1 : Int32} {V : Mm} {res : Int32 × Mm}  (h : eX5_crash a1 V = some res) : Ev mX5_crash [.ref 0, .int a1] (hC V) (some (.int res.1)) (hC res.2) := by
  refine Ev.of (n := 0) oX5_crash.1 (Nat.le_of_ble_eq_true rfl) ?_
  unfold eX5_crash at h
  show Go mX5_crash 0 [some (.ref 0), some (.int a1)] [] (hC V) 0 0 (some (.int res.1)) (hC res.2)
  refine go_iload_n (pc := 0) dX5_crash_0 rfl rfl ?_
  refine go_if_lt (pc := 1) (tgt := 10) dX5_crash_1 rfl (fun c1 => ?_) (fun c1 => ?_)
  · replace h := ifp h c1
    refine go_bipush (pc := 10) (v := (-2)) dX5_crash_10 cb_m2 ?_
    cases h
    exact go_iret (pc := 12) (Or.inl rfl) ⟨Nat.zero_le _, Nat.zero_le _⟩ dX5_crash_12
  · replace h := ifn h c1
    refine go_iload_n (pc := 4) dX5_crash_4 rfl rfl ?_
    refine go_bipush (pc := 5) (v := 12) dX5_crash_5 cb_12 ?_
    refine go_icmp_le (pc := 7) (tgt := 13) dX5_crash_7 rfl (fun c2 => ?_) (fun c2 => ?_)
    · replace h := ifp h c2
      refine go_aload_n (pc := 13) dX5_crash_13 rfl rfl ?_
      refine go_iconst (pc := 14) (v := 1) dX5_crash_14 ci_1 ?_
      refine go_putI (pc := 15) (k := 12) fX5_96 (Or.inr ⟨rfl, Or.inr rfl⟩) (Or.inl rfl) (show TC 0 = (5 + 5, 13) from rfl) dX5_crash_15 ?_
      refine go_iconst (pc := 18) (v := 1) dX5_crash_18 ci_1 ?_
      cases h
      exact go_iret (pc := 19) (Or.inl rfl) ⟨Nat.zero_le _, Nat.zero_le _⟩ dX5_crash_19
    · replace h := ifn h c2
      refine go_bipush (pc := 10) (v := (-2)) dX5_crash_10 cb_m2 ?_
      cases h
      exact go_iret (pc := 12) (Or.inl rfl) ⟨Nat.zero_le _, Nat.zero_le _⟩ dX5_crash_12
def eX5_areIdsAsTold (a0 : Nat) (V : Mm) : Option (Int32) :=
  if (V a0 3) = (-1) then
    some 1
  else
    if (V a0 3) < 0 then
      some 0
    else
      (eX5_isWithin (V a0 4) 0 3 V).bind fun r3 =>
      if r3 = 0 then
        some 0
      else
        some 1
set_option maxHeartbeats 4000000 in
set_option maxRecDepth 100000 in
theorem E_X5_areIdsAsTold {a0 : Nat} {V : Mm} {res : Int32} (ha0 : isCall a0) (h : eX5_areIdsAsTold a0 V = some res) : Ev mX5_areIdsAsTold [.ref a0] (hC V) (some (.int res)) (hC V) := by
  refine Ev.of (n := 0) oX5_areIdsAsTold.1 (Nat.le_of_ble_eq_true rfl) ?_
  unfold eX5_areIdsAsTold at h
  show Go mX5_areIdsAsTold 0 [some (.ref a0)] [] (hC V) 0 0 (some (.int res)) (hC V)
  refine go_aload_n (pc := 0) dX5_areIdsAsTold_0 rfl rfl ?_
  refine go_gI (pc := 1) (v := V a0 3) fX5_185 (by decide) (C_T ha0) dX5_areIdsAsTold_1 rfl ?_
  refine go_iconst (pc := 4) (v := (-1)) dX5_areIdsAsTold_4 ci_m1 ?_
  refine go_icmp_eq (pc := 5) (tgt := 27) dX5_areIdsAsTold_5 rfl (fun c1 => ?_) (fun c1 => ?_)
  · replace h := ifp h c1
    refine go_iconst (pc := 27) (v := 1) dX5_areIdsAsTold_27 ci_1 ?_
    refine go_goto (pc := 28) (tgt := 32) dX5_areIdsAsTold_28 rfl ?_
    cases h
    exact go_iret (pc := 32) (Or.inr ⟨rfl, Or.inr rfl⟩) ⟨Nat.zero_le _, Nat.zero_le _⟩ dX5_areIdsAsTold_32
  · replace h := ifn h c1
    refine go_aload_n (pc := 8) dX5_areIdsAsTold_8 rfl rfl ?_
    refine go_gI (pc := 9) (v := V a0 3) fX5_185 (by decide) (C_T ha0) dX5_areIdsAsTold_9 rfl ?_
    refine go_if_lt (pc := 12) (tgt := 31) dX5_areIdsAsTold_12 rfl (fun c2 => ?_) (fun c2 => ?_)
    · replace h := ifp h c2
      refine go_iconst (pc := 31) (v := 0) dX5_areIdsAsTold_31 ci_0 ?_
      cases h
      exact go_iret (pc := 32) (Or.inr ⟨rfl, Or.inl rfl⟩) ⟨Nat.zero_le _, Nat.zero_le _⟩ dX5_areIdsAsTold_32
    · replace h := ifn h c2
      refine go_aload_n (pc := 15) dX5_areIdsAsTold_15 rfl rfl ?_
      refine go_gI (pc := 16) (v := V a0 4) fX5_188 (by decide) (C_T ha0) dX5_areIdsAsTold_16 rfl ?_
      refine go_iconst (pc := 19) (v := 0) dX5_areIdsAsTold_19 ci_0 ?_
      refine go_iconst (pc := 20) (v := 3) dX5_areIdsAsTold_20 ci_3 ?_
      obtain ⟨r3, e4, h⟩ := ok_bind h
      refine go_cS (pc := 21) (As := [.int (V a0 4), .int 0, .int 3]) (st := []) (E_X5_isWithin e4) rfl oX5_isWithin iX5_isWithin kX5_194 rfl (Nat.le_of_ble_eq_true rfl) ⟨Nat.le_of_ble_eq_true rfl, Nat.le_of_ble_eq_true rfl⟩ ⟨rfl, rfl⟩ dX5_areIdsAsTold_21 (st2 := [.int r3]) rfl ?_
      refine go_if_eq (pc := 24) (tgt := 31) dX5_areIdsAsTold_24 rfl (fun c5 => ?_) (fun c5 => ?_)
      · replace h := ifp h c5
        refine go_iconst (pc := 31) (v := 0) dX5_areIdsAsTold_31 ci_0 ?_
        cases h
        exact go_iret (pc := 32) (Or.inr ⟨rfl, Or.inl rfl⟩) ⟨Nat.zero_le _, Nat.zero_le _⟩ dX5_areIdsAsTold_32
      · replace h := ifn h c5
        refine go_iconst (pc := 27) (v := 1) dX5_areIdsAsTold_27 ci_1 ?_
        refine go_goto (pc := 28) (tgt := 32) dX5_areIdsAsTold_28 rfl ?_
        cases h
        exact go_iret (pc := 32) (Or.inr ⟨rfl, Or.inr rfl⟩) ⟨Nat.zero_le _, Nat.zero_le _⟩ dX5_areIdsAsTold_32
def eX5_isDraftedWithin (a0 : Nat) (a1 : Int32) (V : Mm) : Option (Int32) :=
  if a1 < 0 ∨ 10 ≤ a1.toNatClampNeg then none else
  if a1 < 0 ∨ 10 ≤ a1.toNatClampNeg then none else
  (eX5_isWithin (V (a0 + 1) a1.toNatClampNeg) 0 (topf a1.toNatClampNeg) V).bind fun r3 =>
  if r3 = 0 ∨ r3 = 1 then
    some r3
  else none
set_option maxHeartbeats 4000000 in
set_option maxRecDepth 100000 in
theorem E_X5_isDraftedWithin {a0 : Nat} {a1 : Int32} {V : Mm} {res : Int32} (ha0 : isCall a0) (h : eX5_isDraftedWithin a0 a1 V = some res) : Ev mX5_isDraftedWithin [.ref a0, .int a1] (hC V) (some (.int res)) (hC V) := by
  refine Ev.of (n := 0) oX5_isDraftedWithin.1 (Nat.le_of_ble_eq_true rfl) ?_
  unfold eX5_isDraftedWithin at h
  show Go mX5_isDraftedWithin 0 [some (.ref a0), some (.int a1)] [] (hC V) 0 0 (some (.int res)) (hC V)
  refine go_aload_n (pc := 0) dX5_isDraftedWithin_0 rfl rfl ?_
  refine go_getP (pc := 1) (a := (a0 + 1)) fX5_89 (by decide) (C_T ha0) (C_0 ha0) dX5_isDraftedWithin_1 ?_
  refine go_iload_n (pc := 4) dX5_isDraftedWithin_4 rfl rfl ?_
  obtain ⟨c1, h⟩ := ok_not h
  refine go_ia (pc := 5) (v := V (a0 + 1) a1.toNatClampNeg) (C_T0 ha0) (vin c1) dX5_isDraftedWithin_5 rfl ?_
  refine go_iconst (pc := 6) (v := 0) dX5_isDraftedWithin_6 ci_0 ?_
  obtain ⟨c2, h⟩ := ok_not h
  refine go_top (pc := 7) dX5_isDraftedWithin_7 dX5_isDraftedWithin_10 dX5_isDraftedWithin_11 rfl rfl c2 wTop ?_
  obtain ⟨r3, e4, h⟩ := ok_bind h
  refine go_cS (pc := 12) (As := [.int (V (a0 + 1) a1.toNatClampNeg), .int 0, .int (topf a1.toNatClampNeg)]) (st := []) (E_X5_isWithin e4) rfl oX5_isWithin iX5_isWithin kX5_194 rfl (Nat.le_of_ble_eq_true rfl) ⟨Nat.le_of_ble_eq_true rfl, Nat.le_of_ble_eq_true rfl⟩ ⟨rfl, rfl⟩ dX5_isDraftedWithin_12 (st2 := [.int r3]) rfl ?_
  obtain ⟨c5, h⟩ := ok_if h
  cases h
  exact go_iret (pc := 15) (Or.inr ⟨rfl, c5⟩) ⟨Nat.zero_le _, Nat.zero_le _⟩ dX5_isDraftedWithin_15
def eX5_isDraftAsTold_b45 : Nat → Nat → Int32 → Int32 → Mm → Option (Int32)
  | 0, _, _, _, _ => none
  | n + 1, l0, l1, l2, V => 
    if 10 ≤ l2 then
      if l1 = 0 ∨ l1 = 1 then
        some l1
      else none
    else
      if l1 = 0 then
        eX5_isDraftAsTold_b45 n l0 0 (l2 + 1) V
      else
        (eX5_isDraftedWithin l0 l2 V).bind fun r6 =>
        if r6 = 0 then
          eX5_isDraftAsTold_b45 n l0 0 (l2 + 1) V
        else
          eX5_isDraftAsTold_b45 n l0 1 (l2 + 1) V
set_option maxHeartbeats 4000000 in
set_option maxRecDepth 100000 in
theorem gX5_isDraftAsTold_b45 : ∀ (n : Nat) (l0 : Nat) (l1 : Int32) (l2 : Int32) (V : Mm) (res : Int32) (hl0 : isCall l0), eX5_isDraftAsTold_b45 n l0 l1 l2 V = some res → Go mX5_isDraftAsTold 45 [some (.ref l0), some (.int l1), some (.int l2)] [] (hC V) 0 0 (some (.int res)) (hC V) := by
  intro n
  induction n with
  | zero =>
    intro l0 l1 l2 V res hl0 h
    cases h
  | succ n ih =>
    intro l0 l1 l2 V res hl0 h
    rw [eX5_isDraftAsTold_b45] at h
    refine go_iload_n (pc := 45) dX5_isDraftAsTold_45 rfl rfl ?_
    refine go_bipush (pc := 46) (v := 10) dX5_isDraftAsTold_46 cb_10 ?_
    refine go_icmp_ge (pc := 48) (tgt := 75) dX5_isDraftAsTold_48 rfl (fun c3 => ?_) (fun c3 => ?_)
    · replace h := ifp h c3
      refine go_iload_n (pc := 75) dX5_isDraftAsTold_75 rfl rfl ?_
      obtain ⟨c4, h⟩ := ok_if h
      cases h
      exact go_iret (pc := 76) (Or.inr ⟨rfl, c4⟩) ⟨Nat.zero_le _, Nat.zero_le _⟩ dX5_isDraftAsTold_76
    · replace h := ifn h c3
      refine go_iload_n (pc := 51) dX5_isDraftAsTold_51 rfl rfl ?_
      refine go_if_eq (pc := 52) (tgt := 67) dX5_isDraftAsTold_52 rfl (fun c5 => ?_) (fun c5 => ?_)
      · replace h := ifp h c5
        refine go_iconst (pc := 67) (v := 0) dX5_isDraftAsTold_67 ci_0 ?_
        refine go_istore_n (pc := 68) (i := 1) dX5_isDraftAsTold_68 rfl (Nat.le_of_ble_eq_true rfl) (L2 := [some (.ref l0), some (.int 0), some (.int l2)]) rfl ?_
        refine go_iinc (pc := 69) (v := (l2 + 1)) dX5_isDraftAsTold_69 rfl (by rw [ci_1]) (Nat.le_of_ble_eq_true rfl) (L2 := [some (.ref l0), some (.int 0), some (.int (l2 + 1))]) rfl ?_
        refine go_goto (pc := 72) (tgt := 45) dX5_isDraftAsTold_72 rfl ?_
        exact ih _ _ _ _ _ hl0 h
      · replace h := ifn h c5
        refine go_aload_n (pc := 55) dX5_isDraftAsTold_55 rfl rfl ?_
        refine go_iload_n (pc := 56) dX5_isDraftAsTold_56 rfl rfl ?_
        obtain ⟨r6, e7, h⟩ := ok_bind h
        refine go_cS (pc := 57) (As := [.ref l0, .int l2]) (st := []) (E_X5_isDraftedWithin hl0 e7) rfl oX5_isDraftedWithin iX5_isDraftedWithin kX5_214 rfl (Nat.le_of_ble_eq_true rfl) ⟨Nat.le_of_ble_eq_true rfl, Nat.le_of_ble_eq_true rfl⟩ ⟨rfl, rfl⟩ dX5_isDraftAsTold_57 (st2 := [.int r6]) rfl ?_
        refine go_if_eq (pc := 60) (tgt := 67) dX5_isDraftAsTold_60 rfl (fun c8 => ?_) (fun c8 => ?_)
        · replace h := ifp h c8
          refine go_iconst (pc := 67) (v := 0) dX5_isDraftAsTold_67 ci_0 ?_
          refine go_istore_n (pc := 68) (i := 1) dX5_isDraftAsTold_68 rfl (Nat.le_of_ble_eq_true rfl) (L2 := [some (.ref l0), some (.int 0), some (.int l2)]) rfl ?_
          refine go_iinc (pc := 69) (v := (l2 + 1)) dX5_isDraftAsTold_69 rfl (by rw [ci_1]) (Nat.le_of_ble_eq_true rfl) (L2 := [some (.ref l0), some (.int 0), some (.int (l2 + 1))]) rfl ?_
          refine go_goto (pc := 72) (tgt := 45) dX5_isDraftAsTold_72 rfl ?_
          exact ih _ _ _ _ _ hl0 h
        · replace h := ifn h c8
          refine go_iconst (pc := 63) (v := 1) dX5_isDraftAsTold_63 ci_1 ?_
          refine go_goto (pc := 64) (tgt := 68) dX5_isDraftAsTold_64 rfl ?_
          refine go_istore_n (pc := 68) (i := 1) dX5_isDraftAsTold_68 rfl (Nat.le_of_ble_eq_true rfl) (L2 := [some (.ref l0), some (.int 1), some (.int l2)]) rfl ?_
          refine go_iinc (pc := 69) (v := (l2 + 1)) dX5_isDraftAsTold_69 rfl (by rw [ci_1]) (Nat.le_of_ble_eq_true rfl) (L2 := [some (.ref l0), some (.int 1), some (.int (l2 + 1))]) rfl ?_
          refine go_goto (pc := 72) (tgt := 45) dX5_isDraftAsTold_72 rfl ?_
          exact ih _ _ _ _ _ hl0 h
def eX5_isDraftAsTold (a0 : Nat) (V : Mm) : Option (Int32) :=
  if (V a0 2) = 0 then
    (eX5_isDraftedWithin a0 0 V).bind fun r9 =>
    if r9 = 0 then
      some 0
    else
      (eX5_isDraftedWithin a0 2 V).bind fun r12 =>
      if r12 = 0 then
        some 0
      else
        some 1
  else
    if (V a0 2) = 1 then
      eX5_isDraftAsTold_b45 fu a0 1 3 V
    else
      eX5_isDraftAsTold_b45 fu a0 0 3 V
set_option maxHeartbeats 4000000 in
set_option maxRecDepth 100000 in
theorem E_X5_isDraftAsTold {a0 : Nat} {V : Mm} {res : Int32} (ha0 : isCall a0) (h : eX5_isDraftAsTold a0 V = some res) : Ev mX5_isDraftAsTold [.ref a0] (hC V) (some (.int res)) (hC V) := by
  refine Ev.of (n := 2) oX5_isDraftAsTold.1 (Nat.le_of_ble_eq_true rfl) ?_
  unfold eX5_isDraftAsTold at h
  show Go mX5_isDraftAsTold 0 [some (.ref a0), none, none] [] (hC V) 0 0 (some (.int res)) (hC V)
  refine go_aload_n (pc := 0) dX5_isDraftAsTold_0 rfl rfl ?_
  refine go_gI (pc := 1) (v := V a0 2) fX5_201 (by decide) (C_T ha0) dX5_isDraftAsTold_1 rfl ?_
  refine go_if_ne (pc := 4) (tgt := 29) dX5_isDraftAsTold_4 rfl (fun c1 => ?_) (fun c1 => ?_)
  · replace h := ifn h c1
    refine go_aload_n (pc := 29) dX5_isDraftAsTold_29 rfl rfl ?_
    refine go_gI (pc := 30) (v := V a0 2) fX5_201 (by decide) (C_T ha0) dX5_isDraftAsTold_30 rfl ?_
    refine go_iconst (pc := 33) (v := 1) dX5_isDraftAsTold_33 ci_1 ?_
    refine go_icmp_ne (pc := 34) (tgt := 41) dX5_isDraftAsTold_34 rfl (fun c2 => ?_) (fun c2 => ?_)
    · replace h := ifn h c2
      refine go_iconst (pc := 41) (v := 0) dX5_isDraftAsTold_41 ci_0 ?_
      refine go_istore_n (pc := 42) (i := 1) dX5_isDraftAsTold_42 rfl (Nat.le_of_ble_eq_true rfl) (L2 := [some (.ref a0), some (.int 0), none]) rfl ?_
      refine go_iconst (pc := 43) (v := 3) dX5_isDraftAsTold_43 ci_3 ?_
      refine go_istore_n (pc := 44) (i := 2) dX5_isDraftAsTold_44 rfl (Nat.le_of_ble_eq_true rfl) (L2 := [some (.ref a0), some (.int 0), some (.int 3)]) rfl ?_
      exact gX5_isDraftAsTold_b45 _ _ _ _ _ _ ha0 h
    · replace h := ifp h c2
      refine go_iconst (pc := 37) (v := 1) dX5_isDraftAsTold_37 ci_1 ?_
      refine go_goto (pc := 38) (tgt := 42) dX5_isDraftAsTold_38 rfl ?_
      refine go_istore_n (pc := 42) (i := 1) dX5_isDraftAsTold_42 rfl (Nat.le_of_ble_eq_true rfl) (L2 := [some (.ref a0), some (.int 1), none]) rfl ?_
      refine go_iconst (pc := 43) (v := 3) dX5_isDraftAsTold_43 ci_3 ?_
      refine go_istore_n (pc := 44) (i := 2) dX5_isDraftAsTold_44 rfl (Nat.le_of_ble_eq_true rfl) (L2 := [some (.ref a0), some (.int 1), some (.int 3)]) rfl ?_
      exact gX5_isDraftAsTold_b45 _ _ _ _ _ _ ha0 h
  · replace h := ifp h c1
    refine go_aload_n (pc := 7) dX5_isDraftAsTold_7 rfl rfl ?_
    refine go_iconst (pc := 8) (v := 0) dX5_isDraftAsTold_8 ci_0 ?_
    obtain ⟨r9, e10, h⟩ := ok_bind h
    refine go_cS (pc := 9) (As := [.ref a0, .int 0]) (st := []) (E_X5_isDraftedWithin ha0 e10) rfl oX5_isDraftedWithin iX5_isDraftedWithin kX5_214 rfl (Nat.le_of_ble_eq_true rfl) ⟨Nat.le_of_ble_eq_true rfl, Nat.le_of_ble_eq_true rfl⟩ ⟨rfl, rfl⟩ dX5_isDraftAsTold_9 (st2 := [.int r9]) rfl ?_
    refine go_if_eq (pc := 12) (tgt := 27) dX5_isDraftAsTold_12 rfl (fun c11 => ?_) (fun c11 => ?_)
    · replace h := ifp h c11
      refine go_iconst (pc := 27) (v := 0) dX5_isDraftAsTold_27 ci_0 ?_
      cases h
      exact go_iret (pc := 28) (Or.inr ⟨rfl, Or.inl rfl⟩) ⟨Nat.zero_le _, Nat.zero_le _⟩ dX5_isDraftAsTold_28
    · replace h := ifn h c11
      refine go_aload_n (pc := 15) dX5_isDraftAsTold_15 rfl rfl ?_
      refine go_iconst (pc := 16) (v := 2) dX5_isDraftAsTold_16 ci_2 ?_
      obtain ⟨r12, e13, h⟩ := ok_bind h
      refine go_cS (pc := 17) (As := [.ref a0, .int 2]) (st := []) (E_X5_isDraftedWithin ha0 e13) rfl oX5_isDraftedWithin iX5_isDraftedWithin kX5_214 rfl (Nat.le_of_ble_eq_true rfl) ⟨Nat.le_of_ble_eq_true rfl, Nat.le_of_ble_eq_true rfl⟩ ⟨rfl, rfl⟩ dX5_isDraftAsTold_17 (st2 := [.int r12]) rfl ?_
      refine go_if_eq (pc := 20) (tgt := 27) dX5_isDraftAsTold_20 rfl (fun c14 => ?_) (fun c14 => ?_)
      · replace h := ifp h c14
        refine go_iconst (pc := 27) (v := 0) dX5_isDraftAsTold_27 ci_0 ?_
        cases h
        exact go_iret (pc := 28) (Or.inr ⟨rfl, Or.inl rfl⟩) ⟨Nat.zero_le _, Nat.zero_le _⟩ dX5_isDraftAsTold_28
      · replace h := ifn h c14
        refine go_iconst (pc := 23) (v := 1) dX5_isDraftAsTold_23 ci_1 ?_
        refine go_goto (pc := 24) (tgt := 28) dX5_isDraftAsTold_24 rfl ?_
        cases h
        exact go_iret (pc := 28) (Or.inr ⟨rfl, Or.inr rfl⟩) ⟨Nat.zero_le _, Nat.zero_le _⟩ dX5_isDraftAsTold_28
def eX5_tellsOneByV (a0 : Nat) (V : Mm) : Option (Int32) :=
  if (V a0 2) = 0 then
    if (V a0 5) = 1 then
      some 1
    else
      some 0
  else
    if (V a0 5) = 0 then
      some 0
    else
      some 1
set_option maxHeartbeats 4000000 in
set_option maxRecDepth 100000 in
theorem E_X5_tellsOneByV {a0 : Nat} {V : Mm} {res : Int32} (ha0 : isCall a0) (h : eX5_tellsOneByV a0 V = some res) : Ev mX5_tellsOneByV [.ref a0] (hC V) (some (.int res)) (hC V) := by
  refine Ev.of (n := 0) oX5_tellsOneByV.1 (Nat.le_of_ble_eq_true rfl) ?_
  unfold eX5_tellsOneByV at h
  show Go mX5_tellsOneByV 0 [some (.ref a0)] [] (hC V) 0 0 (some (.int res)) (hC V)
  refine go_aload_n (pc := 0) dX5_tellsOneByV_0 rfl rfl ?_
  refine go_gI (pc := 1) (v := V a0 2) fX5_201 (by decide) (C_T ha0) dX5_tellsOneByV_1 rfl ?_
  refine go_if_ne (pc := 4) (tgt := 23) dX5_tellsOneByV_4 rfl (fun c1 => ?_) (fun c1 => ?_)
  · replace h := ifn h c1
    refine go_aload_n (pc := 23) dX5_tellsOneByV_23 rfl rfl ?_
    refine go_gI (pc := 24) (v := V a0 5) fX5_191 (by decide) (C_T ha0) dX5_tellsOneByV_24 rfl ?_
    refine go_if_eq (pc := 27) (tgt := 34) dX5_tellsOneByV_27 rfl (fun c2 => ?_) (fun c2 => ?_)
    · replace h := ifp h c2
      refine go_iconst (pc := 34) (v := 0) dX5_tellsOneByV_34 ci_0 ?_
      cases h
      exact go_iret (pc := 35) (Or.inr ⟨rfl, Or.inl rfl⟩) ⟨Nat.zero_le _, Nat.zero_le _⟩ dX5_tellsOneByV_35
    · replace h := ifn h c2
      refine go_iconst (pc := 30) (v := 1) dX5_tellsOneByV_30 ci_1 ?_
      refine go_goto (pc := 31) (tgt := 35) dX5_tellsOneByV_31 rfl ?_
      cases h
      exact go_iret (pc := 35) (Or.inr ⟨rfl, Or.inr rfl⟩) ⟨Nat.zero_le _, Nat.zero_le _⟩ dX5_tellsOneByV_35
  · replace h := ifp h c1
    refine go_aload_n (pc := 7) dX5_tellsOneByV_7 rfl rfl ?_
    refine go_gI (pc := 8) (v := V a0 5) fX5_191 (by decide) (C_T ha0) dX5_tellsOneByV_8 rfl ?_
    refine go_iconst (pc := 11) (v := 1) dX5_tellsOneByV_11 ci_1 ?_
    refine go_icmp_ne (pc := 12) (tgt := 19) dX5_tellsOneByV_12 rfl (fun c3 => ?_) (fun c3 => ?_)
    · replace h := ifn h c3
      refine go_iconst (pc := 19) (v := 0) dX5_tellsOneByV_19 ci_0 ?_
      refine go_goto (pc := 20) (tgt := 35) dX5_tellsOneByV_20 rfl ?_
      cases h
      exact go_iret (pc := 35) (Or.inr ⟨rfl, Or.inl rfl⟩) ⟨Nat.zero_le _, Nat.zero_le _⟩ dX5_tellsOneByV_35
    · replace h := ifp h c3
      refine go_iconst (pc := 15) (v := 1) dX5_tellsOneByV_15 ci_1 ?_
      refine go_goto (pc := 16) (tgt := 35) dX5_tellsOneByV_16 rfl ?_
      cases h
      exact go_iret (pc := 35) (Or.inr ⟨rfl, Or.inr rfl⟩) ⟨Nat.zero_le _, Nat.zero_le _⟩ dX5_tellsOneByV_35
def eX5_isChangeAsTold (a0 : Nat) (V : Mm) : Option (Int32) :=
  (eX5_isWithin (V a0 2) 0 1 V).bind fun r1 =>
  if r1 = 0 then
    some 0
  else
    (eX5_isWithin (V a0 5) 0 2 V).bind fun r4 =>
    if r4 = 0 then
      some 0
    else
      (eX5_tellsOneByV a0 V).bind fun r7 =>
      if r7 = 0 then
        if (V a0 2) = 1 then
          (eX5_isWithin (V a0 6) 0 15 V).bind fun r18 =>
          if r18 = 0 ∨ r18 = 1 then
            some r18
          else none
        else
          if (V a0 5) = 0 then
            (eX5_isWithin (V a0 6) 0 99 V).bind fun r15 =>
            if r15 = 0 ∨ r15 = 1 then
              some r15
            else none
          else
            (eX5_isWithin (V a0 6) 0 9 V).bind fun r12 =>
            if r12 = 0 ∨ r12 = 1 then
              some r12
            else none
      else
        some 1
set_option maxHeartbeats 4000000 in
set_option maxRecDepth 100000 in
theorem E_X5_isChangeAsTold {a0 : Nat} {V : Mm} {res : Int32} (ha0 : isCall a0) (h : eX5_isChangeAsTold a0 V = some res) : Ev mX5_isChangeAsTold [.ref a0] (hC V) (some (.int res)) (hC V) := by
  refine Ev.of (n := 1) oX5_isChangeAsTold.1 (Nat.le_of_ble_eq_true rfl) ?_
  unfold eX5_isChangeAsTold at h
  show Go mX5_isChangeAsTold 0 [some (.ref a0), none] [] (hC V) 0 0 (some (.int res)) (hC V)
  refine go_aload_n (pc := 0) dX5_isChangeAsTold_0 rfl rfl ?_
  refine go_gI (pc := 1) (v := V a0 2) fX5_201 (by decide) (C_T ha0) dX5_isChangeAsTold_1 rfl ?_
  refine go_iconst (pc := 4) (v := 0) dX5_isChangeAsTold_4 ci_0 ?_
  refine go_iconst (pc := 5) (v := 1) dX5_isChangeAsTold_5 ci_1 ?_
  obtain ⟨r1, e2, h⟩ := ok_bind h
  refine go_cS (pc := 6) (As := [.int (V a0 2), .int 0, .int 1]) (st := []) (E_X5_isWithin e2) rfl oX5_isWithin iX5_isWithin kX5_194 rfl (Nat.le_of_ble_eq_true rfl) ⟨Nat.le_of_ble_eq_true rfl, Nat.le_of_ble_eq_true rfl⟩ ⟨rfl, rfl⟩ dX5_isChangeAsTold_6 (st2 := [.int r1]) rfl ?_
  refine go_if_eq (pc := 9) (tgt := 24) dX5_isChangeAsTold_9 rfl (fun c3 => ?_) (fun c3 => ?_)
  · replace h := ifp h c3
    refine go_iconst (pc := 24) (v := 0) dX5_isChangeAsTold_24 ci_0 ?_
    cases h
    exact go_iret (pc := 25) (Or.inr ⟨rfl, Or.inl rfl⟩) ⟨Nat.zero_le _, Nat.zero_le _⟩ dX5_isChangeAsTold_25
  · replace h := ifn h c3
    refine go_aload_n (pc := 12) dX5_isChangeAsTold_12 rfl rfl ?_
    refine go_gI (pc := 13) (v := V a0 5) fX5_191 (by decide) (C_T ha0) dX5_isChangeAsTold_13 rfl ?_
    refine go_iconst (pc := 16) (v := 0) dX5_isChangeAsTold_16 ci_0 ?_
    refine go_iconst (pc := 17) (v := 2) dX5_isChangeAsTold_17 ci_2 ?_
    obtain ⟨r4, e5, h⟩ := ok_bind h
    refine go_cS (pc := 18) (As := [.int (V a0 5), .int 0, .int 2]) (st := []) (E_X5_isWithin e5) rfl oX5_isWithin iX5_isWithin kX5_194 rfl (Nat.le_of_ble_eq_true rfl) ⟨Nat.le_of_ble_eq_true rfl, Nat.le_of_ble_eq_true rfl⟩ ⟨rfl, rfl⟩ dX5_isChangeAsTold_18 (st2 := [.int r4]) rfl ?_
    refine go_if_ne (pc := 21) (tgt := 26) dX5_isChangeAsTold_21 rfl (fun c6 => ?_) (fun c6 => ?_)
    · replace h := ifn h c6
      refine go_aload_n (pc := 26) dX5_isChangeAsTold_26 rfl rfl ?_
      obtain ⟨r7, e8, h⟩ := ok_bind h
      refine go_cS (pc := 27) (As := [.ref a0]) (st := []) (E_X5_tellsOneByV ha0 e8) rfl oX5_tellsOneByV iX5_tellsOneByV kX5_221 rfl (Nat.le_of_ble_eq_true rfl) ⟨Nat.le_of_ble_eq_true rfl, Nat.le_of_ble_eq_true rfl⟩ ⟨rfl, rfl⟩ dX5_isChangeAsTold_27 (st2 := [.int r7]) rfl ?_
      refine go_if_eq (pc := 30) (tgt := 35) dX5_isChangeAsTold_30 rfl (fun c9 => ?_) (fun c9 => ?_)
      · replace h := ifp h c9
        refine go_aload_n (pc := 35) dX5_isChangeAsTold_35 rfl rfl ?_
        refine go_gI (pc := 36) (v := V a0 2) fX5_201 (by decide) (C_T ha0) dX5_isChangeAsTold_36 rfl ?_
        refine go_iconst (pc := 39) (v := 1) dX5_isChangeAsTold_39 ci_1 ?_
        refine go_icmp_ne (pc := 40) (tgt := 48) dX5_isChangeAsTold_40 rfl (fun c10 => ?_) (fun c10 => ?_)
        · replace h := ifn h c10
          refine go_aload_n (pc := 48) dX5_isChangeAsTold_48 rfl rfl ?_
          refine go_gI (pc := 49) (v := V a0 5) fX5_191 (by decide) (C_T ha0) dX5_isChangeAsTold_49 rfl ?_
          refine go_if_ne (pc := 52) (tgt := 60) dX5_isChangeAsTold_52 rfl (fun c11 => ?_) (fun c11 => ?_)
          · replace h := ifn h c11
            refine go_bipush (pc := 60) (v := 9) dX5_isChangeAsTold_60 cb_9 ?_
            refine go_istore_n (pc := 62) (i := 1) dX5_isChangeAsTold_62 rfl (Nat.le_of_ble_eq_true rfl) (L2 := [some (.ref a0), some (.int 9)]) rfl ?_
            refine go_aload_n (pc := 63) dX5_isChangeAsTold_63 rfl rfl ?_
            refine go_gI (pc := 64) (v := V a0 6) fX5_86 (by decide) (C_T ha0) dX5_isChangeAsTold_64 rfl ?_
            refine go_iconst (pc := 67) (v := 0) dX5_isChangeAsTold_67 ci_0 ?_
            refine go_iload_n (pc := 68) dX5_isChangeAsTold_68 rfl rfl ?_
            obtain ⟨r12, e13, h⟩ := ok_bind h
            refine go_cS (pc := 69) (As := [.int (V a0 6), .int 0, .int 9]) (st := []) (E_X5_isWithin e13) rfl oX5_isWithin iX5_isWithin kX5_194 rfl (Nat.le_of_ble_eq_true rfl) ⟨Nat.le_of_ble_eq_true rfl, Nat.le_of_ble_eq_true rfl⟩ ⟨rfl, rfl⟩ dX5_isChangeAsTold_69 (st2 := [.int r12]) rfl ?_
            obtain ⟨c14, h⟩ := ok_if h
            cases h
            exact go_iret (pc := 72) (Or.inr ⟨rfl, c14⟩) ⟨Nat.zero_le _, Nat.zero_le _⟩ dX5_isChangeAsTold_72
          · replace h := ifp h c11
            refine go_bipush (pc := 55) (v := 99) dX5_isChangeAsTold_55 cb_99 ?_
            refine go_goto (pc := 57) (tgt := 62) dX5_isChangeAsTold_57 rfl ?_
            refine go_istore_n (pc := 62) (i := 1) dX5_isChangeAsTold_62 rfl (Nat.le_of_ble_eq_true rfl) (L2 := [some (.ref a0), some (.int 99)]) rfl ?_
            refine go_aload_n (pc := 63) dX5_isChangeAsTold_63 rfl rfl ?_
            refine go_gI (pc := 64) (v := V a0 6) fX5_86 (by decide) (C_T ha0) dX5_isChangeAsTold_64 rfl ?_
            refine go_iconst (pc := 67) (v := 0) dX5_isChangeAsTold_67 ci_0 ?_
            refine go_iload_n (pc := 68) dX5_isChangeAsTold_68 rfl rfl ?_
            obtain ⟨r15, e16, h⟩ := ok_bind h
            refine go_cS (pc := 69) (As := [.int (V a0 6), .int 0, .int 99]) (st := []) (E_X5_isWithin e16) rfl oX5_isWithin iX5_isWithin kX5_194 rfl (Nat.le_of_ble_eq_true rfl) ⟨Nat.le_of_ble_eq_true rfl, Nat.le_of_ble_eq_true rfl⟩ ⟨rfl, rfl⟩ dX5_isChangeAsTold_69 (st2 := [.int r15]) rfl ?_
            obtain ⟨c17, h⟩ := ok_if h
            cases h
            exact go_iret (pc := 72) (Or.inr ⟨rfl, c17⟩) ⟨Nat.zero_le _, Nat.zero_le _⟩ dX5_isChangeAsTold_72
        · replace h := ifp h c10
          refine go_bipush (pc := 43) (v := 15) dX5_isChangeAsTold_43 cb_15 ?_
          refine go_goto (pc := 45) (tgt := 62) dX5_isChangeAsTold_45 rfl ?_
          refine go_istore_n (pc := 62) (i := 1) dX5_isChangeAsTold_62 rfl (Nat.le_of_ble_eq_true rfl) (L2 := [some (.ref a0), some (.int 15)]) rfl ?_
          refine go_aload_n (pc := 63) dX5_isChangeAsTold_63 rfl rfl ?_
          refine go_gI (pc := 64) (v := V a0 6) fX5_86 (by decide) (C_T ha0) dX5_isChangeAsTold_64 rfl ?_
          refine go_iconst (pc := 67) (v := 0) dX5_isChangeAsTold_67 ci_0 ?_
          refine go_iload_n (pc := 68) dX5_isChangeAsTold_68 rfl rfl ?_
          obtain ⟨r18, e19, h⟩ := ok_bind h
          refine go_cS (pc := 69) (As := [.int (V a0 6), .int 0, .int 15]) (st := []) (E_X5_isWithin e19) rfl oX5_isWithin iX5_isWithin kX5_194 rfl (Nat.le_of_ble_eq_true rfl) ⟨Nat.le_of_ble_eq_true rfl, Nat.le_of_ble_eq_true rfl⟩ ⟨rfl, rfl⟩ dX5_isChangeAsTold_69 (st2 := [.int r18]) rfl ?_
          obtain ⟨c20, h⟩ := ok_if h
          cases h
          exact go_iret (pc := 72) (Or.inr ⟨rfl, c20⟩) ⟨Nat.zero_le _, Nat.zero_le _⟩ dX5_isChangeAsTold_72
      · replace h := ifn h c9
        refine go_iconst (pc := 33) (v := 1) dX5_isChangeAsTold_33 ci_1 ?_
        cases h
        exact go_iret (pc := 34) (Or.inr ⟨rfl, Or.inr rfl⟩) ⟨Nat.zero_le _, Nat.zero_le _⟩ dX5_isChangeAsTold_34
    · replace h := ifp h c6
      refine go_iconst (pc := 24) (v := 0) dX5_isChangeAsTold_24 ci_0 ?_
      cases h
      exact go_iret (pc := 25) (Or.inr ⟨rfl, Or.inl rfl⟩) ⟨Nat.zero_le _, Nat.zero_le _⟩ dX5_isChangeAsTold_25
def eX5_isAsTold (a0 : Nat) (V : Mm) : Option (Int32) :=
  if (V a0 1) = 0 then
    (eX5_isKind (V a0 2) V).bind fun r8 =>
    if r8 = 0 then
      some 0
    else
      (eX5_areIdsAsTold a0 V).bind fun r11 =>
      if r11 = 0 then
        some 0
      else
        some 1
  else
  if (V a0 1) = 1 then
    if (V a0 7) < (-1) then
      some 0
    else
      (eX5_isWithin (V a0 8) 0 7 V).bind fun r16 =>
      if r16 = 0 then
        some 0
      else
        (eX5_isWithin (V a0 9) 0 99 V).bind fun r19 =>
        if r19 = 0 then
          some 0
        else
          (eX5_isWithin (V a0 10) 0 99 V).bind fun r22 =>
          if r22 = 0 then
            some 0
          else
            some 1
  else
  if (V a0 1) = 2 then
    (eX5_isKind (V a0 2) V).bind fun r26 =>
    if r26 = 0 then
      some 0
    else
      if (V a0 11) < 0 then
        some 0
      else
        (eX5_isWithin (V a0 10) 1 99 V).bind fun r30 =>
        if r30 = 0 then
          some 0
        else
          some 1
  else
  if (V a0 1) = 3 then
    (eX5_isDraftAsTold a0 V).bind fun r34 =>
    if r34 = 0 ∨ r34 = 1 then
      some r34
    else none
  else
  if (V a0 1) = 4 then
    (eX5_areIdsAsTold a0 V).bind fun r38 =>
    if r38 = 0 then
      some 0
    else
      (eX5_isChangeAsTold a0 V).bind fun r41 =>
      if r41 = 0 then
        some 0
      else
        some 1
  else
  (eX5_isWithin (V a0 2) 0 1 V).bind fun r1 =>
  if r1 = 0 then
    some 0
  else
    (eX5_areIdsAsTold a0 V).bind fun r4 =>
    if r4 = 0 then
      some 0
    else
      some 1
set_option maxHeartbeats 4000000 in
set_option maxRecDepth 100000 in
theorem E_X5_isAsTold {a0 : Nat} {V : Mm} {res : Int32} (ha0 : isCall a0) (h : eX5_isAsTold a0 V = some res) : Ev mX5_isAsTold [.ref a0] (hC V) (some (.int res)) (hC V) := by
  refine Ev.of (n := 0) oX5_isAsTold.1 (Nat.le_of_ble_eq_true rfl) ?_
  unfold eX5_isAsTold at h
  show Go mX5_isAsTold 0 [some (.ref a0)] [] (hC V) 0 0 (some (.int res)) (hC V)
  refine go_aload_n (pc := 0) dX5_isAsTold_0 rfl rfl ?_
  refine go_gI (pc := 1) (v := V a0 1) fX5_198 (by decide) (C_T ha0) dX5_isAsTold_1 rfl ?_
  by_cases c7 : (V a0 1) = 0
  · replace h := ifp h c7
    refine go_tabIn (pc := 4) (tgt := 40) dX5_isAsTold_4 (by rw [c7]; decide) (by rw [c7]; decide) (off := 36) (by rw [c7]; rfl) rfl ?_
    refine go_aload_n (pc := 40) dX5_isAsTold_40 rfl rfl ?_
    refine go_gI (pc := 41) (v := V a0 2) fX5_201 (by decide) (C_T ha0) dX5_isAsTold_41 rfl ?_
    obtain ⟨r8, e9, h⟩ := ok_bind h
    refine go_cS (pc := 44) (As := [.int (V a0 2)]) (st := []) (E_X5_isKind e9) rfl oX5_isKind iX5_isKind kX5_128 rfl (Nat.le_of_ble_eq_true rfl) ⟨Nat.le_of_ble_eq_true rfl, Nat.le_of_ble_eq_true rfl⟩ ⟨rfl, rfl⟩ dX5_isAsTold_44 (st2 := [.int r8]) rfl ?_
    refine go_if_eq (pc := 47) (tgt := 61) dX5_isAsTold_47 rfl (fun c10 => ?_) (fun c10 => ?_)
    · replace h := ifp h c10
      refine go_iconst (pc := 61) (v := 0) dX5_isAsTold_61 ci_0 ?_
      cases h
      exact go_iret (pc := 62) (Or.inr ⟨rfl, Or.inl rfl⟩) ⟨Nat.zero_le _, Nat.zero_le _⟩ dX5_isAsTold_62
    · replace h := ifn h c10
      refine go_aload_n (pc := 50) dX5_isAsTold_50 rfl rfl ?_
      obtain ⟨r11, e12, h⟩ := ok_bind h
      refine go_cS (pc := 51) (As := [.ref a0]) (st := []) (E_X5_areIdsAsTold ha0 e12) rfl oX5_areIdsAsTold iX5_areIdsAsTold kX5_204 rfl (Nat.le_of_ble_eq_true rfl) ⟨Nat.le_of_ble_eq_true rfl, Nat.le_of_ble_eq_true rfl⟩ ⟨rfl, rfl⟩ dX5_isAsTold_51 (st2 := [.int r11]) rfl ?_
      refine go_if_eq (pc := 54) (tgt := 61) dX5_isAsTold_54 rfl (fun c13 => ?_) (fun c13 => ?_)
      · replace h := ifp h c13
        refine go_iconst (pc := 61) (v := 0) dX5_isAsTold_61 ci_0 ?_
        cases h
        exact go_iret (pc := 62) (Or.inr ⟨rfl, Or.inl rfl⟩) ⟨Nat.zero_le _, Nat.zero_le _⟩ dX5_isAsTold_62
      · replace h := ifn h c13
        refine go_iconst (pc := 57) (v := 1) dX5_isAsTold_57 ci_1 ?_
        refine go_goto (pc := 58) (tgt := 62) dX5_isAsTold_58 rfl ?_
        cases h
        exact go_iret (pc := 62) (Or.inr ⟨rfl, Or.inr rfl⟩) ⟨Nat.zero_le _, Nat.zero_le _⟩ dX5_isAsTold_62
  replace h := ifn h c7
  by_cases c14 : (V a0 1) = 1
  · replace h := ifp h c14
    refine go_tabIn (pc := 4) (tgt := 63) dX5_isAsTold_4 (by rw [c14]; decide) (by rw [c14]; decide) (off := 59) (by rw [c14]; rfl) rfl ?_
    refine go_aload_n (pc := 63) dX5_isAsTold_63 rfl rfl ?_
    refine go_gI (pc := 64) (v := V a0 7) fX5_71 (by decide) (C_T ha0) dX5_isAsTold_64 rfl ?_
    refine go_iconst (pc := 67) (v := (-1)) dX5_isAsTold_67 ci_m1 ?_
    refine go_icmp_lt (pc := 68) (tgt := 114) dX5_isAsTold_68 rfl (fun c15 => ?_) (fun c15 => ?_)
    · replace h := ifp h c15
      refine go_iconst (pc := 114) (v := 0) dX5_isAsTold_114 ci_0 ?_
      cases h
      exact go_iret (pc := 115) (Or.inr ⟨rfl, Or.inl rfl⟩) ⟨Nat.zero_le _, Nat.zero_le _⟩ dX5_isAsTold_115
    · replace h := ifn h c15
      refine go_aload_n (pc := 71) dX5_isAsTold_71 rfl rfl ?_
      refine go_gI (pc := 72) (v := V a0 8) fX5_74 (by decide) (C_T ha0) dX5_isAsTold_72 rfl ?_
      refine go_iconst (pc := 75) (v := 0) dX5_isAsTold_75 ci_0 ?_
      refine go_bipush (pc := 76) (v := 7) dX5_isAsTold_76 cb_7 ?_
      obtain ⟨r16, e17, h⟩ := ok_bind h
      refine go_cS (pc := 78) (As := [.int (V a0 8), .int 0, .int 7]) (st := []) (E_X5_isWithin e17) rfl oX5_isWithin iX5_isWithin kX5_194 rfl (Nat.le_of_ble_eq_true rfl) ⟨Nat.le_of_ble_eq_true rfl, Nat.le_of_ble_eq_true rfl⟩ ⟨rfl, rfl⟩ dX5_isAsTold_78 (st2 := [.int r16]) rfl ?_
      refine go_if_eq (pc := 81) (tgt := 114) dX5_isAsTold_81 rfl (fun c18 => ?_) (fun c18 => ?_)
      · replace h := ifp h c18
        refine go_iconst (pc := 114) (v := 0) dX5_isAsTold_114 ci_0 ?_
        cases h
        exact go_iret (pc := 115) (Or.inr ⟨rfl, Or.inl rfl⟩) ⟨Nat.zero_le _, Nat.zero_le _⟩ dX5_isAsTold_115
      · replace h := ifn h c18
        refine go_aload_n (pc := 84) dX5_isAsTold_84 rfl rfl ?_
        refine go_gI (pc := 85) (v := V a0 9) fX5_77 (by decide) (C_T ha0) dX5_isAsTold_85 rfl ?_
        refine go_iconst (pc := 88) (v := 0) dX5_isAsTold_88 ci_0 ?_
        refine go_bipush (pc := 89) (v := 99) dX5_isAsTold_89 cb_99 ?_
        obtain ⟨r19, e20, h⟩ := ok_bind h
        refine go_cS (pc := 91) (As := [.int (V a0 9), .int 0, .int 99]) (st := []) (E_X5_isWithin e20) rfl oX5_isWithin iX5_isWithin kX5_194 rfl (Nat.le_of_ble_eq_true rfl) ⟨Nat.le_of_ble_eq_true rfl, Nat.le_of_ble_eq_true rfl⟩ ⟨rfl, rfl⟩ dX5_isAsTold_91 (st2 := [.int r19]) rfl ?_
        refine go_if_eq (pc := 94) (tgt := 114) dX5_isAsTold_94 rfl (fun c21 => ?_) (fun c21 => ?_)
        · replace h := ifp h c21
          refine go_iconst (pc := 114) (v := 0) dX5_isAsTold_114 ci_0 ?_
          cases h
          exact go_iret (pc := 115) (Or.inr ⟨rfl, Or.inl rfl⟩) ⟨Nat.zero_le _, Nat.zero_le _⟩ dX5_isAsTold_115
        · replace h := ifn h c21
          refine go_aload_n (pc := 97) dX5_isAsTold_97 rfl rfl ?_
          refine go_gI (pc := 98) (v := V a0 10) fX5_80 (by decide) (C_T ha0) dX5_isAsTold_98 rfl ?_
          refine go_iconst (pc := 101) (v := 0) dX5_isAsTold_101 ci_0 ?_
          refine go_bipush (pc := 102) (v := 99) dX5_isAsTold_102 cb_99 ?_
          obtain ⟨r22, e23, h⟩ := ok_bind h
          refine go_cS (pc := 104) (As := [.int (V a0 10), .int 0, .int 99]) (st := []) (E_X5_isWithin e23) rfl oX5_isWithin iX5_isWithin kX5_194 rfl (Nat.le_of_ble_eq_true rfl) ⟨Nat.le_of_ble_eq_true rfl, Nat.le_of_ble_eq_true rfl⟩ ⟨rfl, rfl⟩ dX5_isAsTold_104 (st2 := [.int r22]) rfl ?_
          refine go_if_eq (pc := 107) (tgt := 114) dX5_isAsTold_107 rfl (fun c24 => ?_) (fun c24 => ?_)
          · replace h := ifp h c24
            refine go_iconst (pc := 114) (v := 0) dX5_isAsTold_114 ci_0 ?_
            cases h
            exact go_iret (pc := 115) (Or.inr ⟨rfl, Or.inl rfl⟩) ⟨Nat.zero_le _, Nat.zero_le _⟩ dX5_isAsTold_115
          · replace h := ifn h c24
            refine go_iconst (pc := 110) (v := 1) dX5_isAsTold_110 ci_1 ?_
            refine go_goto (pc := 111) (tgt := 115) dX5_isAsTold_111 rfl ?_
            cases h
            exact go_iret (pc := 115) (Or.inr ⟨rfl, Or.inr rfl⟩) ⟨Nat.zero_le _, Nat.zero_le _⟩ dX5_isAsTold_115
  replace h := ifn h c14
  by_cases c25 : (V a0 1) = 2
  · replace h := ifp h c25
    refine go_tabIn (pc := 4) (tgt := 116) dX5_isAsTold_4 (by rw [c25]; decide) (by rw [c25]; decide) (off := 112) (by rw [c25]; rfl) rfl ?_
    refine go_aload_n (pc := 116) dX5_isAsTold_116 rfl rfl ?_
    refine go_gI (pc := 117) (v := V a0 2) fX5_201 (by decide) (C_T ha0) dX5_isAsTold_117 rfl ?_
    obtain ⟨r26, e27, h⟩ := ok_bind h
    refine go_cS (pc := 120) (As := [.int (V a0 2)]) (st := []) (E_X5_isKind e27) rfl oX5_isKind iX5_isKind kX5_128 rfl (Nat.le_of_ble_eq_true rfl) ⟨Nat.le_of_ble_eq_true rfl, Nat.le_of_ble_eq_true rfl⟩ ⟨rfl, rfl⟩ dX5_isAsTold_120 (st2 := [.int r26]) rfl ?_
    refine go_if_eq (pc := 123) (tgt := 150) dX5_isAsTold_123 rfl (fun c28 => ?_) (fun c28 => ?_)
    · replace h := ifp h c28
      refine go_iconst (pc := 150) (v := 0) dX5_isAsTold_150 ci_0 ?_
      cases h
      exact go_iret (pc := 151) (Or.inr ⟨rfl, Or.inl rfl⟩) ⟨Nat.zero_le _, Nat.zero_le _⟩ dX5_isAsTold_151
    · replace h := ifn h c28
      refine go_aload_n (pc := 126) dX5_isAsTold_126 rfl rfl ?_
      refine go_gI (pc := 127) (v := V a0 11) fX5_83 (by decide) (C_T ha0) dX5_isAsTold_127 rfl ?_
      refine go_if_lt (pc := 130) (tgt := 150) dX5_isAsTold_130 rfl (fun c29 => ?_) (fun c29 => ?_)
      · replace h := ifp h c29
        refine go_iconst (pc := 150) (v := 0) dX5_isAsTold_150 ci_0 ?_
        cases h
        exact go_iret (pc := 151) (Or.inr ⟨rfl, Or.inl rfl⟩) ⟨Nat.zero_le _, Nat.zero_le _⟩ dX5_isAsTold_151
      · replace h := ifn h c29
        refine go_aload_n (pc := 133) dX5_isAsTold_133 rfl rfl ?_
        refine go_gI (pc := 134) (v := V a0 10) fX5_80 (by decide) (C_T ha0) dX5_isAsTold_134 rfl ?_
        refine go_iconst (pc := 137) (v := 1) dX5_isAsTold_137 ci_1 ?_
        refine go_bipush (pc := 138) (v := 99) dX5_isAsTold_138 cb_99 ?_
        obtain ⟨r30, e31, h⟩ := ok_bind h
        refine go_cS (pc := 140) (As := [.int (V a0 10), .int 1, .int 99]) (st := []) (E_X5_isWithin e31) rfl oX5_isWithin iX5_isWithin kX5_194 rfl (Nat.le_of_ble_eq_true rfl) ⟨Nat.le_of_ble_eq_true rfl, Nat.le_of_ble_eq_true rfl⟩ ⟨rfl, rfl⟩ dX5_isAsTold_140 (st2 := [.int r30]) rfl ?_
        refine go_if_eq (pc := 143) (tgt := 150) dX5_isAsTold_143 rfl (fun c32 => ?_) (fun c32 => ?_)
        · replace h := ifp h c32
          refine go_iconst (pc := 150) (v := 0) dX5_isAsTold_150 ci_0 ?_
          cases h
          exact go_iret (pc := 151) (Or.inr ⟨rfl, Or.inl rfl⟩) ⟨Nat.zero_le _, Nat.zero_le _⟩ dX5_isAsTold_151
        · replace h := ifn h c32
          refine go_iconst (pc := 146) (v := 1) dX5_isAsTold_146 ci_1 ?_
          refine go_goto (pc := 147) (tgt := 151) dX5_isAsTold_147 rfl ?_
          cases h
          exact go_iret (pc := 151) (Or.inr ⟨rfl, Or.inr rfl⟩) ⟨Nat.zero_le _, Nat.zero_le _⟩ dX5_isAsTold_151
  replace h := ifn h c25
  by_cases c33 : (V a0 1) = 3
  · replace h := ifp h c33
    refine go_tabIn (pc := 4) (tgt := 152) dX5_isAsTold_4 (by rw [c33]; decide) (by rw [c33]; decide) (off := 148) (by rw [c33]; rfl) rfl ?_
    refine go_aload_n (pc := 152) dX5_isAsTold_152 rfl rfl ?_
    obtain ⟨r34, e35, h⟩ := ok_bind h
    refine go_cS (pc := 153) (As := [.ref a0]) (st := []) (E_X5_isDraftAsTold ha0 e35) rfl oX5_isDraftAsTold iX5_isDraftAsTold kX5_208 rfl (Nat.le_of_ble_eq_true rfl) ⟨Nat.le_of_ble_eq_true rfl, Nat.le_of_ble_eq_true rfl⟩ ⟨rfl, rfl⟩ dX5_isAsTold_153 (st2 := [.int r34]) rfl ?_
    obtain ⟨c36, h⟩ := ok_if h
    cases h
    exact go_iret (pc := 156) (Or.inr ⟨rfl, c36⟩) ⟨Nat.zero_le _, Nat.zero_le _⟩ dX5_isAsTold_156
  replace h := ifn h c33
  by_cases c37 : (V a0 1) = 4
  · replace h := ifp h c37
    refine go_tabIn (pc := 4) (tgt := 157) dX5_isAsTold_4 (by rw [c37]; decide) (by rw [c37]; decide) (off := 153) (by rw [c37]; rfl) rfl ?_
    refine go_aload_n (pc := 157) dX5_isAsTold_157 rfl rfl ?_
    obtain ⟨r38, e39, h⟩ := ok_bind h
    refine go_cS (pc := 158) (As := [.ref a0]) (st := []) (E_X5_areIdsAsTold ha0 e39) rfl oX5_areIdsAsTold iX5_areIdsAsTold kX5_204 rfl (Nat.le_of_ble_eq_true rfl) ⟨Nat.le_of_ble_eq_true rfl, Nat.le_of_ble_eq_true rfl⟩ ⟨rfl, rfl⟩ dX5_isAsTold_158 (st2 := [.int r38]) rfl ?_
    refine go_if_eq (pc := 161) (tgt := 175) dX5_isAsTold_161 rfl (fun c40 => ?_) (fun c40 => ?_)
    · replace h := ifp h c40
      refine go_iconst (pc := 175) (v := 0) dX5_isAsTold_175 ci_0 ?_
      cases h
      exact go_iret (pc := 176) (Or.inr ⟨rfl, Or.inl rfl⟩) ⟨Nat.zero_le _, Nat.zero_le _⟩ dX5_isAsTold_176
    · replace h := ifn h c40
      refine go_aload_n (pc := 164) dX5_isAsTold_164 rfl rfl ?_
      obtain ⟨r41, e42, h⟩ := ok_bind h
      refine go_cS (pc := 165) (As := [.ref a0]) (st := []) (E_X5_isChangeAsTold ha0 e42) rfl oX5_isChangeAsTold iX5_isChangeAsTold kX5_211 rfl (Nat.le_of_ble_eq_true rfl) ⟨Nat.le_of_ble_eq_true rfl, Nat.le_of_ble_eq_true rfl⟩ ⟨rfl, rfl⟩ dX5_isAsTold_165 (st2 := [.int r41]) rfl ?_
      refine go_if_eq (pc := 168) (tgt := 175) dX5_isAsTold_168 rfl (fun c43 => ?_) (fun c43 => ?_)
      · replace h := ifp h c43
        refine go_iconst (pc := 175) (v := 0) dX5_isAsTold_175 ci_0 ?_
        cases h
        exact go_iret (pc := 176) (Or.inr ⟨rfl, Or.inl rfl⟩) ⟨Nat.zero_le _, Nat.zero_le _⟩ dX5_isAsTold_176
      · replace h := ifn h c43
        refine go_iconst (pc := 171) (v := 1) dX5_isAsTold_171 ci_1 ?_
        refine go_goto (pc := 172) (tgt := 176) dX5_isAsTold_172 rfl ?_
        cases h
        exact go_iret (pc := 176) (Or.inr ⟨rfl, Or.inr rfl⟩) ⟨Nat.zero_le _, Nat.zero_le _⟩ dX5_isAsTold_176
  replace h := ifn h c37
  have hh44 : (V a0 1 : Int32).toInt < 0 ∨ 4 < (V a0 1 : Int32).toInt := by
    have nc7 := nti (K := 0) c7 (by decide)
    have nc14 := nti (K := 1) c14 (by decide)
    have nc25 := nti (K := 2) c25 (by decide)
    have nc33 := nti (K := 3) c33 (by decide)
    have nc37 := nti (K := 4) c37 (by decide)
    omega
  refine go_tabOut (pc := 4) (tgt := 177) dX5_isAsTold_4 hh44 rfl ?_
  refine go_aload_n (pc := 177) dX5_isAsTold_177 rfl rfl ?_
  refine go_gI (pc := 178) (v := V a0 2) fX5_201 (by decide) (C_T ha0) dX5_isAsTold_178 rfl ?_
  refine go_iconst (pc := 181) (v := 0) dX5_isAsTold_181 ci_0 ?_
  refine go_iconst (pc := 182) (v := 1) dX5_isAsTold_182 ci_1 ?_
  obtain ⟨r1, e2, h⟩ := ok_bind h
  refine go_cS (pc := 183) (As := [.int (V a0 2), .int 0, .int 1]) (st := []) (E_X5_isWithin e2) rfl oX5_isWithin iX5_isWithin kX5_194 rfl (Nat.le_of_ble_eq_true rfl) ⟨Nat.le_of_ble_eq_true rfl, Nat.le_of_ble_eq_true rfl⟩ ⟨rfl, rfl⟩ dX5_isAsTold_183 (st2 := [.int r1]) rfl ?_
  refine go_if_eq (pc := 186) (tgt := 200) dX5_isAsTold_186 rfl (fun c3 => ?_) (fun c3 => ?_)
  · replace h := ifp h c3
    refine go_iconst (pc := 200) (v := 0) dX5_isAsTold_200 ci_0 ?_
    cases h
    exact go_iret (pc := 201) (Or.inr ⟨rfl, Or.inl rfl⟩) ⟨Nat.zero_le _, Nat.zero_le _⟩ dX5_isAsTold_201
  · replace h := ifn h c3
    refine go_aload_n (pc := 189) dX5_isAsTold_189 rfl rfl ?_
    obtain ⟨r4, e5, h⟩ := ok_bind h
    refine go_cS (pc := 190) (As := [.ref a0]) (st := []) (E_X5_areIdsAsTold ha0 e5) rfl oX5_areIdsAsTold iX5_areIdsAsTold kX5_204 rfl (Nat.le_of_ble_eq_true rfl) ⟨Nat.le_of_ble_eq_true rfl, Nat.le_of_ble_eq_true rfl⟩ ⟨rfl, rfl⟩ dX5_isAsTold_190 (st2 := [.int r4]) rfl ?_
    refine go_if_eq (pc := 193) (tgt := 200) dX5_isAsTold_193 rfl (fun c6 => ?_) (fun c6 => ?_)
    · replace h := ifp h c6
      refine go_iconst (pc := 200) (v := 0) dX5_isAsTold_200 ci_0 ?_
      cases h
      exact go_iret (pc := 201) (Or.inr ⟨rfl, Or.inl rfl⟩) ⟨Nat.zero_le _, Nat.zero_le _⟩ dX5_isAsTold_201
    · replace h := ifn h c6
      refine go_iconst (pc := 196) (v := 1) dX5_isAsTold_196 ci_1 ?_
      refine go_goto (pc := 197) (tgt := 201) dX5_isAsTold_197 rfl ?_
      cases h
      exact go_iret (pc := 201) (Or.inr ⟨rfl, Or.inr rfl⟩) ⟨Nat.zero_le _, Nat.zero_le _⟩ dX5_isAsTold_201
def eX5_isGoodAhead (a1 : Int32) (a2 : Int32) (V : Mm) : Option (Int32) :=
  if a1 < 0 then
    some 0
  else
    if a2 ≤ a1 then
      some 0
    else
      if 12 ≤ a1 then
        some 0
      else
        if a1 < 0 ∨ 12 ≤ a1.toNatClampNeg then none else
        if (V (91 + 9 * a1.toNatClampNeg) 2) = 0 then
          some 1
        else
          some 0
set_option maxHeartbeats 4000000 in
set_option maxRecDepth 100000 in
theorem E_X5_isGoodAhead {a1 : Int32} {a2 : Int32} {V : Mm} {res : Int32}  (h : eX5_isGoodAhead a1 a2 V = some res) : Ev mX5_isGoodAhead [.ref 0, .int a1, .int a2] (hC V) (some (.int res)) (hC V) := by
  refine Ev.of (n := 0) oX5_isGoodAhead.1 (Nat.le_of_ble_eq_true rfl) ?_
  unfold eX5_isGoodAhead at h
  show Go mX5_isGoodAhead 0 [some (.ref 0), some (.int a1), some (.int a2)] [] (hC V) 0 0 (some (.int res)) (hC V)
  refine go_iload_n (pc := 0) dX5_isGoodAhead_0 rfl rfl ?_
  refine go_if_lt (pc := 1) (tgt := 31) dX5_isGoodAhead_1 rfl (fun c1 => ?_) (fun c1 => ?_)
  · replace h := ifp h c1
    refine go_iconst (pc := 31) (v := 0) dX5_isGoodAhead_31 ci_0 ?_
    cases h
    exact go_iret (pc := 32) (Or.inr ⟨rfl, Or.inl rfl⟩) ⟨Nat.zero_le _, Nat.zero_le _⟩ dX5_isGoodAhead_32
  · replace h := ifn h c1
    refine go_iload_n (pc := 4) dX5_isGoodAhead_4 rfl rfl ?_
    refine go_iload_n (pc := 5) dX5_isGoodAhead_5 rfl rfl ?_
    refine go_icmp_ge (pc := 6) (tgt := 31) dX5_isGoodAhead_6 rfl (fun c2 => ?_) (fun c2 => ?_)
    · replace h := ifp h c2
      refine go_iconst (pc := 31) (v := 0) dX5_isGoodAhead_31 ci_0 ?_
      cases h
      exact go_iret (pc := 32) (Or.inr ⟨rfl, Or.inl rfl⟩) ⟨Nat.zero_le _, Nat.zero_le _⟩ dX5_isGoodAhead_32
    · replace h := ifn h c2
      refine go_iload_n (pc := 9) dX5_isGoodAhead_9 rfl rfl ?_
      refine go_bipush (pc := 10) (v := 12) dX5_isGoodAhead_10 cb_12 ?_
      refine go_icmp_ge (pc := 12) (tgt := 31) dX5_isGoodAhead_12 rfl (fun c3 => ?_) (fun c3 => ?_)
      · replace h := ifp h c3
        refine go_iconst (pc := 31) (v := 0) dX5_isGoodAhead_31 ci_0 ?_
        cases h
        exact go_iret (pc := 32) (Or.inr ⟨rfl, Or.inl rfl⟩) ⟨Nat.zero_le _, Nat.zero_le _⟩ dX5_isGoodAhead_32
      · replace h := ifn h c3
        refine go_aload_n (pc := 15) dX5_isGoodAhead_15 rfl rfl ?_
        refine go_getP (pc := 16) (a := 3) fX5_21 (by decide) (show TC 0 = (5 + 5, 13) from rfl) rfl dX5_isGoodAhead_16 ?_
        refine go_iload_n (pc := 19) dX5_isGoodAhead_19 rfl rfl ?_
        obtain ⟨c4, h⟩ := ok_not h
        refine go_aald (pc := 20) (t := 4) (a := (91 + 9 * a1.toNatClampNeg)) (by decide) (show TC 3 = (4, 12) from rfl) (vin c4) (O_P (vlt c4)) dX5_isGoodAhead_20 ?_
        refine go_gI (pc := 21) (v := V (91 + 9 * a1.toNatClampNeg) 2) fX5_117 (by decide) (O_T (isOut_of (vlt c4))) dX5_isGoodAhead_21 rfl ?_
        refine go_if_ne (pc := 24) (tgt := 31) dX5_isGoodAhead_24 rfl (fun c5 => ?_) (fun c5 => ?_)
        · replace h := ifn h c5
          refine go_iconst (pc := 31) (v := 0) dX5_isGoodAhead_31 ci_0 ?_
          cases h
          exact go_iret (pc := 32) (Or.inr ⟨rfl, Or.inl rfl⟩) ⟨Nat.zero_le _, Nat.zero_le _⟩ dX5_isGoodAhead_32
        · replace h := ifp h c5
          refine go_iconst (pc := 27) (v := 1) dX5_isGoodAhead_27 ci_1 ?_
          refine go_goto (pc := 28) (tgt := 32) dX5_isGoodAhead_28 rfl ?_
          cases h
          exact go_iret (pc := 32) (Or.inr ⟨rfl, Or.inr rfl⟩) ⟨Nat.zero_le _, Nat.zero_le _⟩ dX5_isGoodAhead_32
def eX5_doesOneHold (a1 : Int32) (a2 : Int32) (V : Mm) : Option (Int32) :=
  if 0 ≤ a1 then
    some 1
  else
    (eX5_isGoodAhead ((-1) - a1) a2 V).bind fun r2 =>
    if r2 = 0 then
      some 0
    else
      if ((-1) - a1) < 0 ∨ 12 ≤ ((-1) - a1).toNatClampNeg then none else
      (eX4_count (91 + 9 * ((-1) - a1).toNatClampNeg) 1 V).bind fun r6 =>
      if r6 ≤ 0 then
        some 0
      else
        some 1
set_option maxHeartbeats 4000000 in
set_option maxRecDepth 100000 in
theorem E_X5_doesOneHold {a1 : Int32} {a2 : Int32} {V : Mm} {res : Int32}  (h : eX5_doesOneHold a1 a2 V = some res) : Ev mX5_doesOneHold [.ref 0, .int a1, .int a2] (hC V) (some (.int res)) (hC V) := by
  refine Ev.of (n := 0) oX5_doesOneHold.1 (Nat.le_of_ble_eq_true rfl) ?_
  unfold eX5_doesOneHold at h
  show Go mX5_doesOneHold 0 [some (.ref 0), some (.int a1), some (.int a2)] [] (hC V) 0 0 (some (.int res)) (hC V)
  refine go_iload_n (pc := 0) dX5_doesOneHold_0 rfl rfl ?_
  refine go_if_ge (pc := 1) (tgt := 30) dX5_doesOneHold_1 rfl (fun c1 => ?_) (fun c1 => ?_)
  · replace h := ifp h c1
    refine go_iconst (pc := 30) (v := 1) dX5_doesOneHold_30 ci_1 ?_
    refine go_goto (pc := 31) (tgt := 35) dX5_doesOneHold_31 rfl ?_
    cases h
    exact go_iret (pc := 35) (Or.inr ⟨rfl, Or.inr rfl⟩) ⟨Nat.zero_le _, Nat.zero_le _⟩ dX5_doesOneHold_35
  · replace h := ifn h c1
    refine go_aload_n (pc := 4) dX5_doesOneHold_4 rfl rfl ?_
    refine go_iconst (pc := 5) (v := (-1)) dX5_doesOneHold_5 ci_m1 ?_
    refine go_iload_n (pc := 6) dX5_doesOneHold_6 rfl rfl ?_
    refine go_isub (pc := 7) dX5_doesOneHold_7 ?_
    refine go_iload_n (pc := 8) dX5_doesOneHold_8 rfl rfl ?_
    obtain ⟨r2, e3, h⟩ := ok_bind h
    refine go_cV (pc := 9) (ci := 5) (As := [.int ((-1) - a1), .int a2]) (st := []) (E_X5_isGoodAhead e3) rfl oX5_isGoodAhead iX5_isGoodAhead sX5_isGoodAhead kX5_224 rfl (show TC 0 = (5 + 5, 13) from rfl) rfl (Nat.le_of_ble_eq_true rfl) ⟨Nat.le_of_ble_eq_true rfl, Nat.le_of_ble_eq_true rfl⟩ ⟨rfl, rfl⟩ dX5_doesOneHold_9 (st2 := [.int r2]) rfl ?_
    refine go_if_eq (pc := 12) (tgt := 34) dX5_doesOneHold_12 rfl (fun c4 => ?_) (fun c4 => ?_)
    · replace h := ifp h c4
      refine go_iconst (pc := 34) (v := 0) dX5_doesOneHold_34 ci_0 ?_
      cases h
      exact go_iret (pc := 35) (Or.inr ⟨rfl, Or.inl rfl⟩) ⟨Nat.zero_le _, Nat.zero_le _⟩ dX5_doesOneHold_35
    · replace h := ifn h c4
      refine go_aload_n (pc := 15) dX5_doesOneHold_15 rfl rfl ?_
      refine go_getP (pc := 16) (a := 3) fX5_21 (by decide) (show TC 0 = (5 + 5, 13) from rfl) rfl dX5_doesOneHold_16 ?_
      refine go_iconst (pc := 19) (v := (-1)) dX5_doesOneHold_19 ci_m1 ?_
      refine go_iload_n (pc := 20) dX5_doesOneHold_20 rfl rfl ?_
      refine go_isub (pc := 21) dX5_doesOneHold_21 ?_
      obtain ⟨c5, h⟩ := ok_not h
      refine go_aald (pc := 22) (t := 4) (a := (91 + 9 * ((-1) - a1).toNatClampNeg)) (by decide) (show TC 3 = (4, 12) from rfl) (vin c5) (O_P (vlt c5)) dX5_doesOneHold_22 ?_
      refine go_iconst (pc := 23) (v := 1) dX5_doesOneHold_23 ci_1 ?_
      obtain ⟨r6, e7, h⟩ := ok_bind h
      refine go_cV (pc := 24) (ci := 4) (As := [.int 1]) (st := []) (E_X4_count (isOut_of (vlt c5)) e7) rfl oX4_count iX4_count sX4_count kX5_120 rfl (O_T (isOut_of (vlt c5))) rfl (Nat.le_of_ble_eq_true rfl) ⟨Nat.le_of_ble_eq_true rfl, Nat.le_of_ble_eq_true rfl⟩ ⟨rfl, rfl⟩ dX5_doesOneHold_24 (st2 := [.int r6]) rfl ?_
      refine go_if_le (pc := 27) (tgt := 34) dX5_doesOneHold_27 rfl (fun c8 => ?_) (fun c8 => ?_)
      · replace h := ifp h c8
        refine go_iconst (pc := 34) (v := 0) dX5_doesOneHold_34 ci_0 ?_
        cases h
        exact go_iret (pc := 35) (Or.inr ⟨rfl, Or.inl rfl⟩) ⟨Nat.zero_le _, Nat.zero_le _⟩ dX5_doesOneHold_35
      · replace h := ifn h c8
        refine go_iconst (pc := 30) (v := 1) dX5_doesOneHold_30 ci_1 ?_
        refine go_goto (pc := 31) (tgt := 35) dX5_doesOneHold_31 rfl ?_
        cases h
        exact go_iret (pc := 35) (Or.inr ⟨rfl, Or.inr rfl⟩) ⟨Nat.zero_le _, Nat.zero_le _⟩ dX5_doesOneHold_35
def eX5_oneBeside (a0 : Nat) (V : Mm) : Option (Int32) :=
  if (V a0 1) = 3 then
    if (V a0 2) = 0 then
      some (V (a0 + 1) 1)
    else
      some (V a0 6)
  else
    if (V a0 1) = 4 then
      (eX5_tellsOneByV a0 V).bind fun r3 =>
      if r3 = 0 then
        some 0
      else
        some (V a0 6)
    else
      some 0
set_option maxHeartbeats 4000000 in
set_option maxRecDepth 100000 in
theorem E_X5_oneBeside {a0 : Nat} {V : Mm} {res : Int32} (ha0 : isCall a0) (h : eX5_oneBeside a0 V = some res) : Ev mX5_oneBeside [.ref a0] (hC V) (some (.int res)) (hC V) := by
  refine Ev.of (n := 0) oX5_oneBeside.1 (Nat.le_of_ble_eq_true rfl) ?_
  unfold eX5_oneBeside at h
  show Go mX5_oneBeside 0 [some (.ref a0)] [] (hC V) 0 0 (some (.int res)) (hC V)
  refine go_aload_n (pc := 0) dX5_oneBeside_0 rfl rfl ?_
  refine go_gI (pc := 1) (v := V a0 1) fX5_198 (by decide) (C_T ha0) dX5_oneBeside_1 rfl ?_
  refine go_iconst (pc := 4) (v := 3) dX5_oneBeside_4 ci_3 ?_
  refine go_icmp_ne (pc := 5) (tgt := 29) dX5_oneBeside_5 rfl (fun c1 => ?_) (fun c1 => ?_)
  · replace h := ifn h c1
    refine go_aload_n (pc := 29) dX5_oneBeside_29 rfl rfl ?_
    refine go_gI (pc := 30) (v := V a0 1) fX5_198 (by decide) (C_T ha0) dX5_oneBeside_30 rfl ?_
    refine go_iconst (pc := 33) (v := 4) dX5_oneBeside_33 ci_4 ?_
    refine go_icmp_ne (pc := 34) (tgt := 51) dX5_oneBeside_34 rfl (fun c2 => ?_) (fun c2 => ?_)
    · replace h := ifn h c2
      refine go_iconst (pc := 51) (v := 0) dX5_oneBeside_51 ci_0 ?_
      cases h
      exact go_iret (pc := 52) (Or.inl rfl) ⟨Nat.zero_le _, Nat.zero_le _⟩ dX5_oneBeside_52
    · replace h := ifp h c2
      refine go_aload_n (pc := 37) dX5_oneBeside_37 rfl rfl ?_
      obtain ⟨r3, e4, h⟩ := ok_bind h
      refine go_cS (pc := 38) (As := [.ref a0]) (st := []) (E_X5_tellsOneByV ha0 e4) rfl oX5_tellsOneByV iX5_tellsOneByV kX5_221 rfl (Nat.le_of_ble_eq_true rfl) ⟨Nat.le_of_ble_eq_true rfl, Nat.le_of_ble_eq_true rfl⟩ ⟨rfl, rfl⟩ dX5_oneBeside_38 (st2 := [.int r3]) rfl ?_
      refine go_if_eq (pc := 41) (tgt := 51) dX5_oneBeside_41 rfl (fun c5 => ?_) (fun c5 => ?_)
      · replace h := ifp h c5
        refine go_iconst (pc := 51) (v := 0) dX5_oneBeside_51 ci_0 ?_
        cases h
        exact go_iret (pc := 52) (Or.inl rfl) ⟨Nat.zero_le _, Nat.zero_le _⟩ dX5_oneBeside_52
      · replace h := ifn h c5
        refine go_aload_n (pc := 44) dX5_oneBeside_44 rfl rfl ?_
        refine go_gI (pc := 45) (v := V a0 6) fX5_86 (by decide) (C_T ha0) dX5_oneBeside_45 rfl ?_
        refine go_goto (pc := 48) (tgt := 52) dX5_oneBeside_48 rfl ?_
        cases h
        exact go_iret (pc := 52) (Or.inl rfl) ⟨Nat.zero_le _, Nat.zero_le _⟩ dX5_oneBeside_52
  · replace h := ifp h c1
    refine go_aload_n (pc := 8) dX5_oneBeside_8 rfl rfl ?_
    refine go_gI (pc := 9) (v := V a0 2) fX5_201 (by decide) (C_T ha0) dX5_oneBeside_9 rfl ?_
    refine go_if_ne (pc := 12) (tgt := 24) dX5_oneBeside_12 rfl (fun c6 => ?_) (fun c6 => ?_)
    · replace h := ifn h c6
      refine go_aload_n (pc := 24) dX5_oneBeside_24 rfl rfl ?_
      refine go_gI (pc := 25) (v := V a0 6) fX5_86 (by decide) (C_T ha0) dX5_oneBeside_25 rfl ?_
      cases h
      exact go_iret (pc := 28) (Or.inl rfl) ⟨Nat.zero_le _, Nat.zero_le _⟩ dX5_oneBeside_28
    · replace h := ifp h c6
      refine go_aload_n (pc := 15) dX5_oneBeside_15 rfl rfl ?_
      refine go_getP (pc := 16) (a := (a0 + 1)) fX5_89 (by decide) (C_T ha0) (C_0 ha0) dX5_oneBeside_16 ?_
      refine go_iconst (pc := 19) (v := 1) dX5_oneBeside_19 ci_1 ?_
      refine go_ia (pc := 20) (v := V (a0 + 1) 1) (C_T0 ha0) (vin (by decide)) dX5_oneBeside_20 rfl ?_
      refine go_goto (pc := 21) (tgt := 28) dX5_oneBeside_21 rfl ?_
      cases h
      exact go_iret (pc := 28) (Or.inl rfl) ⟨Nat.zero_le _, Nat.zero_le _⟩ dX5_oneBeside_28
def eX5_doNamedHold (a1 : Nat) (a2 : Int32) (V : Mm) : Option (Int32) :=
  if (V a1 3) < 0 then
    (eX5_doesOneHold (V a1 4) a2 V).bind fun r2 =>
    if r2 = 0 then
      some 0
    else
      (eX5_oneBeside a1 V).bind fun r5 =>
      (eX5_doesOneHold r5 a2 V).bind fun r7 =>
      if r7 = 0 then
        some 0
      else
        some 1
  else
    (eX5_isGoodAhead (V a1 3) a2 V).bind fun r10 =>
    if r10 = 0 then
      some 0
    else
      (eX5_oneBeside a1 V).bind fun r13 =>
      (eX5_doesOneHold r13 a2 V).bind fun r15 =>
      if r15 = 0 then
        some 0
      else
        some 1
set_option maxHeartbeats 4000000 in
set_option maxRecDepth 100000 in
theorem E_X5_doNamedHold {a1 : Nat} {a2 : Int32} {V : Mm} {res : Int32} (ha1 : isCall a1) (h : eX5_doNamedHold a1 a2 V = some res) : Ev mX5_doNamedHold [.ref 0, .ref a1, .int a2] (hC V) (some (.int res)) (hC V) := by
  refine Ev.of (n := 1) oX5_doNamedHold.1 (Nat.le_of_ble_eq_true rfl) ?_
  unfold eX5_doNamedHold at h
  show Go mX5_doNamedHold 0 [some (.ref 0), some (.ref a1), some (.int a2), none] [] (hC V) 0 0 (some (.int res)) (hC V)
  refine go_aload_n (pc := 0) dX5_doNamedHold_0 rfl rfl ?_
  refine go_gI (pc := 1) (v := V a1 3) fX5_185 (by decide) (C_T ha1) dX5_doNamedHold_1 rfl ?_
  refine go_if_lt (pc := 4) (tgt := 19) dX5_doNamedHold_4 rfl (fun c1 => ?_) (fun c1 => ?_)
  · replace h := ifp h c1
    refine go_aload_n (pc := 19) dX5_doNamedHold_19 rfl rfl ?_
    refine go_aload_n (pc := 20) dX5_doNamedHold_20 rfl rfl ?_
    refine go_gI (pc := 21) (v := V a1 4) fX5_188 (by decide) (C_T ha1) dX5_doNamedHold_21 rfl ?_
    refine go_iload_n (pc := 24) dX5_doNamedHold_24 rfl rfl ?_
    obtain ⟨r2, e3, h⟩ := ok_bind h
    refine go_cV (pc := 25) (ci := 5) (As := [.int (V a1 4), .int a2]) (st := []) (E_X5_doesOneHold e3) rfl oX5_doesOneHold iX5_doesOneHold sX5_doesOneHold kX5_227 rfl (show TC 0 = (5 + 5, 13) from rfl) rfl (Nat.le_of_ble_eq_true rfl) ⟨Nat.le_of_ble_eq_true rfl, Nat.le_of_ble_eq_true rfl⟩ ⟨rfl, rfl⟩ dX5_doNamedHold_25 (st2 := [.int r2]) rfl ?_
    refine go_istore_n (pc := 28) (i := 3) dX5_doNamedHold_28 rfl (Nat.le_of_ble_eq_true rfl) (L2 := [some (.ref 0), some (.ref a1), some (.int a2), some (.int r2)]) rfl ?_
    refine go_iload_n (pc := 29) dX5_doNamedHold_29 rfl rfl ?_
    refine go_if_eq (pc := 30) (tgt := 49) dX5_doNamedHold_30 rfl (fun c4 => ?_) (fun c4 => ?_)
    · replace h := ifp h c4
      refine go_iconst (pc := 49) (v := 0) dX5_doNamedHold_49 ci_0 ?_
      cases h
      exact go_iret (pc := 50) (Or.inr ⟨rfl, Or.inl rfl⟩) ⟨Nat.zero_le _, Nat.zero_le _⟩ dX5_doNamedHold_50
    · replace h := ifn h c4
      refine go_aload_n (pc := 33) dX5_doNamedHold_33 rfl rfl ?_
      refine go_aload_n (pc := 34) dX5_doNamedHold_34 rfl rfl ?_
      obtain ⟨r5, e6, h⟩ := ok_bind h
      refine go_cS (pc := 35) (As := [.ref a1]) (st := [.ref 0]) (E_X5_oneBeside ha1 e6) rfl oX5_oneBeside iX5_oneBeside kX5_230 rfl (Nat.le_of_ble_eq_true rfl) ⟨Nat.le_of_ble_eq_true rfl, Nat.le_of_ble_eq_true rfl⟩ ⟨rfl, rfl⟩ dX5_doNamedHold_35 (st2 := [.int r5, .ref 0]) rfl ?_
      refine go_iload_n (pc := 38) dX5_doNamedHold_38 rfl rfl ?_
      obtain ⟨r7, e8, h⟩ := ok_bind h
      refine go_cV (pc := 39) (ci := 5) (As := [.int r5, .int a2]) (st := []) (E_X5_doesOneHold e8) rfl oX5_doesOneHold iX5_doesOneHold sX5_doesOneHold kX5_227 rfl (show TC 0 = (5 + 5, 13) from rfl) rfl (Nat.le_of_ble_eq_true rfl) ⟨Nat.le_of_ble_eq_true rfl, Nat.le_of_ble_eq_true rfl⟩ ⟨rfl, rfl⟩ dX5_doNamedHold_39 (st2 := [.int r7]) rfl ?_
      refine go_if_eq (pc := 42) (tgt := 49) dX5_doNamedHold_42 rfl (fun c9 => ?_) (fun c9 => ?_)
      · replace h := ifp h c9
        refine go_iconst (pc := 49) (v := 0) dX5_doNamedHold_49 ci_0 ?_
        cases h
        exact go_iret (pc := 50) (Or.inr ⟨rfl, Or.inl rfl⟩) ⟨Nat.zero_le _, Nat.zero_le _⟩ dX5_doNamedHold_50
      · replace h := ifn h c9
        refine go_iconst (pc := 45) (v := 1) dX5_doNamedHold_45 ci_1 ?_
        refine go_goto (pc := 46) (tgt := 50) dX5_doNamedHold_46 rfl ?_
        cases h
        exact go_iret (pc := 50) (Or.inr ⟨rfl, Or.inr rfl⟩) ⟨Nat.zero_le _, Nat.zero_le _⟩ dX5_doNamedHold_50
  · replace h := ifn h c1
    refine go_aload_n (pc := 7) dX5_doNamedHold_7 rfl rfl ?_
    refine go_aload_n (pc := 8) dX5_doNamedHold_8 rfl rfl ?_
    refine go_gI (pc := 9) (v := V a1 3) fX5_185 (by decide) (C_T ha1) dX5_doNamedHold_9 rfl ?_
    refine go_iload_n (pc := 12) dX5_doNamedHold_12 rfl rfl ?_
    obtain ⟨r10, e11, h⟩ := ok_bind h
    refine go_cV (pc := 13) (ci := 5) (As := [.int (V a1 3), .int a2]) (st := []) (E_X5_isGoodAhead e11) rfl oX5_isGoodAhead iX5_isGoodAhead sX5_isGoodAhead kX5_224 rfl (show TC 0 = (5 + 5, 13) from rfl) rfl (Nat.le_of_ble_eq_true rfl) ⟨Nat.le_of_ble_eq_true rfl, Nat.le_of_ble_eq_true rfl⟩ ⟨rfl, rfl⟩ dX5_doNamedHold_13 (st2 := [.int r10]) rfl ?_
    refine go_goto (pc := 16) (tgt := 28) dX5_doNamedHold_16 rfl ?_
    refine go_istore_n (pc := 28) (i := 3) dX5_doNamedHold_28 rfl (Nat.le_of_ble_eq_true rfl) (L2 := [some (.ref 0), some (.ref a1), some (.int a2), some (.int r10)]) rfl ?_
    refine go_iload_n (pc := 29) dX5_doNamedHold_29 rfl rfl ?_
    refine go_if_eq (pc := 30) (tgt := 49) dX5_doNamedHold_30 rfl (fun c12 => ?_) (fun c12 => ?_)
    · replace h := ifp h c12
      refine go_iconst (pc := 49) (v := 0) dX5_doNamedHold_49 ci_0 ?_
      cases h
      exact go_iret (pc := 50) (Or.inr ⟨rfl, Or.inl rfl⟩) ⟨Nat.zero_le _, Nat.zero_le _⟩ dX5_doNamedHold_50
    · replace h := ifn h c12
      refine go_aload_n (pc := 33) dX5_doNamedHold_33 rfl rfl ?_
      refine go_aload_n (pc := 34) dX5_doNamedHold_34 rfl rfl ?_
      obtain ⟨r13, e14, h⟩ := ok_bind h
      refine go_cS (pc := 35) (As := [.ref a1]) (st := [.ref 0]) (E_X5_oneBeside ha1 e14) rfl oX5_oneBeside iX5_oneBeside kX5_230 rfl (Nat.le_of_ble_eq_true rfl) ⟨Nat.le_of_ble_eq_true rfl, Nat.le_of_ble_eq_true rfl⟩ ⟨rfl, rfl⟩ dX5_doNamedHold_35 (st2 := [.int r13, .ref 0]) rfl ?_
      refine go_iload_n (pc := 38) dX5_doNamedHold_38 rfl rfl ?_
      obtain ⟨r15, e16, h⟩ := ok_bind h
      refine go_cV (pc := 39) (ci := 5) (As := [.int r13, .int a2]) (st := []) (E_X5_doesOneHold e16) rfl oX5_doesOneHold iX5_doesOneHold sX5_doesOneHold kX5_227 rfl (show TC 0 = (5 + 5, 13) from rfl) rfl (Nat.le_of_ble_eq_true rfl) ⟨Nat.le_of_ble_eq_true rfl, Nat.le_of_ble_eq_true rfl⟩ ⟨rfl, rfl⟩ dX5_doNamedHold_39 (st2 := [.int r15]) rfl ?_
      refine go_if_eq (pc := 42) (tgt := 49) dX5_doNamedHold_42 rfl (fun c17 => ?_) (fun c17 => ?_)
      · replace h := ifp h c17
        refine go_iconst (pc := 49) (v := 0) dX5_doNamedHold_49 ci_0 ?_
        cases h
        exact go_iret (pc := 50) (Or.inr ⟨rfl, Or.inl rfl⟩) ⟨Nat.zero_le _, Nat.zero_le _⟩ dX5_doNamedHold_50
      · replace h := ifn h c17
        refine go_iconst (pc := 45) (v := 1) dX5_doNamedHold_45 ci_1 ?_
        refine go_goto (pc := 46) (tgt := 50) dX5_doNamedHold_46 rfl ?_
        cases h
        exact go_iret (pc := 50) (Or.inr ⟨rfl, Or.inr rfl⟩) ⟨Nat.zero_le _, Nat.zero_le _⟩ dX5_doNamedHold_50
def eX5_refusalOf (a1 : Nat) (a2 : Int32) (V : Mm) : Option (Int32) :=
  (eX5_isAsTold a1 V).bind fun r1 =>
  if r1 = 0 then
    some (-2)
  else
    (eX5_doNamedHold a1 a2 V).bind fun r4 =>
    if r4 = 0 then
      some (-5)
    else
      some 0
set_option maxHeartbeats 4000000 in
set_option maxRecDepth 100000 in
theorem E_X5_refusalOf {a1 : Nat} {a2 : Int32} {V : Mm} {res : Int32} (ha1 : isCall a1) (h : eX5_refusalOf a1 a2 V = some res) : Ev mX5_refusalOf [.ref 0, .ref a1, .int a2] (hC V) (some (.int res)) (hC V) := by
  refine Ev.of (n := 0) oX5_refusalOf.1 (Nat.le_of_ble_eq_true rfl) ?_
  unfold eX5_refusalOf at h
  show Go mX5_refusalOf 0 [some (.ref 0), some (.ref a1), some (.int a2)] [] (hC V) 0 0 (some (.int res)) (hC V)
  refine go_aload_n (pc := 0) dX5_refusalOf_0 rfl rfl ?_
  obtain ⟨r1, e2, h⟩ := ok_bind h
  refine go_cS (pc := 1) (As := [.ref a1]) (st := []) (E_X5_isAsTold ha1 e2) rfl oX5_isAsTold iX5_isAsTold kX5_243 rfl (Nat.le_of_ble_eq_true rfl) ⟨Nat.le_of_ble_eq_true rfl, Nat.le_of_ble_eq_true rfl⟩ ⟨rfl, rfl⟩ dX5_refusalOf_1 (st2 := [.int r1]) rfl ?_
  refine go_if_ne (pc := 4) (tgt := 10) dX5_refusalOf_4 rfl (fun c3 => ?_) (fun c3 => ?_)
  · replace h := ifn h c3
    refine go_aload_n (pc := 10) dX5_refusalOf_10 rfl rfl ?_
    refine go_aload_n (pc := 11) dX5_refusalOf_11 rfl rfl ?_
    refine go_iload_n (pc := 12) dX5_refusalOf_12 rfl rfl ?_
    obtain ⟨r4, e5, h⟩ := ok_bind h
    refine go_cV (pc := 13) (ci := 5) (As := [.ref a1, .int a2]) (st := []) (E_X5_doNamedHold ha1 e5) rfl oX5_doNamedHold iX5_doNamedHold sX5_doNamedHold kX5_246 rfl (show TC 0 = (5 + 5, 13) from rfl) rfl (Nat.le_of_ble_eq_true rfl) ⟨Nat.le_of_ble_eq_true rfl, Nat.le_of_ble_eq_true rfl⟩ ⟨rfl, rfl⟩ dX5_refusalOf_13 (st2 := [.int r4]) rfl ?_
    refine go_if_eq (pc := 16) (tgt := 23) dX5_refusalOf_16 rfl (fun c6 => ?_) (fun c6 => ?_)
    · replace h := ifp h c6
      refine go_bipush (pc := 23) (v := (-5)) dX5_refusalOf_23 cb_m5 ?_
      cases h
      exact go_iret (pc := 25) (Or.inl rfl) ⟨Nat.zero_le _, Nat.zero_le _⟩ dX5_refusalOf_25
    · replace h := ifn h c6
      refine go_iconst (pc := 19) (v := 0) dX5_refusalOf_19 ci_0 ?_
      refine go_goto (pc := 20) (tgt := 25) dX5_refusalOf_20 rfl ?_
      cases h
      exact go_iret (pc := 25) (Or.inl rfl) ⟨Nat.zero_le _, Nat.zero_le _⟩ dX5_refusalOf_25
  · replace h := ifp h c3
    refine go_bipush (pc := 7) (v := (-2)) dX5_refusalOf_7 cb_m2 ?_
    cases h
    exact go_iret (pc := 9) (Or.inl rfl) ⟨Nat.zero_le _, Nat.zero_le _⟩ dX5_refusalOf_9
def eX5_idOf (a1 : Int32) (V : Mm) : Option (Int32) :=
  if ((-1) - a1) < 0 then
    some a1
  else
    if 12 ≤ ((-1) - a1) then
      some a1
    else
      if ((-1) - a1) < 0 ∨ 12 ≤ ((-1) - a1).toNatClampNeg then none else
      (eX4_at (91 + 9 * ((-1) - a1).toNatClampNeg) 1 0 V).bind fun r4 =>
      some r4
set_option maxHeartbeats 4000000 in
set_option maxRecDepth 100000 in
theorem E_X5_idOf {a1 : Int32} {V : Mm} {res : Int32}  (h : eX5_idOf a1 V = some res) : Ev mX5_idOf [.ref 0, .int a1] (hC V) (some (.int res)) (hC V) := by
  refine Ev.of (n := 1) oX5_idOf.1 (Nat.le_of_ble_eq_true rfl) ?_
  unfold eX5_idOf at h
  show Go mX5_idOf 0 [some (.ref 0), some (.int a1), none] [] (hC V) 0 0 (some (.int res)) (hC V)
  refine go_iconst (pc := 0) (v := (-1)) dX5_idOf_0 ci_m1 ?_
  refine go_iload_n (pc := 1) dX5_idOf_1 rfl rfl ?_
  refine go_isub (pc := 2) dX5_idOf_2 ?_
  refine go_istore_n (pc := 3) (i := 2) dX5_idOf_3 rfl (Nat.le_of_ble_eq_true rfl) (L2 := [some (.ref 0), some (.int a1), some (.int ((-1) - a1))]) rfl ?_
  refine go_iload_n (pc := 4) dX5_idOf_4 rfl rfl ?_
  refine go_if_lt (pc := 5) (tgt := 28) dX5_idOf_5 rfl (fun c1 => ?_) (fun c1 => ?_)
  · replace h := ifp h c1
    refine go_iload_n (pc := 28) dX5_idOf_28 rfl rfl ?_
    cases h
    exact go_iret (pc := 29) (Or.inl rfl) ⟨Nat.zero_le _, Nat.zero_le _⟩ dX5_idOf_29
  · replace h := ifn h c1
    refine go_iload_n (pc := 8) dX5_idOf_8 rfl rfl ?_
    refine go_bipush (pc := 9) (v := 12) dX5_idOf_9 cb_12 ?_
    refine go_icmp_ge (pc := 11) (tgt := 28) dX5_idOf_11 rfl (fun c2 => ?_) (fun c2 => ?_)
    · replace h := ifp h c2
      refine go_iload_n (pc := 28) dX5_idOf_28 rfl rfl ?_
      cases h
      exact go_iret (pc := 29) (Or.inl rfl) ⟨Nat.zero_le _, Nat.zero_le _⟩ dX5_idOf_29
    · replace h := ifn h c2
      refine go_aload_n (pc := 14) dX5_idOf_14 rfl rfl ?_
      refine go_getP (pc := 15) (a := 3) fX5_21 (by decide) (show TC 0 = (5 + 5, 13) from rfl) rfl dX5_idOf_15 ?_
      refine go_iload_n (pc := 18) dX5_idOf_18 rfl rfl ?_
      obtain ⟨c3, h⟩ := ok_not h
      refine go_aald (pc := 19) (t := 4) (a := (91 + 9 * ((-1) - a1).toNatClampNeg)) (by decide) (show TC 3 = (4, 12) from rfl) (vin c3) (O_P (vlt c3)) dX5_idOf_19 ?_
      refine go_iconst (pc := 20) (v := 1) dX5_idOf_20 ci_1 ?_
      refine go_iconst (pc := 21) (v := 0) dX5_idOf_21 ci_0 ?_
      obtain ⟨r4, e5, h⟩ := ok_bind h
      refine go_cV (pc := 22) (ci := 4) (As := [.int 1, .int 0]) (st := []) (E_X4_at (isOut_of (vlt c3)) e5) rfl oX4_at iX4_at sX4_at kX5_124 rfl (O_T (isOut_of (vlt c3))) rfl (Nat.le_of_ble_eq_true rfl) ⟨Nat.le_of_ble_eq_true rfl, Nat.le_of_ble_eq_true rfl⟩ ⟨rfl, rfl⟩ dX5_idOf_22 (st2 := [.int r4]) rfl ?_
      refine go_goto (pc := 25) (tgt := 29) dX5_idOf_25 rfl ?_
      cases h
      exact go_iret (pc := 29) (Or.inl rfl) ⟨Nat.zero_le _, Nat.zero_le _⟩ dX5_idOf_29
def eX5_addId (a1 : Int32) (V : Mm) : Option (Mm) :=
  if 50 ≤ (V 0 9) then
    some V
  else
    if V 0 9 < 0 ∨ 50 ≤ (V 0 9).toNatClampNeg then none else
    some (wr (wr V 88 ((V 0 9).toNatClampNeg) a1) 0 9 ((V 0 9) + 1))
set_option maxHeartbeats 4000000 in
set_option maxRecDepth 100000 in
theorem E_X5_addId {a1 : Int32} {V : Mm} {res : Mm}  (h : eX5_addId a1 V = some res) : Ev mX5_addId [.ref 0, .int a1] (hC V) none (hC res) := by
  refine Ev.of (n := 0) oX5_addId.1 (Nat.le_of_ble_eq_true rfl) ?_
  unfold eX5_addId at h
  show Go mX5_addId 0 [some (.ref 0), some (.int a1)] [] (hC V) 0 0 none (hC res)
  refine go_aload_n (pc := 0) dX5_addId_0 rfl rfl ?_
  refine go_gI (pc := 1) (v := V 0 9) fX5_237 (by decide) (show TC 0 = (5 + 5, 13) from rfl) dX5_addId_1 rfl ?_
  refine go_bipush (pc := 4) (v := 50) dX5_addId_4 cb_50 ?_
  refine go_icmp_ge (pc := 6) (tgt := 29) dX5_addId_6 rfl (fun c1 => ?_) (fun c1 => ?_)
  · replace h := ifp h c1
    cases h
    exact go_vret (pc := 29) rfl ⟨Nat.zero_le _, Nat.zero_le _⟩ dX5_addId_29
  · replace h := ifn h c1
    refine go_aload_n (pc := 9) dX5_addId_9 rfl rfl ?_
    refine go_getP (pc := 10) (a := 88) fX5_54 (by decide) (show TC 0 = (5 + 5, 13) from rfl) rfl dX5_addId_10 ?_
    refine go_aload_n (pc := 13) dX5_addId_13 rfl rfl ?_
    refine go_gI (pc := 14) (v := V 0 9) fX5_237 (by decide) (show TC 0 = (5 + 5, 13) from rfl) dX5_addId_14 rfl ?_
    refine go_iload_n (pc := 17) dX5_addId_17 rfl rfl ?_
    obtain ⟨c2, h⟩ := ok_not h
    refine go_iast (pc := 18) (show TC 88 = (0, 50) from rfl) (vin c2) dX5_addId_18 ?_
    refine go_aload_n (pc := 19) dX5_addId_19 rfl rfl ?_
    refine go_dup (pc := 20) dX5_addId_20 ?_
    refine go_gI (pc := 21) (v := V 0 9) fX5_237 (by decide) (show TC 0 = (5 + 5, 13) from rfl) dX5_addId_21 rfl ?_
    refine go_iconst (pc := 24) (v := 1) dX5_addId_24 ci_1 ?_
    refine go_iadd (pc := 25) dX5_addId_25 ?_
    refine go_putI (pc := 26) (k := 9) fX5_237 (Or.inl rfl) (Or.inl rfl) (show TC 0 = (5 + 5, 13) from rfl) dX5_addId_26 ?_
    cases h
    exact go_vret (pc := 29) rfl ⟨Nat.zero_le _, Nat.zero_le _⟩ dX5_addId_29
def eX5_takeIds_b48 : Nat → Nat → Nat → Int32 → Mm → Option (Mm)
  | 0, _, _, _, _ => none
  | n + 1, l1, l2, l3, V => 
    (eX4_count l2 (V l1 4) V).bind fun r4 =>
    if r4 ≤ l3 then
      some V
    else
      (eX4_at l2 (V l1 4) l3 V).bind fun r7 =>
      (eX5_addId r7 V).bind fun r9 =>
      eX5_takeIds_b48 n l1 l2 (l3 + 1) r9
set_option maxHeartbeats 4000000 in
set_option maxRecDepth 100000 in
theorem gX5_takeIds_b48 : ∀ (n : Nat) (l1 : Nat) (l2 : Nat) (l3 : Int32) (V : Mm) (res : Mm) (hl1 : isCall l1) (hl2 : isOut l2), eX5_takeIds_b48 n l1 l2 l3 V = some res → Go mX5_takeIds 48 [some (.ref 0), some (.ref l1), some (.ref l2), some (.int l3)] [] (hC V) 0 0 none (hC res) := by
  intro n
  induction n with
  | zero =>
    intro l1 l2 l3 V res hl1 hl2 h
    cases h
  | succ n ih =>
    intro l1 l2 l3 V res hl1 hl2 h
    rw [eX5_takeIds_b48] at h
    refine go_iload_n (pc := 48) dX5_takeIds_48 rfl rfl ?_
    refine go_aload_n (pc := 49) dX5_takeIds_49 rfl rfl ?_
    refine go_aload_n (pc := 50) dX5_takeIds_50 rfl rfl ?_
    refine go_gI (pc := 51) (v := V l1 4) fX5_188 (by decide) (C_T hl1) dX5_takeIds_51 rfl ?_
    obtain ⟨r4, e5, h⟩ := ok_bind h
    refine go_cV (pc := 54) (ci := 4) (As := [.int (V l1 4)]) (st := [.int l3]) (E_X4_count hl2 e5) rfl oX4_count iX4_count sX4_count kX5_120 rfl (O_T hl2) rfl (Nat.le_of_ble_eq_true rfl) ⟨Nat.le_of_ble_eq_true rfl, Nat.le_of_ble_eq_true rfl⟩ ⟨rfl, rfl⟩ dX5_takeIds_54 (st2 := [.int r4, .int l3]) rfl ?_
    refine go_icmp_ge (pc := 57) (tgt := 79) dX5_takeIds_57 rfl (fun c6 => ?_) (fun c6 => ?_)
    · replace h := ifp h c6
      cases h
      exact go_vret (pc := 79) rfl ⟨Nat.zero_le _, Nat.zero_le _⟩ dX5_takeIds_79
    · replace h := ifn h c6
      refine go_aload_n (pc := 60) dX5_takeIds_60 rfl rfl ?_
      refine go_aload_n (pc := 61) dX5_takeIds_61 rfl rfl ?_
      refine go_aload_n (pc := 62) dX5_takeIds_62 rfl rfl ?_
      refine go_gI (pc := 63) (v := V l1 4) fX5_188 (by decide) (C_T hl1) dX5_takeIds_63 rfl ?_
      refine go_iload_n (pc := 66) dX5_takeIds_66 rfl rfl ?_
      obtain ⟨r7, e8, h⟩ := ok_bind h
      refine go_cV (pc := 67) (ci := 4) (As := [.int (V l1 4), .int l3]) (st := [.ref 0]) (E_X4_at hl2 e8) rfl oX4_at iX4_at sX4_at kX5_124 rfl (O_T hl2) rfl (Nat.le_of_ble_eq_true rfl) ⟨Nat.le_of_ble_eq_true rfl, Nat.le_of_ble_eq_true rfl⟩ ⟨rfl, rfl⟩ dX5_takeIds_67 (st2 := [.int r7, .ref 0]) rfl ?_
      obtain ⟨r9, e10, h⟩ := ok_bind h
      refine go_cV (pc := 70) (ci := 5) (As := [.int r7]) (st := []) (E_X5_addId e10) rfl oX5_addId iX5_addId sX5_addId kX5_240 rfl (show TC 0 = (5 + 5, 13) from rfl) rfl (Nat.le_of_ble_eq_true rfl) ⟨Nat.le_of_ble_eq_true rfl, Nat.le_of_ble_eq_true rfl⟩ ⟨rfl, rfl⟩ dX5_takeIds_70 (st2 := []) rfl ?_
      refine go_iinc (pc := 73) (v := (l3 + 1)) dX5_takeIds_73 rfl (by rw [ci_1]) (Nat.le_of_ble_eq_true rfl) (L2 := [some (.ref 0), some (.ref l1), some (.ref l2), some (.int (l3 + 1))]) rfl ?_
      refine go_goto (pc := 76) (tgt := 48) dX5_takeIds_76 rfl ?_
      exact ih _ _ _ _ _ hl1 hl2 h
def eX5_takeIds (a1 : Nat) (V : Mm) : Option (Mm) :=
  if 0 ≤ ((wr V 0 9 0) a1 3) then
    if 12 ≤ ((wr V 0 9 0) a1 3) then
      some (wr V 0 9 0)
    else
      if (wr V 0 9 0) a1 3 < 0 ∨ 12 ≤ ((wr V 0 9 0) a1 3).toNatClampNeg then none else
      eX5_takeIds_b48 fu a1 (91 + 9 * ((wr V 0 9 0) a1 3).toNatClampNeg) 0 (wr V 0 9 0)
  else
    (eX5_idOf ((wr V 0 9 0) a1 4) (wr V 0 9 0)).bind fun r11 =>
    (eX5_addId r11 (wr V 0 9 0)).bind fun r13 =>
    some r13
set_option maxHeartbeats 4000000 in
set_option maxRecDepth 100000 in
theorem E_X5_takeIds {a1 : Nat} {V : Mm} {res : Mm} (ha1 : isCall a1) (h : eX5_takeIds a1 V = some res) : Ev mX5_takeIds [.ref 0, .ref a1] (hC V) none (hC res) := by
  refine Ev.of (n := 2) oX5_takeIds.1 (Nat.le_of_ble_eq_true rfl) ?_
  unfold eX5_takeIds at h
  show Go mX5_takeIds 0 [some (.ref 0), some (.ref a1), none, none] [] (hC V) 0 0 none (hC res)
  refine go_aload_n (pc := 0) dX5_takeIds_0 rfl rfl ?_
  refine go_iconst (pc := 1) (v := 0) dX5_takeIds_1 ci_0 ?_
  refine go_putI (pc := 2) (k := 9) fX5_237 (Or.inl rfl) (Or.inl rfl) (show TC 0 = (5 + 5, 13) from rfl) dX5_takeIds_2 ?_
  refine go_aload_n (pc := 5) dX5_takeIds_5 rfl rfl ?_
  refine go_gI (pc := 6) (v := (wr V 0 9 0) a1 3) fX5_185 (by decide) (C_T ha1) dX5_takeIds_6 rfl ?_
  refine go_if_ge (pc := 9) (tgt := 27) dX5_takeIds_9 rfl (fun c1 => ?_) (fun c1 => ?_)
  · replace h := ifp h c1
    refine go_aload_n (pc := 27) dX5_takeIds_27 rfl rfl ?_
    refine go_gI (pc := 28) (v := (wr V 0 9 0) a1 3) fX5_185 (by decide) (C_T ha1) dX5_takeIds_28 rfl ?_
    refine go_bipush (pc := 31) (v := 12) dX5_takeIds_31 cb_12 ?_
    refine go_icmp_ge (pc := 33) (tgt := 79) dX5_takeIds_33 rfl (fun c2 => ?_) (fun c2 => ?_)
    · replace h := ifp h c2
      cases h
      exact go_vret (pc := 79) rfl ⟨Nat.zero_le _, Nat.zero_le _⟩ dX5_takeIds_79
    · replace h := ifn h c2
      refine go_aload_n (pc := 36) dX5_takeIds_36 rfl rfl ?_
      refine go_getP (pc := 37) (a := 3) fX5_21 (by decide) (show TC 0 = (5 + 5, 13) from rfl) rfl dX5_takeIds_37 ?_
      refine go_aload_n (pc := 40) dX5_takeIds_40 rfl rfl ?_
      refine go_gI (pc := 41) (v := (wr V 0 9 0) a1 3) fX5_185 (by decide) (C_T ha1) dX5_takeIds_41 rfl ?_
      obtain ⟨c3, h⟩ := ok_not h
      refine go_aald (pc := 44) (t := 4) (a := (91 + 9 * ((wr V 0 9 0) a1 3).toNatClampNeg)) (by decide) (show TC 3 = (4, 12) from rfl) (vin c3) (O_P (vlt c3)) dX5_takeIds_44 ?_
      refine go_astore_n (pc := 45) (i := 2) dX5_takeIds_45 rfl (Nat.le_of_ble_eq_true rfl) (L2 := [some (.ref 0), some (.ref a1), some (.ref (91 + 9 * ((wr V 0 9 0) a1 3).toNatClampNeg)), none]) rfl ?_
      refine go_iconst (pc := 46) (v := 0) dX5_takeIds_46 ci_0 ?_
      refine go_istore_n (pc := 47) (i := 3) dX5_takeIds_47 rfl (Nat.le_of_ble_eq_true rfl) (L2 := [some (.ref 0), some (.ref a1), some (.ref (91 + 9 * ((wr V 0 9 0) a1 3).toNatClampNeg)), some (.int 0)]) rfl ?_
      exact gX5_takeIds_b48 _ _ _ _ _ _ ha1 (isOut_of (vlt c3)) h
  · replace h := ifn h c1
    refine go_aload_n (pc := 12) dX5_takeIds_12 rfl rfl ?_
    refine go_aload_n (pc := 13) dX5_takeIds_13 rfl rfl ?_
    refine go_aload_n (pc := 14) dX5_takeIds_14 rfl rfl ?_
    refine go_gI (pc := 15) (v := (wr V 0 9 0) a1 4) fX5_188 (by decide) (C_T ha1) dX5_takeIds_15 rfl ?_
    obtain ⟨r11, e12, h⟩ := ok_bind h
    refine go_cV (pc := 18) (ci := 5) (As := [.int ((wr V 0 9 0) a1 4)]) (st := [.ref 0]) (E_X5_idOf e12) rfl oX5_idOf iX5_idOf sX5_idOf kX5_234 rfl (show TC 0 = (5 + 5, 13) from rfl) rfl (Nat.le_of_ble_eq_true rfl) ⟨Nat.le_of_ble_eq_true rfl, Nat.le_of_ble_eq_true rfl⟩ ⟨rfl, rfl⟩ dX5_takeIds_18 (st2 := [.int r11, .ref 0]) rfl ?_
    obtain ⟨r13, e14, h⟩ := ok_bind h
    refine go_cV (pc := 21) (ci := 5) (As := [.int r11]) (st := []) (E_X5_addId e14) rfl oX5_addId iX5_addId sX5_addId kX5_240 rfl (show TC 0 = (5 + 5, 13) from rfl) rfl (Nat.le_of_ble_eq_true rfl) ⟨Nat.le_of_ble_eq_true rfl, Nat.le_of_ble_eq_true rfl⟩ ⟨rfl, rfl⟩ dX5_takeIds_21 (st2 := []) rfl ?_
    refine go_goto (pc := 24) (tgt := 79) dX5_takeIds_24 rfl ?_
    cases h
    exact go_vret (pc := 79) rfl ⟨Nat.zero_le _, Nat.zero_le _⟩ dX5_takeIds_79
def eX5_kindOf (a1 : Int32) (V : Mm) : Option (Nat) :=
  if a1 = 0 then
    some 4
  else
    if a1 = 1 then
      some 28
    else
      some 52
set_option maxHeartbeats 4000000 in
set_option maxRecDepth 100000 in
theorem E_X5_kindOf {a1 : Int32} {V : Mm} {res : Nat}  (h : eX5_kindOf a1 V = some res) : Ev mX5_kindOf [.ref 0, .int a1] (hC V) (some (.ref res)) (hC V) := by
  refine Ev.of (n := 0) oX5_kindOf.1 (Nat.le_of_ble_eq_true rfl) ?_
  unfold eX5_kindOf at h
  show Go mX5_kindOf 0 [some (.ref 0), some (.int a1)] [] (hC V) 0 0 (some (.ref res)) (hC V)
  refine go_iload_n (pc := 0) dX5_kindOf_0 rfl rfl ?_
  refine go_if_ne (pc := 1) (tgt := 11) dX5_kindOf_1 rfl (fun c1 => ?_) (fun c1 => ?_)
  · replace h := ifn h c1
    refine go_iload_n (pc := 11) dX5_kindOf_11 rfl rfl ?_
    refine go_iconst (pc := 12) (v := 1) dX5_kindOf_12 ci_1 ?_
    refine go_icmp_ne (pc := 13) (tgt := 23) dX5_kindOf_13 rfl (fun c2 => ?_) (fun c2 => ?_)
    · replace h := ifn h c2
      refine go_aload_n (pc := 23) dX5_kindOf_23 rfl rfl ?_
      refine go_getP (pc := 24) (a := 52) fX5_37 (by decide) (show TC 0 = (5 + 5, 13) from rfl) rfl dX5_kindOf_24 ?_
      cases h
      exact go_aret (pc := 27) rfl (Or.inl ⟨_, rfl⟩) ⟨Nat.zero_le _, Nat.zero_le _⟩ dX5_kindOf_27
    · replace h := ifp h c2
      refine go_aload_n (pc := 16) dX5_kindOf_16 rfl rfl ?_
      refine go_getP (pc := 17) (a := 28) fX5_34 (by decide) (show TC 0 = (5 + 5, 13) from rfl) rfl dX5_kindOf_17 ?_
      refine go_goto (pc := 20) (tgt := 27) dX5_kindOf_20 rfl ?_
      cases h
      exact go_aret (pc := 27) rfl (Or.inl ⟨_, rfl⟩) ⟨Nat.zero_le _, Nat.zero_le _⟩ dX5_kindOf_27
  · replace h := ifp h c1
    refine go_aload_n (pc := 4) dX5_kindOf_4 rfl rfl ?_
    refine go_getP (pc := 5) (a := 4) fX5_30 (by decide) (show TC 0 = (5 + 5, 13) from rfl) rfl dX5_kindOf_5 ?_
    refine go_goto (pc := 8) (tgt := 27) dX5_kindOf_8 rfl ?_
    cases h
    exact go_aret (pc := 27) rfl (Or.inl ⟨_, rfl⟩) ⟨Nat.zero_le _, Nat.zero_le _⟩ dX5_kindOf_27
theorem kindOf_isK {a1 : Int32} {V : Mm} {r : Nat} (h : eX5_kindOf a1 V = some r) : isK r := by
  unfold eX5_kindOf at h
  repeat' split at h
  all_goals (cases h; first | exact isK_4 | exact isK_28 | exact isK_52)

def eX5_tellIds_b17 : Nat → Nat → Nat → Int32 → Mm → Option (Int32 × Mm)
  | 0, _, _, _, _ => none
  | n + 1, l2, l3, l4, V => 
    if (V 0 9) ≤ l4 then
      some (0, V)
    else
      if l4 < 0 ∨ 50 ≤ l4.toNatClampNeg then none else
      (eX2_isThere l3 (V 88 l4.toNatClampNeg) V).bind fun r8 =>
      if r8 = 0 then
        if l4 < 0 ∨ 50 ≤ l4.toNatClampNeg then none else
        (eX4_add l2 3 (V 88 l4.toNatClampNeg) V).bind fun r12 =>
        eX5_tellIds_b17 n l2 l3 (l4 + 1) r12
      else
        if l4 < 0 ∨ 50 ≤ l4.toNatClampNeg then none else
        (eX4_add l2 0 (V 88 l4.toNatClampNeg) V).bind fun r15 =>
        eX5_tellIds_b17 n l2 l3 (l4 + 1) r15
set_option maxHeartbeats 4000000 in
set_option maxRecDepth 100000 in
theorem gX5_tellIds_b17 : ∀ (n : Nat) (l2 : Nat) (l3 : Nat) (l4 : Int32) (V : Mm) (res : Int32 × Mm) (hl2 : isOut l2) (hl3 : isK l3), eX5_tellIds_b17 n l2 l3 l4 V = some res → Go mX5_tellIds 17 [some (.ref 0), none, some (.ref l2), some (.ref l3), some (.int l4)] [] (hC V) 0 0 (some (.int res.1)) (hC res.2) := by
  intro n
  induction n with
  | zero =>
    intro l2 l3 l4 V res hl2 hl3 h
    cases h
  | succ n ih =>
    intro l2 l3 l4 V res hl2 hl3 h
    rw [eX5_tellIds_b17] at h
    refine go_iload (pc := 17) dX5_tellIds_17 rfl ?_
    refine go_aload_n (pc := 19) dX5_tellIds_19 rfl rfl ?_
    refine go_gI (pc := 20) (v := V 0 9) fX5_237 (by decide) (show TC 0 = (5 + 5, 13) from rfl) dX5_tellIds_20 rfl ?_
    refine go_icmp_ge (pc := 23) (tgt := 62) dX5_tellIds_23 rfl (fun c6 => ?_) (fun c6 => ?_)
    · replace h := ifp h c6
      refine go_iconst (pc := 62) (v := 0) dX5_tellIds_62 ci_0 ?_
      cases h
      exact go_iret (pc := 63) (Or.inl rfl) ⟨Nat.zero_le _, Nat.zero_le _⟩ dX5_tellIds_63
    · replace h := ifn h c6
      refine go_aload_n (pc := 26) dX5_tellIds_26 rfl rfl ?_
      refine go_aload_n (pc := 27) dX5_tellIds_27 rfl rfl ?_
      refine go_aload_n (pc := 28) dX5_tellIds_28 rfl rfl ?_
      refine go_getP (pc := 29) (a := 88) fX5_54 (by decide) (show TC 0 = (5 + 5, 13) from rfl) rfl dX5_tellIds_29 ?_
      refine go_iload (pc := 32) dX5_tellIds_32 rfl ?_
      obtain ⟨c7, h⟩ := ok_not h
      refine go_ia (pc := 34) (v := V 88 l4.toNatClampNeg) (show TC 88 = (0, 50) from rfl) (vin c7) dX5_tellIds_34 rfl ?_
      obtain ⟨r8, e9, h⟩ := ok_bind h
      refine go_cV (pc := 35) (ci := 2) (As := [.int (V 88 l4.toNatClampNeg)]) (st := [.ref l2]) (E_X2_isThere hl3 e9) rfl oX2_isThere iX2_isThere sX2_isThere kX5_149 rfl (K_T hl3) rfl (Nat.le_of_ble_eq_true rfl) ⟨Nat.le_of_ble_eq_true rfl, Nat.le_of_ble_eq_true rfl⟩ ⟨rfl, rfl⟩ dX5_tellIds_35 (st2 := [.int r8, .ref l2]) rfl ?_
      refine go_if_eq (pc := 38) (tgt := 45) dX5_tellIds_38 rfl (fun c10 => ?_) (fun c10 => ?_)
      · replace h := ifp h c10
        refine go_iconst (pc := 45) (v := 3) dX5_tellIds_45 ci_3 ?_
        refine go_aload_n (pc := 46) dX5_tellIds_46 rfl rfl ?_
        refine go_getP (pc := 47) (a := 88) fX5_54 (by decide) (show TC 0 = (5 + 5, 13) from rfl) rfl dX5_tellIds_47 ?_
        refine go_iload (pc := 50) dX5_tellIds_50 rfl ?_
        obtain ⟨c11, h⟩ := ok_not h
        refine go_ia (pc := 52) (v := V 88 l4.toNatClampNeg) (show TC 88 = (0, 50) from rfl) (vin c11) dX5_tellIds_52 rfl ?_
        obtain ⟨r12, e13, h⟩ := ok_bind h
        refine go_cV (pc := 53) (ci := 4) (As := [.int 3, .int (V 88 l4.toNatClampNeg)]) (st := []) (E_X4_add hl2 e13) rfl oX4_add iX4_add sX4_add kX5_296 rfl (O_T hl2) rfl (Nat.le_of_ble_eq_true rfl) ⟨Nat.le_of_ble_eq_true rfl, Nat.le_of_ble_eq_true rfl⟩ ⟨rfl, rfl⟩ dX5_tellIds_53 (st2 := []) rfl ?_
        refine go_iinc (pc := 56) (v := (l4 + 1)) dX5_tellIds_56 rfl (by rw [ci_1]) (Nat.le_of_ble_eq_true rfl) (L2 := [some (.ref 0), none, some (.ref l2), some (.ref l3), some (.int (l4 + 1))]) rfl ?_
        refine go_goto (pc := 59) (tgt := 17) dX5_tellIds_59 rfl ?_
        exact ih _ _ _ _ _ hl2 hl3 h
      · replace h := ifn h c10
        refine go_iconst (pc := 41) (v := 0) dX5_tellIds_41 ci_0 ?_
        refine go_goto (pc := 42) (tgt := 46) dX5_tellIds_42 rfl ?_
        refine go_aload_n (pc := 46) dX5_tellIds_46 rfl rfl ?_
        refine go_getP (pc := 47) (a := 88) fX5_54 (by decide) (show TC 0 = (5 + 5, 13) from rfl) rfl dX5_tellIds_47 ?_
        refine go_iload (pc := 50) dX5_tellIds_50 rfl ?_
        obtain ⟨c14, h⟩ := ok_not h
        refine go_ia (pc := 52) (v := V 88 l4.toNatClampNeg) (show TC 88 = (0, 50) from rfl) (vin c14) dX5_tellIds_52 rfl ?_
        obtain ⟨r15, e16, h⟩ := ok_bind h
        refine go_cV (pc := 53) (ci := 4) (As := [.int 0, .int (V 88 l4.toNatClampNeg)]) (st := []) (E_X4_add hl2 e16) rfl oX4_add iX4_add sX4_add kX5_296 rfl (O_T hl2) rfl (Nat.le_of_ble_eq_true rfl) ⟨Nat.le_of_ble_eq_true rfl, Nat.le_of_ble_eq_true rfl⟩ ⟨rfl, rfl⟩ dX5_tellIds_53 (st2 := []) rfl ?_
        refine go_iinc (pc := 56) (v := (l4 + 1)) dX5_tellIds_56 rfl (by rw [ci_1]) (Nat.le_of_ble_eq_true rfl) (L2 := [some (.ref 0), none, some (.ref l2), some (.ref l3), some (.int (l4 + 1))]) rfl ?_
        refine go_goto (pc := 59) (tgt := 17) dX5_tellIds_59 rfl ?_
        exact ih _ _ _ _ _ hl2 hl3 h
def eX5_tellIds (a1 : Nat) (a2 : Nat) (V : Mm) : Option (Int32 × Mm) :=
  (eX5_takeIds a1 V).bind fun r1 =>
  (eX5_kindOf (r1 a1 2) r1).bind fun r3 =>
  eX5_tellIds_b17 fu a2 r3 0 r1
set_option maxHeartbeats 4000000 in
set_option maxRecDepth 100000 in
theorem E_X5_tellIds {a1 : Nat} {a2 : Nat} {V : Mm} {res : Int32 × Mm} (ha1 : isCall a1) (ha2 : isOut a2) (h : eX5_tellIds a1 a2 V = some res) : Ev mX5_tellIds [.ref 0, .ref a1, .ref a2] (hC V) (some (.int res.1)) (hC res.2) := by
  refine Ev.of (n := 2) oX5_tellIds.1 (Nat.le_of_ble_eq_true rfl) ?_
  unfold eX5_tellIds at h
  show Go mX5_tellIds 0 [some (.ref 0), some (.ref a1), some (.ref a2), none, none] [] (hC V) 0 0 (some (.int res.1)) (hC res.2)
  refine go_aload_n (pc := 0) dX5_tellIds_0 rfl rfl ?_
  refine go_aload_n (pc := 1) dX5_tellIds_1 rfl rfl ?_
  obtain ⟨r1, e2, h⟩ := ok_bind h
  refine go_cV (pc := 2) (ci := 5) (As := [.ref a1]) (st := []) (E_X5_takeIds ha1 e2) rfl oX5_takeIds iX5_takeIds sX5_takeIds kX5_292 rfl (show TC 0 = (5 + 5, 13) from rfl) rfl (Nat.le_of_ble_eq_true rfl) ⟨Nat.le_of_ble_eq_true rfl, Nat.le_of_ble_eq_true rfl⟩ ⟨rfl, rfl⟩ dX5_tellIds_2 (st2 := []) rfl ?_
  refine go_aload_n (pc := 5) dX5_tellIds_5 rfl rfl ?_
  refine go_aload_n (pc := 6) dX5_tellIds_6 rfl rfl ?_
  refine go_gI (pc := 7) (v := r1 a1 2) fX5_201 (by decide) (C_T ha1) dX5_tellIds_7 rfl ?_
  obtain ⟨r3, e4, h⟩ := ok_bind h
  have hr5 : isK r3 := kindOf_isK e4
  refine go_cV (pc := 10) (ci := 5) (As := [.int (r1 a1 2)]) (st := []) (E_X5_kindOf e4) rfl oX5_kindOf iX5_kindOf sX5_kindOf kX5_132 rfl (show TC 0 = (5 + 5, 13) from rfl) rfl (Nat.le_of_ble_eq_true rfl) ⟨Nat.le_of_ble_eq_true rfl, Nat.le_of_ble_eq_true rfl⟩ ⟨rfl, rfl⟩ dX5_tellIds_10 (st2 := [.ref r3]) rfl ?_
  refine go_astore_n (pc := 13) (i := 3) dX5_tellIds_13 rfl (Nat.le_of_ble_eq_true rfl) (L2 := [some (.ref 0), some (.ref a1), some (.ref a2), some (.ref r3), none]) rfl ?_
  refine go_iconst (pc := 14) (v := 0) dX5_tellIds_14 ci_0 ?_
  refine go_istore (pc := 15) (i := 4) dX5_tellIds_15 (Nat.le_of_ble_eq_true rfl) (L2 := [some (.ref 0), some (.ref a1), some (.ref a2), some (.ref r3), some (.int 0)]) rfl ?_
  refine go_le (lle_s (lle_n (lle_s (lle_s (lle_s lle_0))))) ?_
  exact gX5_tellIds_b17 _ _ _ _ _ _ ha2 hr5 h
def eX5_bitOf (a0 : Int32) (V : Mm) : Option (Int32) :=
  if a0 < 0 then
    some 0
  else
    if 20 ≤ a0 then
      some 0
    else
      some (1 <<< (a0 &&& 31))
set_option maxHeartbeats 4000000 in
set_option maxRecDepth 100000 in
theorem E_X5_bitOf {a0 : Int32} {V : Mm} {res : Int32}  (h : eX5_bitOf a0 V = some res) : Ev mX5_bitOf [.int a0] (hC V) (some (.int res)) (hC V) := by
  refine Ev.of (n := 0) oX5_bitOf.1 (Nat.le_of_ble_eq_true rfl) ?_
  unfold eX5_bitOf at h
  show Go mX5_bitOf 0 [some (.int a0)] [] (hC V) 0 0 (some (.int res)) (hC V)
  refine go_iload_n (pc := 0) dX5_bitOf_0 rfl rfl ?_
  refine go_if_lt (pc := 1) (tgt := 16) dX5_bitOf_1 rfl (fun c1 => ?_) (fun c1 => ?_)
  · replace h := ifp h c1
    refine go_iconst (pc := 16) (v := 0) dX5_bitOf_16 ci_0 ?_
    cases h
    exact go_iret (pc := 17) (Or.inl rfl) ⟨Nat.zero_le _, Nat.zero_le _⟩ dX5_bitOf_17
  · replace h := ifn h c1
    refine go_iload_n (pc := 4) dX5_bitOf_4 rfl rfl ?_
    refine go_bipush (pc := 5) (v := 20) dX5_bitOf_5 cb_20 ?_
    refine go_icmp_ge (pc := 7) (tgt := 16) dX5_bitOf_7 rfl (fun c2 => ?_) (fun c2 => ?_)
    · replace h := ifp h c2
      refine go_iconst (pc := 16) (v := 0) dX5_bitOf_16 ci_0 ?_
      cases h
      exact go_iret (pc := 17) (Or.inl rfl) ⟨Nat.zero_le _, Nat.zero_le _⟩ dX5_bitOf_17
    · replace h := ifn h c2
      refine go_iconst (pc := 10) (v := 1) dX5_bitOf_10 ci_1 ?_
      refine go_iload_n (pc := 11) dX5_bitOf_11 rfl rfl ?_
      refine go_ishl (pc := 12) dX5_bitOf_12 ?_
      refine go_goto (pc := 13) (tgt := 17) dX5_bitOf_13 rfl ?_
      cases h
      exact go_iret (pc := 17) (Or.inl rfl) ⟨Nat.zero_le _, Nat.zero_le _⟩ dX5_bitOf_17
def eX5_isIn (a1 : Int32) (a2 : Int32) (V : Mm) : Option (Int32) :=
  (eX2_value 28 a1 8 V).bind fun r1 =>
  (eX5_bitOf a2 V).bind fun r3 =>
  if (r1 &&& r3) = 0 then
    some 0
  else
    some 1
set_option maxHeartbeats 4000000 in
set_option maxRecDepth 100000 in
theorem E_X5_isIn {a1 : Int32} {a2 : Int32} {V : Mm} {res : Int32}  (h : eX5_isIn a1 a2 V = some res) : Ev mX5_isIn [.ref 0, .int a1, .int a2] (hC V) (some (.int res)) (hC V) := by
  refine Ev.of (n := 0) oX5_isIn.1 (Nat.le_of_ble_eq_true rfl) ?_
  unfold eX5_isIn at h
  show Go mX5_isIn 0 [some (.ref 0), some (.int a1), some (.int a2)] [] (hC V) 0 0 (some (.int res)) (hC V)
  refine go_aload_n (pc := 0) dX5_isIn_0 rfl rfl ?_
  refine go_getP (pc := 1) (a := 28) fX5_34 (by decide) (show TC 0 = (5 + 5, 13) from rfl) rfl dX5_isIn_1 ?_
  refine go_iload_n (pc := 4) dX5_isIn_4 rfl rfl ?_
  refine go_bipush (pc := 5) (v := 8) dX5_isIn_5 cb_8 ?_
  obtain ⟨r1, e2, h⟩ := ok_bind h
  refine go_cV (pc := 7) (ci := 2) (As := [.int a1, .int 8]) (st := []) (E_X2_value isK_28 e2) rfl oX2_value iX2_value sX2_value kX5_152 rfl (K_T isK_28) rfl (Nat.le_of_ble_eq_true rfl) ⟨Nat.le_of_ble_eq_true rfl, Nat.le_of_ble_eq_true rfl⟩ ⟨rfl, rfl⟩ dX5_isIn_7 (st2 := [.int r1]) rfl ?_
  refine go_iload_n (pc := 10) dX5_isIn_10 rfl rfl ?_
  obtain ⟨r3, e4, h⟩ := ok_bind h
  refine go_cS (pc := 11) (As := [.int a2]) (st := [.int r1]) (E_X5_bitOf e4) rfl oX5_bitOf iX5_bitOf kX5_320 rfl (Nat.le_of_ble_eq_true rfl) ⟨Nat.le_of_ble_eq_true rfl, Nat.le_of_ble_eq_true rfl⟩ ⟨rfl, rfl⟩ dX5_isIn_11 (st2 := [.int r3, .int r1]) rfl ?_
  refine go_iand (pc := 14) dX5_isIn_14 ?_
  refine go_if_eq (pc := 15) (tgt := 22) dX5_isIn_15 rfl (fun c5 => ?_) (fun c5 => ?_)
  · replace h := ifp h c5
    refine go_iconst (pc := 22) (v := 0) dX5_isIn_22 ci_0 ?_
    cases h
    exact go_iret (pc := 23) (Or.inr ⟨rfl, Or.inl rfl⟩) ⟨Nat.zero_le _, Nat.zero_le _⟩ dX5_isIn_23
  · replace h := ifn h c5
    refine go_iconst (pc := 18) (v := 1) dX5_isIn_18 ci_1 ?_
    refine go_goto (pc := 19) (tgt := 23) dX5_isIn_19 rfl ?_
    cases h
    exact go_iret (pc := 23) (Or.inr ⟨rfl, Or.inr rfl⟩) ⟨Nat.zero_le _, Nat.zero_le _⟩ dX5_isIn_23
def eX5_hasBit (a0 : Int32) (a1 : Int32) (V : Mm) : Option (Int32) :=
  if ((a0 >>> (a1 &&& 31)) &&& 1) = 0 then
    some 0
  else
    some 1
set_option maxHeartbeats 4000000 in
set_option maxRecDepth 100000 in
theorem E_X5_hasBit {a0 : Int32} {a1 : Int32} {V : Mm} {res : Int32}  (h : eX5_hasBit a0 a1 V = some res) : Ev mX5_hasBit [.int a0, .int a1] (hC V) (some (.int res)) (hC V) := by
  refine Ev.of (n := 0) oX5_hasBit.1 (Nat.le_of_ble_eq_true rfl) ?_
  unfold eX5_hasBit at h
  show Go mX5_hasBit 0 [some (.int a0), some (.int a1)] [] (hC V) 0 0 (some (.int res)) (hC V)
  refine go_iload_n (pc := 0) dX5_hasBit_0 rfl rfl ?_
  refine go_iload_n (pc := 1) dX5_hasBit_1 rfl rfl ?_
  refine go_ishr (pc := 2) dX5_hasBit_2 ?_
  refine go_iconst (pc := 3) (v := 1) dX5_hasBit_3 ci_1 ?_
  refine go_iand (pc := 4) dX5_hasBit_4 ?_
  refine go_if_eq (pc := 5) (tgt := 12) dX5_hasBit_5 rfl (fun c1 => ?_) (fun c1 => ?_)
  · replace h := ifp h c1
    refine go_iconst (pc := 12) (v := 0) dX5_hasBit_12 ci_0 ?_
    cases h
    exact go_iret (pc := 13) (Or.inr ⟨rfl, Or.inl rfl⟩) ⟨Nat.zero_le _, Nat.zero_le _⟩ dX5_hasBit_13
  · replace h := ifn h c1
    refine go_iconst (pc := 8) (v := 1) dX5_hasBit_8 ci_1 ?_
    refine go_goto (pc := 9) (tgt := 13) dX5_hasBit_9 rfl ?_
    cases h
    exact go_iret (pc := 13) (Or.inr ⟨rfl, Or.inr rfl⟩) ⟨Nat.zero_le _, Nat.zero_le _⟩ dX5_hasBit_13
def eX5_passesOne (a1 : Int32) (a2 : Int32) (a3 : Int32) (V : Mm) : Option (Int32) :=
  if a2 < 0 ∨ 20 ≤ a2.toNatClampNeg then none else
  if a2 < 0 ∨ 20 ≤ a2.toNatClampNeg then none else
  if a2 < 0 ∨ 20 ≤ a2.toNatClampNeg then none else
  if (V 85 a2.toNatClampNeg) = 0 then
    (eX5_isIn a1 (V 86 a2.toNatClampNeg) V).bind fun r8 =>
    if r8 = 0 ∨ r8 = 1 then
      some r8
    else none
  else
  if (V 85 a2.toNatClampNeg) = 1 then
    (eX2_value 28 a1 5 V).bind fun r12 =>
    if (V 86 a2.toNatClampNeg) ≤ r12 then
      some 0
    else
      some 1
  else
  if (V 85 a2.toNatClampNeg) = 2 then
    (eX2_value 28 a1 5 V).bind fun r16 =>
    if r16 < (V 86 a2.toNatClampNeg) then
      some 0
    else
      some 1
  else
  if (V 85 a2.toNatClampNeg) = 3 then
    (eX2_value 28 a1 4 V).bind fun r20 =>
    if (V 86 a2.toNatClampNeg) ≤ r20 then
      some 0
    else
      some 1
  else
  if (V 85 a2.toNatClampNeg) = 4 then
    (eX2_value 28 a1 4 V).bind fun r24 =>
    if r24 < (V 86 a2.toNatClampNeg) then
      some 0
    else
      some 1
  else
  if (V 85 a2.toNatClampNeg) = 5 then
    (eX2_value 28 a1 6 V).bind fun r28 =>
    (eX5_hasBit r28 (V 86 a2.toNatClampNeg) V).bind fun r30 =>
    if r30 = 0 ∨ r30 = 1 then
      some r30
    else none
  else
  if (V 85 a2.toNatClampNeg) = 6 then
    (eX2_value 28 a1 0 V).bind fun r34 =>
    if r34 = (V 86 a2.toNatClampNeg) then
      some 1
    else
      some 0
  else
  if (V 85 a2.toNatClampNeg) = 7 then
    (eX2_value 28 a1 7 V).bind fun r38 =>
    if r38 = (V 86 a2.toNatClampNeg) then
      some 1
    else
      some 0
  else
  if (V 85 a2.toNatClampNeg) = 8 then
    (eX5_hasBit a3 (V 86 a2.toNatClampNeg) V).bind fun r42 =>
    if r42 = 0 then
      some 0
    else
      (eX5_hasBit a3 (V 87 a2.toNatClampNeg) V).bind fun r45 =>
      if r45 = 0 then
        some 0
      else
        some 1
  else
  if (V 85 a2.toNatClampNeg) = 9 then
    (eX5_hasBit a3 (V 86 a2.toNatClampNeg) V).bind fun r49 =>
    if r49 = 0 then
      (eX5_hasBit a3 (V 87 a2.toNatClampNeg) V).bind fun r52 =>
      if r52 = 0 then
        some 0
      else
        some 1
    else
      some 1
  else
  (eX5_hasBit a3 (V 86 a2.toNatClampNeg) V).bind fun r4 =>
  if r4 = 0 then
    some 1
  else
    some 0
set_option maxHeartbeats 4000000 in
set_option maxRecDepth 100000 in
theorem E_X5_passesOne {a1 : Int32} {a2 : Int32} {a3 : Int32} {V : Mm} {res : Int32}  (h : eX5_passesOne a1 a2 a3 V = some res) : Ev mX5_passesOne [.ref 0, .int a1, .int a2, .int a3] (hC V) (some (.int res)) (hC V) := by
  refine Ev.of (n := 2) oX5_passesOne.1 (Nat.le_of_ble_eq_true rfl) ?_
  unfold eX5_passesOne at h
  show Go mX5_passesOne 0 [some (.ref 0), some (.int a1), some (.int a2), some (.int a3), none, none] [] (hC V) 0 0 (some (.int res)) (hC V)
  refine go_aload_n (pc := 0) dX5_passesOne_0 rfl rfl ?_
  refine go_getP (pc := 1) (a := 84) fX5_50 (by decide) (show TC 0 = (5 + 5, 13) from rfl) rfl dX5_passesOne_1 ?_
  refine go_getP (pc := 4) (a := 86) fX5_372 (by decide) (show TC 84 = (1 + 5, 4) from rfl) rfl dX5_passesOne_4 ?_
  refine go_iload_n (pc := 7) dX5_passesOne_7 rfl rfl ?_
  obtain ⟨c1, h⟩ := ok_not h
  refine go_ia (pc := 8) (v := V 86 a2.toNatClampNeg) (show TC 86 = (0, 20) from rfl) (vin c1) dX5_passesOne_8 rfl ?_
  refine go_istore (pc := 9) (i := 4) dX5_passesOne_9 (Nat.le_of_ble_eq_true rfl) (L2 := [some (.ref 0), some (.int a1), some (.int a2), some (.int a3), some (.int (V 86 a2.toNatClampNeg)), none]) rfl ?_
  refine go_aload_n (pc := 11) dX5_passesOne_11 rfl rfl ?_
  refine go_getP (pc := 12) (a := 84) fX5_50 (by decide) (show TC 0 = (5 + 5, 13) from rfl) rfl dX5_passesOne_12 ?_
  refine go_getP (pc := 15) (a := 87) fX5_375 (by decide) (show TC 84 = (1 + 5, 4) from rfl) rfl dX5_passesOne_15 ?_
  refine go_iload_n (pc := 18) dX5_passesOne_18 rfl rfl ?_
  obtain ⟨c2, h⟩ := ok_not h
  refine go_ia (pc := 19) (v := V 87 a2.toNatClampNeg) (show TC 87 = (0, 20) from rfl) (vin c2) dX5_passesOne_19 rfl ?_
  refine go_istore (pc := 20) (i := 5) dX5_passesOne_20 (Nat.le_of_ble_eq_true rfl) (L2 := [some (.ref 0), some (.int a1), some (.int a2), some (.int a3), some (.int (V 86 a2.toNatClampNeg)), some (.int (V 87 a2.toNatClampNeg))]) rfl ?_
  refine go_aload_n (pc := 22) dX5_passesOne_22 rfl rfl ?_
  refine go_getP (pc := 23) (a := 84) fX5_50 (by decide) (show TC 0 = (5 + 5, 13) from rfl) rfl dX5_passesOne_23 ?_
  refine go_getP (pc := 26) (a := 85) fX5_378 (by decide) (show TC 84 = (1 + 5, 4) from rfl) rfl dX5_passesOne_26 ?_
  refine go_iload_n (pc := 29) dX5_passesOne_29 rfl rfl ?_
  obtain ⟨c3, h⟩ := ok_not h
  refine go_ia (pc := 30) (v := V 85 a2.toNatClampNeg) (show TC 85 = (0, 20) from rfl) (vin c3) dX5_passesOne_30 rfl ?_
  by_cases c7 : (V 85 a2.toNatClampNeg) = 0
  · replace h := ifp h c7
    refine go_tabIn (pc := 31) (tgt := 84) dX5_passesOne_31 (by rw [c7]; decide) (by rw [c7]; decide) (off := 53) (by rw [c7]; rfl) rfl ?_
    refine go_aload_n (pc := 84) dX5_passesOne_84 rfl rfl ?_
    refine go_iload_n (pc := 85) dX5_passesOne_85 rfl rfl ?_
    refine go_iload (pc := 86) dX5_passesOne_86 rfl ?_
    obtain ⟨r8, e9, h⟩ := ok_bind h
    refine go_cV (pc := 88) (ci := 5) (As := [.int a1, .int (V 86 a2.toNatClampNeg)]) (st := []) (E_X5_isIn e9) rfl oX5_isIn iX5_isIn sX5_isIn kX5_169 rfl (show TC 0 = (5 + 5, 13) from rfl) rfl (Nat.le_of_ble_eq_true rfl) ⟨Nat.le_of_ble_eq_true rfl, Nat.le_of_ble_eq_true rfl⟩ ⟨rfl, rfl⟩ dX5_passesOne_88 (st2 := [.int r8]) rfl ?_
    obtain ⟨c10, h⟩ := ok_if h
    cases h
    exact go_iret (pc := 91) (Or.inr ⟨rfl, c10⟩) ⟨Nat.zero_le _, Nat.zero_le _⟩ dX5_passesOne_91
  replace h := ifn h c7
  by_cases c11 : (V 85 a2.toNatClampNeg) = 1
  · replace h := ifp h c11
    refine go_tabIn (pc := 31) (tgt := 92) dX5_passesOne_31 (by rw [c11]; decide) (by rw [c11]; decide) (off := 61) (by rw [c11]; rfl) rfl ?_
    refine go_aload_n (pc := 92) dX5_passesOne_92 rfl rfl ?_
    refine go_getP (pc := 93) (a := 28) fX5_34 (by decide) (show TC 0 = (5 + 5, 13) from rfl) rfl dX5_passesOne_93 ?_
    refine go_iload_n (pc := 96) dX5_passesOne_96 rfl rfl ?_
    refine go_iconst (pc := 97) (v := 5) dX5_passesOne_97 ci_5 ?_
    obtain ⟨r12, e13, h⟩ := ok_bind h
    refine go_cV (pc := 98) (ci := 2) (As := [.int a1, .int 5]) (st := []) (E_X2_value isK_28 e13) rfl oX2_value iX2_value sX2_value kX5_152 rfl (K_T isK_28) rfl (Nat.le_of_ble_eq_true rfl) ⟨Nat.le_of_ble_eq_true rfl, Nat.le_of_ble_eq_true rfl⟩ ⟨rfl, rfl⟩ dX5_passesOne_98 (st2 := [.int r12]) rfl ?_
    refine go_iload (pc := 101) dX5_passesOne_101 rfl ?_
    refine go_icmp_ge (pc := 103) (tgt := 110) dX5_passesOne_103 rfl (fun c14 => ?_) (fun c14 => ?_)
    · replace h := ifp h c14
      refine go_iconst (pc := 110) (v := 0) dX5_passesOne_110 ci_0 ?_
      cases h
      exact go_iret (pc := 111) (Or.inr ⟨rfl, Or.inl rfl⟩) ⟨Nat.zero_le _, Nat.zero_le _⟩ dX5_passesOne_111
    · replace h := ifn h c14
      refine go_iconst (pc := 106) (v := 1) dX5_passesOne_106 ci_1 ?_
      refine go_goto (pc := 107) (tgt := 111) dX5_passesOne_107 rfl ?_
      cases h
      exact go_iret (pc := 111) (Or.inr ⟨rfl, Or.inr rfl⟩) ⟨Nat.zero_le _, Nat.zero_le _⟩ dX5_passesOne_111
  replace h := ifn h c11
  by_cases c15 : (V 85 a2.toNatClampNeg) = 2
  · replace h := ifp h c15
    refine go_tabIn (pc := 31) (tgt := 112) dX5_passesOne_31 (by rw [c15]; decide) (by rw [c15]; decide) (off := 81) (by rw [c15]; rfl) rfl ?_
    refine go_aload_n (pc := 112) dX5_passesOne_112 rfl rfl ?_
    refine go_getP (pc := 113) (a := 28) fX5_34 (by decide) (show TC 0 = (5 + 5, 13) from rfl) rfl dX5_passesOne_113 ?_
    refine go_iload_n (pc := 116) dX5_passesOne_116 rfl rfl ?_
    refine go_iconst (pc := 117) (v := 5) dX5_passesOne_117 ci_5 ?_
    obtain ⟨r16, e17, h⟩ := ok_bind h
    refine go_cV (pc := 118) (ci := 2) (As := [.int a1, .int 5]) (st := []) (E_X2_value isK_28 e17) rfl oX2_value iX2_value sX2_value kX5_152 rfl (K_T isK_28) rfl (Nat.le_of_ble_eq_true rfl) ⟨Nat.le_of_ble_eq_true rfl, Nat.le_of_ble_eq_true rfl⟩ ⟨rfl, rfl⟩ dX5_passesOne_118 (st2 := [.int r16]) rfl ?_
    refine go_iload (pc := 121) dX5_passesOne_121 rfl ?_
    refine go_icmp_lt (pc := 123) (tgt := 130) dX5_passesOne_123 rfl (fun c18 => ?_) (fun c18 => ?_)
    · replace h := ifp h c18
      refine go_iconst (pc := 130) (v := 0) dX5_passesOne_130 ci_0 ?_
      cases h
      exact go_iret (pc := 131) (Or.inr ⟨rfl, Or.inl rfl⟩) ⟨Nat.zero_le _, Nat.zero_le _⟩ dX5_passesOne_131
    · replace h := ifn h c18
      refine go_iconst (pc := 126) (v := 1) dX5_passesOne_126 ci_1 ?_
      refine go_goto (pc := 127) (tgt := 131) dX5_passesOne_127 rfl ?_
      cases h
      exact go_iret (pc := 131) (Or.inr ⟨rfl, Or.inr rfl⟩) ⟨Nat.zero_le _, Nat.zero_le _⟩ dX5_passesOne_131
  replace h := ifn h c15
  by_cases c19 : (V 85 a2.toNatClampNeg) = 3
  · replace h := ifp h c19
    refine go_tabIn (pc := 31) (tgt := 132) dX5_passesOne_31 (by rw [c19]; decide) (by rw [c19]; decide) (off := 101) (by rw [c19]; rfl) rfl ?_
    refine go_aload_n (pc := 132) dX5_passesOne_132 rfl rfl ?_
    refine go_getP (pc := 133) (a := 28) fX5_34 (by decide) (show TC 0 = (5 + 5, 13) from rfl) rfl dX5_passesOne_133 ?_
    refine go_iload_n (pc := 136) dX5_passesOne_136 rfl rfl ?_
    refine go_iconst (pc := 137) (v := 4) dX5_passesOne_137 ci_4 ?_
    obtain ⟨r20, e21, h⟩ := ok_bind h
    refine go_cV (pc := 138) (ci := 2) (As := [.int a1, .int 4]) (st := []) (E_X2_value isK_28 e21) rfl oX2_value iX2_value sX2_value kX5_152 rfl (K_T isK_28) rfl (Nat.le_of_ble_eq_true rfl) ⟨Nat.le_of_ble_eq_true rfl, Nat.le_of_ble_eq_true rfl⟩ ⟨rfl, rfl⟩ dX5_passesOne_138 (st2 := [.int r20]) rfl ?_
    refine go_iload (pc := 141) dX5_passesOne_141 rfl ?_
    refine go_icmp_ge (pc := 143) (tgt := 150) dX5_passesOne_143 rfl (fun c22 => ?_) (fun c22 => ?_)
    · replace h := ifp h c22
      refine go_iconst (pc := 150) (v := 0) dX5_passesOne_150 ci_0 ?_
      cases h
      exact go_iret (pc := 151) (Or.inr ⟨rfl, Or.inl rfl⟩) ⟨Nat.zero_le _, Nat.zero_le _⟩ dX5_passesOne_151
    · replace h := ifn h c22
      refine go_iconst (pc := 146) (v := 1) dX5_passesOne_146 ci_1 ?_
      refine go_goto (pc := 147) (tgt := 151) dX5_passesOne_147 rfl ?_
      cases h
      exact go_iret (pc := 151) (Or.inr ⟨rfl, Or.inr rfl⟩) ⟨Nat.zero_le _, Nat.zero_le _⟩ dX5_passesOne_151
  replace h := ifn h c19
  by_cases c23 : (V 85 a2.toNatClampNeg) = 4
  · replace h := ifp h c23
    refine go_tabIn (pc := 31) (tgt := 152) dX5_passesOne_31 (by rw [c23]; decide) (by rw [c23]; decide) (off := 121) (by rw [c23]; rfl) rfl ?_
    refine go_aload_n (pc := 152) dX5_passesOne_152 rfl rfl ?_
    refine go_getP (pc := 153) (a := 28) fX5_34 (by decide) (show TC 0 = (5 + 5, 13) from rfl) rfl dX5_passesOne_153 ?_
    refine go_iload_n (pc := 156) dX5_passesOne_156 rfl rfl ?_
    refine go_iconst (pc := 157) (v := 4) dX5_passesOne_157 ci_4 ?_
    obtain ⟨r24, e25, h⟩ := ok_bind h
    refine go_cV (pc := 158) (ci := 2) (As := [.int a1, .int 4]) (st := []) (E_X2_value isK_28 e25) rfl oX2_value iX2_value sX2_value kX5_152 rfl (K_T isK_28) rfl (Nat.le_of_ble_eq_true rfl) ⟨Nat.le_of_ble_eq_true rfl, Nat.le_of_ble_eq_true rfl⟩ ⟨rfl, rfl⟩ dX5_passesOne_158 (st2 := [.int r24]) rfl ?_
    refine go_iload (pc := 161) dX5_passesOne_161 rfl ?_
    refine go_icmp_lt (pc := 163) (tgt := 170) dX5_passesOne_163 rfl (fun c26 => ?_) (fun c26 => ?_)
    · replace h := ifp h c26
      refine go_iconst (pc := 170) (v := 0) dX5_passesOne_170 ci_0 ?_
      cases h
      exact go_iret (pc := 171) (Or.inr ⟨rfl, Or.inl rfl⟩) ⟨Nat.zero_le _, Nat.zero_le _⟩ dX5_passesOne_171
    · replace h := ifn h c26
      refine go_iconst (pc := 166) (v := 1) dX5_passesOne_166 ci_1 ?_
      refine go_goto (pc := 167) (tgt := 171) dX5_passesOne_167 rfl ?_
      cases h
      exact go_iret (pc := 171) (Or.inr ⟨rfl, Or.inr rfl⟩) ⟨Nat.zero_le _, Nat.zero_le _⟩ dX5_passesOne_171
  replace h := ifn h c23
  by_cases c27 : (V 85 a2.toNatClampNeg) = 5
  · replace h := ifp h c27
    refine go_tabIn (pc := 31) (tgt := 172) dX5_passesOne_31 (by rw [c27]; decide) (by rw [c27]; decide) (off := 141) (by rw [c27]; rfl) rfl ?_
    refine go_aload_n (pc := 172) dX5_passesOne_172 rfl rfl ?_
    refine go_getP (pc := 173) (a := 28) fX5_34 (by decide) (show TC 0 = (5 + 5, 13) from rfl) rfl dX5_passesOne_173 ?_
    refine go_iload_n (pc := 176) dX5_passesOne_176 rfl rfl ?_
    refine go_bipush (pc := 177) (v := 6) dX5_passesOne_177 cb_6 ?_
    obtain ⟨r28, e29, h⟩ := ok_bind h
    refine go_cV (pc := 179) (ci := 2) (As := [.int a1, .int 6]) (st := []) (E_X2_value isK_28 e29) rfl oX2_value iX2_value sX2_value kX5_152 rfl (K_T isK_28) rfl (Nat.le_of_ble_eq_true rfl) ⟨Nat.le_of_ble_eq_true rfl, Nat.le_of_ble_eq_true rfl⟩ ⟨rfl, rfl⟩ dX5_passesOne_179 (st2 := [.int r28]) rfl ?_
    refine go_iload (pc := 182) dX5_passesOne_182 rfl ?_
    obtain ⟨r30, e31, h⟩ := ok_bind h
    refine go_cS (pc := 184) (As := [.int r28, .int (V 86 a2.toNatClampNeg)]) (st := []) (E_X5_hasBit e31) rfl oX5_hasBit iX5_hasBit kX5_369 rfl (Nat.le_of_ble_eq_true rfl) ⟨Nat.le_of_ble_eq_true rfl, Nat.le_of_ble_eq_true rfl⟩ ⟨rfl, rfl⟩ dX5_passesOne_184 (st2 := [.int r30]) rfl ?_
    obtain ⟨c32, h⟩ := ok_if h
    cases h
    exact go_iret (pc := 187) (Or.inr ⟨rfl, c32⟩) ⟨Nat.zero_le _, Nat.zero_le _⟩ dX5_passesOne_187
  replace h := ifn h c27
  by_cases c33 : (V 85 a2.toNatClampNeg) = 6
  · replace h := ifp h c33
    refine go_tabIn (pc := 31) (tgt := 188) dX5_passesOne_31 (by rw [c33]; decide) (by rw [c33]; decide) (off := 157) (by rw [c33]; rfl) rfl ?_
    refine go_aload_n (pc := 188) dX5_passesOne_188 rfl rfl ?_
    refine go_getP (pc := 189) (a := 28) fX5_34 (by decide) (show TC 0 = (5 + 5, 13) from rfl) rfl dX5_passesOne_189 ?_
    refine go_iload_n (pc := 192) dX5_passesOne_192 rfl rfl ?_
    refine go_iconst (pc := 193) (v := 0) dX5_passesOne_193 ci_0 ?_
    obtain ⟨r34, e35, h⟩ := ok_bind h
    refine go_cV (pc := 194) (ci := 2) (As := [.int a1, .int 0]) (st := []) (E_X2_value isK_28 e35) rfl oX2_value iX2_value sX2_value kX5_152 rfl (K_T isK_28) rfl (Nat.le_of_ble_eq_true rfl) ⟨Nat.le_of_ble_eq_true rfl, Nat.le_of_ble_eq_true rfl⟩ ⟨rfl, rfl⟩ dX5_passesOne_194 (st2 := [.int r34]) rfl ?_
    refine go_iload (pc := 197) dX5_passesOne_197 rfl ?_
    refine go_icmp_ne (pc := 199) (tgt := 206) dX5_passesOne_199 rfl (fun c36 => ?_) (fun c36 => ?_)
    · replace h := ifn h c36
      refine go_iconst (pc := 206) (v := 0) dX5_passesOne_206 ci_0 ?_
      cases h
      exact go_iret (pc := 207) (Or.inr ⟨rfl, Or.inl rfl⟩) ⟨Nat.zero_le _, Nat.zero_le _⟩ dX5_passesOne_207
    · replace h := ifp h c36
      refine go_iconst (pc := 202) (v := 1) dX5_passesOne_202 ci_1 ?_
      refine go_goto (pc := 203) (tgt := 207) dX5_passesOne_203 rfl ?_
      cases h
      exact go_iret (pc := 207) (Or.inr ⟨rfl, Or.inr rfl⟩) ⟨Nat.zero_le _, Nat.zero_le _⟩ dX5_passesOne_207
  replace h := ifn h c33
  by_cases c37 : (V 85 a2.toNatClampNeg) = 7
  · replace h := ifp h c37
    refine go_tabIn (pc := 31) (tgt := 208) dX5_passesOne_31 (by rw [c37]; decide) (by rw [c37]; decide) (off := 177) (by rw [c37]; rfl) rfl ?_
    refine go_aload_n (pc := 208) dX5_passesOne_208 rfl rfl ?_
    refine go_getP (pc := 209) (a := 28) fX5_34 (by decide) (show TC 0 = (5 + 5, 13) from rfl) rfl dX5_passesOne_209 ?_
    refine go_iload_n (pc := 212) dX5_passesOne_212 rfl rfl ?_
    refine go_bipush (pc := 213) (v := 7) dX5_passesOne_213 cb_7 ?_
    obtain ⟨r38, e39, h⟩ := ok_bind h
    refine go_cV (pc := 215) (ci := 2) (As := [.int a1, .int 7]) (st := []) (E_X2_value isK_28 e39) rfl oX2_value iX2_value sX2_value kX5_152 rfl (K_T isK_28) rfl (Nat.le_of_ble_eq_true rfl) ⟨Nat.le_of_ble_eq_true rfl, Nat.le_of_ble_eq_true rfl⟩ ⟨rfl, rfl⟩ dX5_passesOne_215 (st2 := [.int r38]) rfl ?_
    refine go_iload (pc := 218) dX5_passesOne_218 rfl ?_
    refine go_icmp_ne (pc := 220) (tgt := 227) dX5_passesOne_220 rfl (fun c40 => ?_) (fun c40 => ?_)
    · replace h := ifn h c40
      refine go_iconst (pc := 227) (v := 0) dX5_passesOne_227 ci_0 ?_
      cases h
      exact go_iret (pc := 228) (Or.inr ⟨rfl, Or.inl rfl⟩) ⟨Nat.zero_le _, Nat.zero_le _⟩ dX5_passesOne_228
    · replace h := ifp h c40
      refine go_iconst (pc := 223) (v := 1) dX5_passesOne_223 ci_1 ?_
      refine go_goto (pc := 224) (tgt := 228) dX5_passesOne_224 rfl ?_
      cases h
      exact go_iret (pc := 228) (Or.inr ⟨rfl, Or.inr rfl⟩) ⟨Nat.zero_le _, Nat.zero_le _⟩ dX5_passesOne_228
  replace h := ifn h c37
  by_cases c41 : (V 85 a2.toNatClampNeg) = 8
  · replace h := ifp h c41
    refine go_tabIn (pc := 31) (tgt := 229) dX5_passesOne_31 (by rw [c41]; decide) (by rw [c41]; decide) (off := 198) (by rw [c41]; rfl) rfl ?_
    refine go_iload_n (pc := 229) dX5_passesOne_229 rfl rfl ?_
    refine go_iload (pc := 230) dX5_passesOne_230 rfl ?_
    obtain ⟨r42, e43, h⟩ := ok_bind h
    refine go_cS (pc := 232) (As := [.int a3, .int (V 86 a2.toNatClampNeg)]) (st := []) (E_X5_hasBit e43) rfl oX5_hasBit iX5_hasBit kX5_369 rfl (Nat.le_of_ble_eq_true rfl) ⟨Nat.le_of_ble_eq_true rfl, Nat.le_of_ble_eq_true rfl⟩ ⟨rfl, rfl⟩ dX5_passesOne_232 (st2 := [.int r42]) rfl ?_
    refine go_if_eq (pc := 235) (tgt := 251) dX5_passesOne_235 rfl (fun c44 => ?_) (fun c44 => ?_)
    · replace h := ifp h c44
      refine go_iconst (pc := 251) (v := 0) dX5_passesOne_251 ci_0 ?_
      cases h
      exact go_iret (pc := 252) (Or.inr ⟨rfl, Or.inl rfl⟩) ⟨Nat.zero_le _, Nat.zero_le _⟩ dX5_passesOne_252
    · replace h := ifn h c44
      refine go_iload_n (pc := 238) dX5_passesOne_238 rfl rfl ?_
      refine go_iload (pc := 239) dX5_passesOne_239 rfl ?_
      obtain ⟨r45, e46, h⟩ := ok_bind h
      refine go_cS (pc := 241) (As := [.int a3, .int (V 87 a2.toNatClampNeg)]) (st := []) (E_X5_hasBit e46) rfl oX5_hasBit iX5_hasBit kX5_369 rfl (Nat.le_of_ble_eq_true rfl) ⟨Nat.le_of_ble_eq_true rfl, Nat.le_of_ble_eq_true rfl⟩ ⟨rfl, rfl⟩ dX5_passesOne_241 (st2 := [.int r45]) rfl ?_
      refine go_if_eq (pc := 244) (tgt := 251) dX5_passesOne_244 rfl (fun c47 => ?_) (fun c47 => ?_)
      · replace h := ifp h c47
        refine go_iconst (pc := 251) (v := 0) dX5_passesOne_251 ci_0 ?_
        cases h
        exact go_iret (pc := 252) (Or.inr ⟨rfl, Or.inl rfl⟩) ⟨Nat.zero_le _, Nat.zero_le _⟩ dX5_passesOne_252
      · replace h := ifn h c47
        refine go_iconst (pc := 247) (v := 1) dX5_passesOne_247 ci_1 ?_
        refine go_goto (pc := 248) (tgt := 252) dX5_passesOne_248 rfl ?_
        cases h
        exact go_iret (pc := 252) (Or.inr ⟨rfl, Or.inr rfl⟩) ⟨Nat.zero_le _, Nat.zero_le _⟩ dX5_passesOne_252
  replace h := ifn h c41
  by_cases c48 : (V 85 a2.toNatClampNeg) = 9
  · replace h := ifp h c48
    refine go_tabIn (pc := 31) (tgt := 253) dX5_passesOne_31 (by rw [c48]; decide) (by rw [c48]; decide) (off := 222) (by rw [c48]; rfl) rfl ?_
    refine go_iload_n (pc := 253) dX5_passesOne_253 rfl rfl ?_
    refine go_iload (pc := 254) dX5_passesOne_254 rfl ?_
    obtain ⟨r49, e50, h⟩ := ok_bind h
    refine go_cS (pc := 256) (As := [.int a3, .int (V 86 a2.toNatClampNeg)]) (st := []) (E_X5_hasBit e50) rfl oX5_hasBit iX5_hasBit kX5_369 rfl (Nat.le_of_ble_eq_true rfl) ⟨Nat.le_of_ble_eq_true rfl, Nat.le_of_ble_eq_true rfl⟩ ⟨rfl, rfl⟩ dX5_passesOne_256 (st2 := [.int r49]) rfl ?_
    refine go_if_ne (pc := 259) (tgt := 271) dX5_passesOne_259 rfl (fun c51 => ?_) (fun c51 => ?_)
    · replace h := ifn h c51
      refine go_iconst (pc := 271) (v := 1) dX5_passesOne_271 ci_1 ?_
      refine go_goto (pc := 272) (tgt := 276) dX5_passesOne_272 rfl ?_
      cases h
      exact go_iret (pc := 276) (Or.inr ⟨rfl, Or.inr rfl⟩) ⟨Nat.zero_le _, Nat.zero_le _⟩ dX5_passesOne_276
    · replace h := ifp h c51
      refine go_iload_n (pc := 262) dX5_passesOne_262 rfl rfl ?_
      refine go_iload (pc := 263) dX5_passesOne_263 rfl ?_
      obtain ⟨r52, e53, h⟩ := ok_bind h
      refine go_cS (pc := 265) (As := [.int a3, .int (V 87 a2.toNatClampNeg)]) (st := []) (E_X5_hasBit e53) rfl oX5_hasBit iX5_hasBit kX5_369 rfl (Nat.le_of_ble_eq_true rfl) ⟨Nat.le_of_ble_eq_true rfl, Nat.le_of_ble_eq_true rfl⟩ ⟨rfl, rfl⟩ dX5_passesOne_265 (st2 := [.int r52]) rfl ?_
      refine go_if_eq (pc := 268) (tgt := 275) dX5_passesOne_268 rfl (fun c54 => ?_) (fun c54 => ?_)
      · replace h := ifp h c54
        refine go_iconst (pc := 275) (v := 0) dX5_passesOne_275 ci_0 ?_
        cases h
        exact go_iret (pc := 276) (Or.inr ⟨rfl, Or.inl rfl⟩) ⟨Nat.zero_le _, Nat.zero_le _⟩ dX5_passesOne_276
      · replace h := ifn h c54
        refine go_iconst (pc := 271) (v := 1) dX5_passesOne_271 ci_1 ?_
        refine go_goto (pc := 272) (tgt := 276) dX5_passesOne_272 rfl ?_
        cases h
        exact go_iret (pc := 276) (Or.inr ⟨rfl, Or.inr rfl⟩) ⟨Nat.zero_le _, Nat.zero_le _⟩ dX5_passesOne_276
  replace h := ifn h c48
  have hh55 : (V 85 a2.toNatClampNeg : Int32).toInt < 0 ∨ 9 < (V 85 a2.toNatClampNeg : Int32).toInt := by
    have nc7 := nti (K := 0) c7 (by decide)
    have nc11 := nti (K := 1) c11 (by decide)
    have nc15 := nti (K := 2) c15 (by decide)
    have nc19 := nti (K := 3) c19 (by decide)
    have nc23 := nti (K := 4) c23 (by decide)
    have nc27 := nti (K := 5) c27 (by decide)
    have nc33 := nti (K := 6) c33 (by decide)
    have nc37 := nti (K := 7) c37 (by decide)
    have nc41 := nti (K := 8) c41 (by decide)
    have nc48 := nti (K := 9) c48 (by decide)
    omega
  refine go_tabOut (pc := 31) (tgt := 277) dX5_passesOne_31 hh55 rfl ?_
  refine go_iload_n (pc := 277) dX5_passesOne_277 rfl rfl ?_
  refine go_iload (pc := 278) dX5_passesOne_278 rfl ?_
  obtain ⟨r4, e5, h⟩ := ok_bind h
  refine go_cS (pc := 280) (As := [.int a3, .int (V 86 a2.toNatClampNeg)]) (st := []) (E_X5_hasBit e5) rfl oX5_hasBit iX5_hasBit kX5_369 rfl (Nat.le_of_ble_eq_true rfl) ⟨Nat.le_of_ble_eq_true rfl, Nat.le_of_ble_eq_true rfl⟩ ⟨rfl, rfl⟩ dX5_passesOne_280 (st2 := [.int r4]) rfl ?_
  refine go_if_ne (pc := 283) (tgt := 290) dX5_passesOne_283 rfl (fun c6 => ?_) (fun c6 => ?_)
  · replace h := ifn h c6
    refine go_iconst (pc := 290) (v := 0) dX5_passesOne_290 ci_0 ?_
    cases h
    exact go_iret (pc := 291) (Or.inr ⟨rfl, Or.inl rfl⟩) ⟨Nat.zero_le _, Nat.zero_le _⟩ dX5_passesOne_291
  · replace h := ifp h c6
    refine go_iconst (pc := 286) (v := 1) dX5_passesOne_286 ci_1 ?_
    refine go_goto (pc := 287) (tgt := 291) dX5_passesOne_287 rfl ?_
    cases h
    exact go_iret (pc := 291) (Or.inr ⟨rfl, Or.inr rfl⟩) ⟨Nat.zero_le _, Nat.zero_le _⟩ dX5_passesOne_291
