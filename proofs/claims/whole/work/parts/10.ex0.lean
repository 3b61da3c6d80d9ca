def eX0_begin (o : Nat) (a1 : Int32) (a2 : Int32) (V : Mm) : Option (Mm) :=
  some (wr (wr (wr (wr (wr (wr V o 1 a1) o 2 a2) o 3 (-1)) o 4 0) o 5 0) o 6 0)
set_option maxHeartbeats 4000000 in
set_option maxRecDepth 100000 in
theorem E_X0_begin {o : Nat} {a1 : Int32} {a2 : Int32} {V : Mm} {res : Mm} (ho : isCall o) (h : eX0_begin o a1 a2 V = some res) : Ev mX0_begin [.ref o, .int a1, .int a2] (hC V) none (hC res) := by
  refine Ev.of (n := 0) oX0_begin.1 (Nat.le_of_ble_eq_true rfl) ?_
  unfold eX0_begin at h
  show Go mX0_begin 0 [some (.ref o), some (.int a1), some (.int a2)] [] (hC V) 0 0 none (hC res)
  refine go_aload_n (pc := 0) dX0_begin_0 rfl rfl ?_
  refine go_iload_n (pc := 1) dX0_begin_1 rfl rfl ?_
  refine go_putI (pc := 2) (k := 1) fX0_15 (Or.inl rfl) (Or.inl rfl) (C_T ho) dX0_begin_2 ?_
  refine go_aload_n (pc := 5) dX0_begin_5 rfl rfl ?_
  refine go_iload_n (pc := 6) dX0_begin_6 rfl rfl ?_
  refine go_putI (pc := 7) (k := 2) fX0_19 (Or.inl rfl) (Or.inl rfl) (C_T ho) dX0_begin_7 ?_
  refine go_aload_n (pc := 10) dX0_begin_10 rfl rfl ?_
  refine go_iconst (pc := 11) (v := (-1)) dX0_begin_11 ci_m1 ?_
  refine go_putI (pc := 12) (k := 3) fX0_22 (Or.inl rfl) (Or.inl rfl) (C_T ho) dX0_begin_12 ?_
  refine go_aload_n (pc := 15) dX0_begin_15 rfl rfl ?_
  refine go_iconst (pc := 16) (v := 0) dX0_begin_16 ci_0 ?_
  refine go_putI (pc := 17) (k := 4) fX0_25 (Or.inl rfl) (Or.inl rfl) (C_T ho) dX0_begin_17 ?_
  refine go_aload_n (pc := 20) dX0_begin_20 rfl rfl ?_
  refine go_iconst (pc := 21) (v := 0) dX0_begin_21 ci_0 ?_
  refine go_putI (pc := 22) (k := 5) fX0_28 (Or.inl rfl) (Or.inl rfl) (C_T ho) dX0_begin_22 ?_
  refine go_aload_n (pc := 25) dX0_begin_25 rfl rfl ?_
  refine go_iconst (pc := 26) (v := 0) dX0_begin_26 ci_0 ?_
  refine go_putI (pc := 27) (k := 6) fX0_31 (Or.inl rfl) (Or.inl rfl) (C_T ho) dX0_begin_27 ?_
  cases h
  exact go_vret (pc := 30) rfl ⟨Nat.zero_le _, Nat.zero_le _⟩ dX0_begin_30
def eX1_isThere (a1 : Int32) (V : Mm) : Option (Int32) :=
  if a1 < 0 then
    some 0
  else
    if (V 84 3) ≤ a1 then
      some 0
    else
      some 1
set_option maxHeartbeats 4000000 in
set_option maxRecDepth 100000 in
theorem E_X1_isThere {a1 : Int32} {V : Mm} {res : Int32}  (h : eX1_isThere a1 V = some res) : Ev mX1_isThere [.ref 84, .int a1] (hC V) (some (.int res)) (hC V) := by
  refine Ev.of (n := 0) oX1_isThere.1 (Nat.le_of_ble_eq_true rfl) ?_
  unfold eX1_isThere at h
  show Go mX1_isThere 0 [some (.ref 84), some (.int a1)] [] (hC V) 0 0 (some (.int res)) (hC V)
  refine go_iload_n (pc := 0) dX1_isThere_0 rfl rfl ?_
  refine go_if_lt (pc := 1) (tgt := 16) dX1_isThere_1 rfl (fun c1 => ?_) (fun c1 => ?_)
  · replace h := ifp h c1
    refine go_iconst (pc := 16) (v := 0) dX1_isThere_16 ci_0 ?_
    cases h
    exact go_iret (pc := 17) (Or.inr ⟨rfl, Or.inl rfl⟩) ⟨Nat.zero_le _, Nat.zero_le _⟩ dX1_isThere_17
  · replace h := ifn h c1
    refine go_iload_n (pc := 4) dX1_isThere_4 rfl rfl ?_
    refine go_aload_n (pc := 5) dX1_isThere_5 rfl rfl ?_
    refine go_gI (pc := 6) (v := V 84 3) fX1_21 (by decide) (show TC 84 = (1 + 5, 4) from rfl) dX1_isThere_6 rfl ?_
    refine go_icmp_ge (pc := 9) (tgt := 16) dX1_isThere_9 rfl (fun c2 => ?_) (fun c2 => ?_)
    · replace h := ifp h c2
      refine go_iconst (pc := 16) (v := 0) dX1_isThere_16 ci_0 ?_
      cases h
      exact go_iret (pc := 17) (Or.inr ⟨rfl, Or.inl rfl⟩) ⟨Nat.zero_le _, Nat.zero_le _⟩ dX1_isThere_17
    · replace h := ifn h c2
      refine go_iconst (pc := 12) (v := 1) dX1_isThere_12 ci_1 ?_
      refine go_goto (pc := 13) (tgt := 17) dX1_isThere_13 rfl ?_
      cases h
      exact go_iret (pc := 17) (Or.inr ⟨rfl, Or.inr rfl⟩) ⟨Nat.zero_le _, Nat.zero_le _⟩ dX1_isThere_17
def eX1_add (a1 : Int32) (a2 : Int32) (a3 : Int32) (V : Mm) : Option (Int32 × Mm) :=
  if (V 84 3) < 20 then
    if V 84 3 < 0 ∨ 20 ≤ (V 84 3).toNatClampNeg then none else
    if V 84 3 < 0 ∨ 20 ≤ (V 84 3).toNatClampNeg then none else
    if V 84 3 < 0 ∨ 20 ≤ (V 84 3).toNatClampNeg then none else
    some (V 84 3, (wr (wr (wr (wr V 85 ((V 84 3).toNatClampNeg) a1) 86 ((V 84 3).toNatClampNeg) a2) 87 ((V 84 3).toNatClampNeg) a3) 84 3 ((V 84 3) + 1)))
  else
    some ((-4), V)
set_option maxHeartbeats 4000000 in
set_option maxRecDepth 100000 in
theorem E_X1_add {a1 : Int32} {a2 : Int32} {a3 : Int32} {V : Mm} {res : Int32 × Mm}  (h : eX1_add a1 a2 a3 V = some res) : Ev mX1_add [.ref 84, .int a1, .int a2, .int a3] (hC V) (some (.int res.1)) (hC res.2) := by
  refine Ev.of (n := 0) oX1_add.1 (Nat.le_of_ble_eq_true rfl) ?_
  unfold eX1_add at h
  show Go mX1_add 0 [some (.ref 84), some (.int a1), some (.int a2), some (.int a3)] [] (hC V) 0 0 (some (.int res.1)) (hC res.2)
  refine go_aload_n (pc := 0) dX1_add_0 rfl rfl ?_
  refine go_gI (pc := 1) (v := V 84 3) fX1_21 (by decide) (show TC 84 = (1 + 5, 4) from rfl) dX1_add_1 rfl ?_
  refine go_bipush (pc := 4) (v := 20) dX1_add_4 cb_20 ?_
  refine go_icmp_lt (pc := 6) (tgt := 12) dX1_add_6 rfl (fun c1 => ?_) (fun c1 => ?_)
  · replace h := ifp h c1
    refine go_aload_n (pc := 12) dX1_add_12 rfl rfl ?_
    refine go_getP (pc := 13) (a := 85) fX1_9 (by decide) (show TC 84 = (1 + 5, 4) from rfl) rfl dX1_add_13 ?_
    refine go_aload_n (pc := 16) dX1_add_16 rfl rfl ?_
    refine go_gI (pc := 17) (v := V 84 3) fX1_21 (by decide) (show TC 84 = (1 + 5, 4) from rfl) dX1_add_17 rfl ?_
    refine go_iload_n (pc := 20) dX1_add_20 rfl rfl ?_
    obtain ⟨c2, h⟩ := ok_not h
    refine go_iast (pc := 21) (show TC 85 = (0, 20) from rfl) (vin c2) dX1_add_21 ?_
    refine go_aload_n (pc := 22) dX1_add_22 rfl rfl ?_
    refine go_getP (pc := 23) (a := 86) fX1_15 (by decide) (show TC 84 = (1 + 5, 4) from rfl) rfl dX1_add_23 ?_
    refine go_aload_n (pc := 26) dX1_add_26 rfl rfl ?_
    refine go_gI (pc := 27) (v := V 84 3) fX1_21 (by decide) (show TC 84 = (1 + 5, 4) from rfl) dX1_add_27 rfl ?_
    refine go_iload_n (pc := 30) dX1_add_30 rfl rfl ?_
    obtain ⟨c3, h⟩ := ok_not h
    refine go_iast (pc := 31) (show TC 86 = (0, 20) from rfl) (vin c3) dX1_add_31 ?_
    refine go_aload_n (pc := 32) dX1_add_32 rfl rfl ?_
    refine go_getP (pc := 33) (a := 87) fX1_18 (by decide) (show TC 84 = (1 + 5, 4) from rfl) rfl dX1_add_33 ?_
    refine go_aload_n (pc := 36) dX1_add_36 rfl rfl ?_
    refine go_gI (pc := 37) (v := V 84 3) fX1_21 (by decide) (show TC 84 = (1 + 5, 4) from rfl) dX1_add_37 rfl ?_
    refine go_iload_n (pc := 40) dX1_add_40 rfl rfl ?_
    obtain ⟨c4, h⟩ := ok_not h
    refine go_iast (pc := 41) (show TC 87 = (0, 20) from rfl) (vin c4) dX1_add_41 ?_
    refine go_aload_n (pc := 42) dX1_add_42 rfl rfl ?_
    refine go_dup (pc := 43) dX1_add_43 ?_
    refine go_gI (pc := 44) (v := V 84 3) fX1_21 (by decide) (show TC 84 = (1 + 5, 4) from rfl) dX1_add_44 rfl ?_
    refine go_dup_x1 (pc := 47) dX1_add_47 ?_
    refine go_iconst (pc := 48) (v := 1) dX1_add_48 ci_1 ?_
    refine go_iadd (pc := 49) dX1_add_49 ?_
    refine go_putI (pc := 50) (k := 3) fX1_21 (Or.inl rfl) (Or.inl rfl) (show TC 84 = (1 + 5, 4) from rfl) dX1_add_50 ?_
    cases h
    exact go_iret (pc := 53) (Or.inl rfl) ⟨Nat.zero_le _, Nat.zero_le _⟩ dX1_add_53
  · replace h := ifn h c1
    refine go_bipush (pc := 9) (v := (-4)) dX1_add_9 cb_m4 ?_
    cases h
    exact go_iret (pc := 11) (Or.inl rfl) ⟨Nat.zero_le _, Nat.zero_le _⟩ dX1_add_11
def eX2_isThere (o : Nat) (a1 : Int32) (V : Mm) : Option (Int32) :=
  if a1 < 0 then
    some 0
  else
    if 50 ≤ a1 then
      some 0
    else
      if a1 < 0 ∨ 50 ≤ a1.toNatClampNeg then none else
      if (V (o + 11) a1.toNatClampNeg) = 1 then
        some 1
      else
        some 0
set_option maxHeartbeats 4000000 in
set_option maxRecDepth 100000 in
theorem E_X2_isThere {o : Nat} {a1 : Int32} {V : Mm} {res : Int32} (ho : isK o) (h : eX2_isThere o a1 V = some res) : Ev mX2_isThere [.ref o, .int a1] (hC V) (some (.int res)) (hC V) := by
  refine Ev.of (n := 0) oX2_isThere.1 (Nat.le_of_ble_eq_true rfl) ?_
  unfold eX2_isThere at h
  show Go mX2_isThere 0 [some (.ref o), some (.int a1)] [] (hC V) 0 0 (some (.int res)) (hC V)
  refine go_iload_n (pc := 0) dX2_isThere_0 rfl rfl ?_
  refine go_if_lt (pc := 1) (tgt := 27) dX2_isThere_1 rfl (fun c1 => ?_) (fun c1 => ?_)
  · replace h := ifp h c1
    refine go_iconst (pc := 27) (v := 0) dX2_isThere_27 ci_0 ?_
    cases h
    exact go_iret (pc := 28) (Or.inr ⟨rfl, Or.inl rfl⟩) ⟨Nat.zero_le _, Nat.zero_le _⟩ dX2_isThere_28
  · replace h := ifn h c1
    refine go_iload_n (pc := 4) dX2_isThere_4 rfl rfl ?_
    refine go_bipush (pc := 5) (v := 50) dX2_isThere_5 cb_50 ?_
    refine go_icmp_ge (pc := 7) (tgt := 27) dX2_isThere_7 rfl (fun c2 => ?_) (fun c2 => ?_)
    · replace h := ifp h c2
      refine go_iconst (pc := 27) (v := 0) dX2_isThere_27 ci_0 ?_
      cases h
      exact go_iret (pc := 28) (Or.inr ⟨rfl, Or.inl rfl⟩) ⟨Nat.zero_le _, Nat.zero_le _⟩ dX2_isThere_28
    · replace h := ifn h c2
      refine go_aload_n (pc := 10) dX2_isThere_10 rfl rfl ?_
      refine go_getP (pc := 11) (a := (o + 1)) fX2_11 (by decide) (K_T ho) (K_0 ho) dX2_isThere_11 ?_
      refine go_bipush (pc := 14) (v := 9) dX2_isThere_14 cb_9 ?_
      refine go_aald2 (pc := 16) (a := (o + 11)) (K_T0 ho) (vin (by decide)) (K_r0 ho (show (9 : Int32).toNatClampNeg < 10 by decide)) dX2_isThere_16 ?_
      refine go_iload_n (pc := 17) dX2_isThere_17 rfl rfl ?_
      obtain ⟨c3, h⟩ := ok_not h
      refine go_ia (pc := 18) (v := V (o + 11) a1.toNatClampNeg) (K_Tr0 ho (show (9 : Int32).toNatClampNeg < 10 by decide)) (vin c3) dX2_isThere_18 rfl ?_
      refine go_iconst (pc := 19) (v := 1) dX2_isThere_19 ci_1 ?_
      refine go_icmp_ne (pc := 20) (tgt := 27) dX2_isThere_20 rfl (fun c4 => ?_) (fun c4 => ?_)
      · replace h := ifn h c4
        refine go_iconst (pc := 27) (v := 0) dX2_isThere_27 ci_0 ?_
        cases h
        exact go_iret (pc := 28) (Or.inr ⟨rfl, Or.inl rfl⟩) ⟨Nat.zero_le _, Nat.zero_le _⟩ dX2_isThere_28
      · replace h := ifp h c4
        refine go_iconst (pc := 23) (v := 1) dX2_isThere_23 ci_1 ?_
        refine go_goto (pc := 24) (tgt := 28) dX2_isThere_24 rfl ?_
        cases h
        exact go_iret (pc := 28) (Or.inr ⟨rfl, Or.inr rfl⟩) ⟨Nat.zero_le _, Nat.zero_le _⟩ dX2_isThere_28
def eX2_value (o : Nat) (a1 : Int32) (a2 : Int32) (V : Mm) : Option (Int32) :=
  if a1 < 0 then
    some (-9)
  else
    if 50 ≤ a1 then
      some (-9)
    else
      if a2 < 0 then
        some (-9)
      else
        if a2 < 10 then
          if a2 < 0 ∨ 10 ≤ a2.toNatClampNeg then none else
          if a1 < 0 ∨ 50 ≤ a1.toNatClampNeg then none else
          some (V ((o + 2) + a2.toNatClampNeg) a1.toNatClampNeg)
        else
          some (-9)
set_option maxHeartbeats 4000000 in
set_option maxRecDepth 100000 in
theorem E_X2_value {o : Nat} {a1 : Int32} {a2 : Int32} {V : Mm} {res : Int32} (ho : isK o) (h : eX2_value o a1 a2 V = some res) : Ev mX2_value [.ref o, .int a1, .int a2] (hC V) (some (.int res)) (hC V) := by
  refine Ev.of (n := 0) oX2_value.1 (Nat.le_of_ble_eq_true rfl) ?_
  unfold eX2_value at h
  show Go mX2_value 0 [some (.ref o), some (.int a1), some (.int a2)] [] (hC V) 0 0 (some (.int res)) (hC V)
  refine go_iload_n (pc := 0) dX2_value_0 rfl rfl ?_
  refine go_if_lt (pc := 1) (tgt := 20) dX2_value_1 rfl (fun c1 => ?_) (fun c1 => ?_)
  · replace h := ifp h c1
    refine go_bipush (pc := 20) (v := (-9)) dX2_value_20 cb_m9 ?_
    cases h
    exact go_iret (pc := 22) (Or.inl rfl) ⟨Nat.zero_le _, Nat.zero_le _⟩ dX2_value_22
  · replace h := ifn h c1
    refine go_iload_n (pc := 4) dX2_value_4 rfl rfl ?_
    refine go_bipush (pc := 5) (v := 50) dX2_value_5 cb_50 ?_
    refine go_icmp_ge (pc := 7) (tgt := 20) dX2_value_7 rfl (fun c2 => ?_) (fun c2 => ?_)
    · replace h := ifp h c2
      refine go_bipush (pc := 20) (v := (-9)) dX2_value_20 cb_m9 ?_
      cases h
      exact go_iret (pc := 22) (Or.inl rfl) ⟨Nat.zero_le _, Nat.zero_le _⟩ dX2_value_22
    · replace h := ifn h c2
      refine go_iload_n (pc := 10) dX2_value_10 rfl rfl ?_
      refine go_if_lt (pc := 11) (tgt := 20) dX2_value_11 rfl (fun c3 => ?_) (fun c3 => ?_)
      · replace h := ifp h c3
        refine go_bipush (pc := 20) (v := (-9)) dX2_value_20 cb_m9 ?_
        cases h
        exact go_iret (pc := 22) (Or.inl rfl) ⟨Nat.zero_le _, Nat.zero_le _⟩ dX2_value_22
      · replace h := ifn h c3
        refine go_iload_n (pc := 14) dX2_value_14 rfl rfl ?_
        refine go_bipush (pc := 15) (v := 10) dX2_value_15 cb_10 ?_
        refine go_icmp_lt (pc := 17) (tgt := 23) dX2_value_17 rfl (fun c4 => ?_) (fun c4 => ?_)
        · replace h := ifp h c4
          refine go_aload_n (pc := 23) dX2_value_23 rfl rfl ?_
          refine go_getP (pc := 24) (a := (o + 1)) fX2_11 (by decide) (K_T ho) (K_0 ho) dX2_value_24 ?_
          refine go_iload_n (pc := 27) dX2_value_27 rfl rfl ?_
          obtain ⟨c5, h⟩ := ok_not h
          refine go_aald2 (pc := 28) (a := ((o + 2) + a2.toNatClampNeg)) (K_T0 ho) (vin c5) (K_r0 ho (vlt c5)) dX2_value_28 ?_
          refine go_iload_n (pc := 29) dX2_value_29 rfl rfl ?_
          obtain ⟨c6, h⟩ := ok_not h
          refine go_ia (pc := 30) (v := V ((o + 2) + a2.toNatClampNeg) a1.toNatClampNeg) (K_Tr0 ho (vlt c5)) (vin c6) dX2_value_30 rfl ?_
          cases h
          exact go_iret (pc := 31) (Or.inl rfl) ⟨Nat.zero_le _, Nat.zero_le _⟩ dX2_value_31
        · replace h := ifn h c4
          refine go_bipush (pc := 20) (v := (-9)) dX2_value_20 cb_m9 ?_
          cases h
          exact go_iret (pc := 22) (Or.inl rfl) ⟨Nat.zero_le _, Nat.zero_le _⟩ dX2_value_22
def eX2_set (o : Nat) (a1 : Int32) (a2 : Int32) (a3 : Int32) (V : Mm) : Option (Mm) :=
  if a1 < 0 then
    some V
  else
    if 50 ≤ a1 then
      some V
    else
      if a2 < 0 then
        some V
      else
        if 10 ≤ a2 then
          some V
        else
          if a2 < 0 ∨ 10 ≤ a2.toNatClampNeg then none else
          if a1 < 0 ∨ 50 ≤ a1.toNatClampNeg then none else
          some (wr V ((o + 2) + a2.toNatClampNeg) a1.toNatClampNeg a3)
set_option maxHeartbeats 4000000 in
set_option maxRecDepth 100000 in
theorem E_X2_set {o : Nat} {a1 : Int32} {a2 : Int32} {a3 : Int32} {V : Mm} {res : Mm} (ho : isK o) (h : eX2_set o a1 a2 a3 V = some res) : Ev mX2_set [.ref o, .int a1, .int a2, .int a3] (hC V) none (hC res) := by
  refine Ev.of (n := 0) oX2_set.1 (Nat.le_of_ble_eq_true rfl) ?_
  unfold eX2_set at h
  show Go mX2_set 0 [some (.ref o), some (.int a1), some (.int a2), some (.int a3)] [] (hC V) 0 0 none (hC res)
  refine go_iload_n (pc := 0) dX2_set_0 rfl rfl ?_
  refine go_if_lt (pc := 1) (tgt := 29) dX2_set_1 rfl (fun c1 => ?_) (fun c1 => ?_)
  · replace h := ifp h c1
    cases h
    exact go_vret (pc := 29) rfl ⟨Nat.zero_le _, Nat.zero_le _⟩ dX2_set_29
  · replace h := ifn h c1
    refine go_iload_n (pc := 4) dX2_set_4 rfl rfl ?_
    refine go_bipush (pc := 5) (v := 50) dX2_set_5 cb_50 ?_
    refine go_icmp_ge (pc := 7) (tgt := 29) dX2_set_7 rfl (fun c2 => ?_) (fun c2 => ?_)
    · replace h := ifp h c2
      cases h
      exact go_vret (pc := 29) rfl ⟨Nat.zero_le _, Nat.zero_le _⟩ dX2_set_29
    · replace h := ifn h c2
      refine go_iload_n (pc := 10) dX2_set_10 rfl rfl ?_
      refine go_if_lt (pc := 11) (tgt := 29) dX2_set_11 rfl (fun c3 => ?_) (fun c3 => ?_)
      · replace h := ifp h c3
        cases h
        exact go_vret (pc := 29) rfl ⟨Nat.zero_le _, Nat.zero_le _⟩ dX2_set_29
      · replace h := ifn h c3
        refine go_iload_n (pc := 14) dX2_set_14 rfl rfl ?_
        refine go_bipush (pc := 15) (v := 10) dX2_set_15 cb_10 ?_
        refine go_icmp_ge (pc := 17) (tgt := 29) dX2_set_17 rfl (fun c4 => ?_) (fun c4 => ?_)
        · replace h := ifp h c4
          cases h
          exact go_vret (pc := 29) rfl ⟨Nat.zero_le _, Nat.zero_le _⟩ dX2_set_29
        · replace h := ifn h c4
          refine go_aload_n (pc := 20) dX2_set_20 rfl rfl ?_
          refine go_getP (pc := 21) (a := (o + 1)) fX2_11 (by decide) (K_T ho) (K_0 ho) dX2_set_21 ?_
          refine go_iload_n (pc := 24) dX2_set_24 rfl rfl ?_
          obtain ⟨c5, h⟩ := ok_not h
          refine go_aald2 (pc := 25) (a := ((o + 2) + a2.toNatClampNeg)) (K_T0 ho) (vin c5) (K_r0 ho (vlt c5)) dX2_set_25 ?_
          refine go_iload_n (pc := 26) dX2_set_26 rfl rfl ?_
          refine go_iload_n (pc := 27) dX2_set_27 rfl rfl ?_
          obtain ⟨c6, h⟩ := ok_not h
          refine go_iast (pc := 28) (K_Tr0 ho (vlt c5)) (vin c6) dX2_set_28 ?_
          cases h
          exact go_vret (pc := 29) rfl ⟨Nat.zero_le _, Nat.zero_le _⟩ dX2_set_29
def eX2_isFull (o : Nat) (V : Mm) : Option (Int32) :=
  if (V o 3) ≤ (V o 4) then
    some 1
  else
    if (V o 4) < 50 then
      some 0
    else
      some 1
set_option maxHeartbeats 4000000 in
set_option maxRecDepth 100000 in
theorem E_X2_isFull {o : Nat} {V : Mm} {res : Int32} (ho : isK o) (h : eX2_isFull o V = some res) : Ev mX2_isFull [.ref o] (hC V) (some (.int res)) (hC V) := by
  refine Ev.of (n := 0) oX2_isFull.1 (Nat.le_of_ble_eq_true rfl) ?_
  unfold eX2_isFull at h
  show Go mX2_isFull 0 [some (.ref o)] [] (hC V) 0 0 (some (.int res)) (hC V)
  refine go_aload_n (pc := 0) dX2_isFull_0 rfl rfl ?_
  refine go_gI (pc := 1) (v := V o 4) fX2_27 (by decide) (K_T ho) dX2_isFull_1 rfl ?_
  refine go_aload_n (pc := 4) dX2_isFull_4 rfl rfl ?_
  refine go_gI (pc := 5) (v := V o 3) fX2_23 (by decide) (K_T ho) dX2_isFull_5 rfl ?_
  refine go_icmp_ge (pc := 8) (tgt := 20) dX2_isFull_8 rfl (fun c1 => ?_) (fun c1 => ?_)
  · replace h := ifp h c1
    refine go_iconst (pc := 20) (v := 1) dX2_isFull_20 ci_1 ?_
    refine go_goto (pc := 21) (tgt := 25) dX2_isFull_21 rfl ?_
    cases h
    exact go_iret (pc := 25) (Or.inr ⟨rfl, Or.inr rfl⟩) ⟨Nat.zero_le _, Nat.zero_le _⟩ dX2_isFull_25
  · replace h := ifn h c1
    refine go_aload_n (pc := 11) dX2_isFull_11 rfl rfl ?_
    refine go_gI (pc := 12) (v := V o 4) fX2_27 (by decide) (K_T ho) dX2_isFull_12 rfl ?_
    refine go_bipush (pc := 15) (v := 50) dX2_isFull_15 cb_50 ?_
    refine go_icmp_lt (pc := 17) (tgt := 24) dX2_isFull_17 rfl (fun c2 => ?_) (fun c2 => ?_)
    · replace h := ifp h c2
      refine go_iconst (pc := 24) (v := 0) dX2_isFull_24 ci_0 ?_
      cases h
      exact go_iret (pc := 25) (Or.inr ⟨rfl, Or.inl rfl⟩) ⟨Nat.zero_le _, Nat.zero_le _⟩ dX2_isFull_25
    · replace h := ifn h c2
      refine go_iconst (pc := 20) (v := 1) dX2_isFull_20 ci_1 ?_
      refine go_goto (pc := 21) (tgt := 25) dX2_isFull_21 rfl ?_
      cases h
      exact go_iret (pc := 25) (Or.inr ⟨rfl, Or.inr rfl⟩) ⟨Nat.zero_le _, Nat.zero_le _⟩ dX2_isFull_25
def eX2_touch (o : Nat) (a1 : Int32) (a2 : Int32) (V : Mm) : Option (Mm) :=
  if a1 < 0 then
    some V
  else
    if 50 ≤ a1 then
      some V
    else
      if a1 < 0 ∨ 50 ≤ a1.toNatClampNeg then none else
      some (wr (wr V (o + 23) a1.toNatClampNeg a2) o 7 1)
set_option maxHeartbeats 4000000 in
set_option maxRecDepth 100000 in
theorem E_X2_touch {o : Nat} {a1 : Int32} {a2 : Int32} {V : Mm} {res : Mm} (ho : isK o) (h : eX2_touch o a1 a2 V = some res) : Ev mX2_touch [.ref o, .int a1, .int a2] (hC V) none (hC res) := by
  refine Ev.of (n := 0) oX2_touch.1 (Nat.le_of_ble_eq_true rfl) ?_
  unfold eX2_touch at h
  show Go mX2_touch 0 [some (.ref o), some (.int a1), some (.int a2)] [] (hC V) 0 0 none (hC res)
  refine go_iload_n (pc := 0) dX2_touch_0 rfl rfl ?_
  refine go_if_lt (pc := 1) (tgt := 22) dX2_touch_1 rfl (fun c1 => ?_) (fun c1 => ?_)
  · replace h := ifp h c1
    cases h
    exact go_vret (pc := 22) rfl ⟨Nat.zero_le _, Nat.zero_le _⟩ dX2_touch_22
  · replace h := ifn h c1
    refine go_iload_n (pc := 4) dX2_touch_4 rfl rfl ?_
    refine go_bipush (pc := 5) (v := 50) dX2_touch_5 cb_50 ?_
    refine go_icmp_ge (pc := 7) (tgt := 22) dX2_touch_7 rfl (fun c2 => ?_) (fun c2 => ?_)
    · replace h := ifp h c2
      cases h
      exact go_vret (pc := 22) rfl ⟨Nat.zero_le _, Nat.zero_le _⟩ dX2_touch_22
    · replace h := ifn h c2
      refine go_aload_n (pc := 10) dX2_touch_10 rfl rfl ?_
      refine go_getP (pc := 11) (a := (o + 23)) fX2_19 (by decide) (K_T ho) (K_2 ho) dX2_touch_11 ?_
      refine go_iload_n (pc := 14) dX2_touch_14 rfl rfl ?_
      refine go_iload_n (pc := 15) dX2_touch_15 rfl rfl ?_
      obtain ⟨c3, h⟩ := ok_not h
      refine go_iast (pc := 16) (K_T2 ho) (vin c3) dX2_touch_16 ?_
      refine go_aload_n (pc := 17) dX2_touch_17 rfl rfl ?_
      refine go_iconst (pc := 18) (v := 1) dX2_touch_18 ci_1 ?_
      refine go_putI (pc := 19) (k := 7) fX2_38 (Or.inr ⟨rfl, Or.inr rfl⟩) (Or.inl rfl) (K_T ho) dX2_touch_19 ?_
      cases h
      exact go_vret (pc := 22) rfl ⟨Nat.zero_le _, Nat.zero_le _⟩ dX2_touch_22
def eX2_add (o : Nat) (V : Mm) : Option (Int32 × Mm) :=
  (eX2_set o (V o 4) 9 1 (wr V o 4 ((V o 4) + 1))).bind fun r1 =>
  (eX2_touch o (V o 4) 1 r1).bind fun r3 =>
  some (V o 4, r3)
set_option maxHeartbeats 4000000 in
set_option maxRecDepth 100000 in
theorem E_X2_add {o : Nat} {V : Mm} {res : Int32 × Mm} (ho : isK o) (h : eX2_add o V = some res) : Ev mX2_add [.ref o] (hC V) (some (.int res.1)) (hC res.2) := by
  refine Ev.of (n := 1) oX2_add.1 (Nat.le_of_ble_eq_true rfl) ?_
  unfold eX2_add at h
  show Go mX2_add 0 [some (.ref o), none] [] (hC V) 0 0 (some (.int res.1)) (hC res.2)
  refine go_aload_n (pc := 0) dX2_add_0 rfl rfl ?_
  refine go_gI (pc := 1) (v := V o 4) fX2_27 (by decide) (K_T ho) dX2_add_1 rfl ?_
  refine go_istore_n (pc := 4) (i := 1) dX2_add_4 rfl (Nat.le_of_ble_eq_true rfl) (L2 := [some (.ref o), some (.int (V o 4))]) rfl ?_
  refine go_aload_n (pc := 5) dX2_add_5 rfl rfl ?_
  refine go_dup (pc := 6) dX2_add_6 ?_
  refine go_gI (pc := 7) (v := V o 4) fX2_27 (by decide) (K_T ho) dX2_add_7 rfl ?_
  refine go_iconst (pc := 10) (v := 1) dX2_add_10 ci_1 ?_
  refine go_iadd (pc := 11) dX2_add_11 ?_
  refine go_putI (pc := 12) (k := 4) fX2_27 (Or.inl rfl) (Or.inl rfl) (K_T ho) dX2_add_12 ?_
  refine go_aload_n (pc := 15) dX2_add_15 rfl rfl ?_
  refine go_iload_n (pc := 16) dX2_add_16 rfl rfl ?_
  refine go_bipush (pc := 17) (v := 9) dX2_add_17 cb_9 ?_
  refine go_iconst (pc := 19) (v := 1) dX2_add_19 ci_1 ?_
  obtain ⟨r1, e2, h⟩ := ok_bind h
  refine go_cV (pc := 20) (ci := 2) (As := [.int (V o 4), .int 9, .int 1]) (st := []) (E_X2_set ho e2) rfl oX2_set iX2_set sX2_set kX2_30 rfl (K_T ho) rfl (Nat.le_of_ble_eq_true rfl) ⟨Nat.le_of_ble_eq_true rfl, Nat.le_of_ble_eq_true rfl⟩ ⟨rfl, rfl⟩ dX2_add_20 (st2 := []) rfl ?_
  refine go_aload_n (pc := 23) dX2_add_23 rfl rfl ?_
  refine go_iload_n (pc := 24) dX2_add_24 rfl rfl ?_
  refine go_iconst (pc := 25) (v := 1) dX2_add_25 ci_1 ?_
  obtain ⟨r3, e4, h⟩ := ok_bind h
  refine go_cV (pc := 26) (ci := 2) (As := [.int (V o 4), .int 1]) (st := []) (E_X2_touch ho e4) rfl oX2_touch iX2_touch sX2_touch kX2_34 rfl (K_T ho) rfl (Nat.le_of_ble_eq_true rfl) ⟨Nat.le_of_ble_eq_true rfl, Nat.le_of_ble_eq_true rfl⟩ ⟨rfl, rfl⟩ dX2_add_26 (st2 := []) rfl ?_
  refine go_iload_n (pc := 29) dX2_add_29 rfl rfl ?_
  cases h
  exact go_iret (pc := 30) (Or.inl rfl) ⟨Nat.zero_le _, Nat.zero_le _⟩ dX2_add_30
def eX2_remove (o : Nat) (a1 : Int32) (V : Mm) : Option (Mm) :=
  (eX2_set o a1 9 0 V).bind fun r1 =>
  (eX2_touch o a1 3 r1).bind fun r3 =>
  some r3
set_option maxHeartbeats 4000000 in
set_option maxRecDepth 100000 in
theorem E_X2_remove {o : Nat} {a1 : Int32} {V : Mm} {res : Mm} (ho : isK o) (h : eX2_remove o a1 V = some res) : Ev mX2_remove [.ref o, .int a1] (hC V) none (hC res) := by
  refine Ev.of (n := 0) oX2_remove.1 (Nat.le_of_ble_eq_true rfl) ?_
  unfold eX2_remove at h
  show Go mX2_remove 0 [some (.ref o), some (.int a1)] [] (hC V) 0 0 none (hC res)
  refine go_aload_n (pc := 0) dX2_remove_0 rfl rfl ?_
  refine go_iload_n (pc := 1) dX2_remove_1 rfl rfl ?_
  refine go_bipush (pc := 2) (v := 9) dX2_remove_2 cb_9 ?_
  refine go_iconst (pc := 4) (v := 0) dX2_remove_4 ci_0 ?_
  obtain ⟨r1, e2, h⟩ := ok_bind h
  refine go_cV (pc := 5) (ci := 2) (As := [.int a1, .int 9, .int 0]) (st := []) (E_X2_set ho e2) rfl oX2_set iX2_set sX2_set kX2_30 rfl (K_T ho) rfl (Nat.le_of_ble_eq_true rfl) ⟨Nat.le_of_ble_eq_true rfl, Nat.le_of_ble_eq_true rfl⟩ ⟨rfl, rfl⟩ dX2_remove_5 (st2 := []) rfl ?_
  refine go_aload_n (pc := 8) dX2_remove_8 rfl rfl ?_
  refine go_iload_n (pc := 9) dX2_remove_9 rfl rfl ?_
  refine go_iconst (pc := 10) (v := 3) dX2_remove_10 ci_3 ?_
  obtain ⟨r3, e4, h⟩ := ok_bind h
  refine go_cV (pc := 11) (ci := 2) (As := [.int a1, .int 3]) (st := []) (E_X2_touch ho e4) rfl oX2_touch iX2_touch sX2_touch kX2_34 rfl (K_T ho) rfl (Nat.le_of_ble_eq_true rfl) ⟨Nat.le_of_ble_eq_true rfl, Nat.le_of_ble_eq_true rfl⟩ ⟨rfl, rfl⟩ dX2_remove_11 (st2 := []) rfl ?_
  cases h
  exact go_vret (pc := 14) rfl ⟨Nat.zero_le _, Nat.zero_le _⟩ dX2_remove_14
def eX2_isTouched (o : Nat) (a1 : Int32) (V : Mm) : Option (Int32) :=
  if a1 < 0 then
    some 0
  else
    if 50 ≤ a1 then
      some 0
    else
      if a1 < 0 ∨ 50 ≤ a1.toNatClampNeg then none else
      if (V (o + 23) a1.toNatClampNeg) = 0 then
        some 0
      else
        some 1
set_option maxHeartbeats 4000000 in
set_option maxRecDepth 100000 in
theorem E_X2_isTouched {o : Nat} {a1 : Int32} {V : Mm} {res : Int32} (ho : isK o) (h : eX2_isTouched o a1 V = some res) : Ev mX2_isTouched [.ref o, .int a1] (hC V) (some (.int res)) (hC V) := by
  refine Ev.of (n := 0) oX2_isTouched.1 (Nat.le_of_ble_eq_true rfl) ?_
  unfold eX2_isTouched at h
  show Go mX2_isTouched 0 [some (.ref o), some (.int a1)] [] (hC V) 0 0 (some (.int res)) (hC V)
  refine go_iload_n (pc := 0) dX2_isTouched_0 rfl rfl ?_
  refine go_if_lt (pc := 1) (tgt := 23) dX2_isTouched_1 rfl (fun c1 => ?_) (fun c1 => ?_)
  · replace h := ifp h c1
    refine go_iconst (pc := 23) (v := 0) dX2_isTouched_23 ci_0 ?_
    cases h
    exact go_iret (pc := 24) (Or.inr ⟨rfl, Or.inl rfl⟩) ⟨Nat.zero_le _, Nat.zero_le _⟩ dX2_isTouched_24
  · replace h := ifn h c1
    refine go_iload_n (pc := 4) dX2_isTouched_4 rfl rfl ?_
    refine go_bipush (pc := 5) (v := 50) dX2_isTouched_5 cb_50 ?_
    refine go_icmp_ge (pc := 7) (tgt := 23) dX2_isTouched_7 rfl (fun c2 => ?_) (fun c2 => ?_)
    · replace h := ifp h c2
      refine go_iconst (pc := 23) (v := 0) dX2_isTouched_23 ci_0 ?_
      cases h
      exact go_iret (pc := 24) (Or.inr ⟨rfl, Or.inl rfl⟩) ⟨Nat.zero_le _, Nat.zero_le _⟩ dX2_isTouched_24
    · replace h := ifn h c2
      refine go_aload_n (pc := 10) dX2_isTouched_10 rfl rfl ?_
      refine go_getP (pc := 11) (a := (o + 23)) fX2_19 (by decide) (K_T ho) (K_2 ho) dX2_isTouched_11 ?_
      refine go_iload_n (pc := 14) dX2_isTouched_14 rfl rfl ?_
      obtain ⟨c3, h⟩ := ok_not h
      refine go_ia (pc := 15) (v := V (o + 23) a1.toNatClampNeg) (K_T2 ho) (vin c3) dX2_isTouched_15 rfl ?_
      refine go_if_eq (pc := 16) (tgt := 23) dX2_isTouched_16 rfl (fun c4 => ?_) (fun c4 => ?_)
      · replace h := ifp h c4
        refine go_iconst (pc := 23) (v := 0) dX2_isTouched_23 ci_0 ?_
        cases h
        exact go_iret (pc := 24) (Or.inr ⟨rfl, Or.inl rfl⟩) ⟨Nat.zero_le _, Nat.zero_le _⟩ dX2_isTouched_24
      · replace h := ifn h c4
        refine go_iconst (pc := 19) (v := 1) dX2_isTouched_19 ci_1 ?_
        refine go_goto (pc := 20) (tgt := 24) dX2_isTouched_20 rfl ?_
        cases h
        exact go_iret (pc := 24) (Or.inr ⟨rfl, Or.inr rfl⟩) ⟨Nat.zero_le _, Nat.zero_le _⟩ dX2_isTouched_24
def eX2_howManyWith_b5 : Nat → Nat → Int32 → Int32 → Int32 → Int32 → Mm → Option (Int32)
  | 0, _, _, _, _, _, _ => none
  | n + 1, l0, l1, l2, l3, l4, V => 
    if (V l0 4) ≤ l4 then
      some l3
    else
      (eX2_isThere l0 l4 V).bind fun r2 =>
      if r2 = 0 then
        eX2_howManyWith_b5 n l0 l1 l2 l3 (l4 + 1) V
      else
        (eX2_value l0 l4 l1 V).bind fun r5 =>
        if r5 = l2 then
          eX2_howManyWith_b5 n l0 l1 l2 (l3 + 1) (l4 + 1) V
        else
          eX2_howManyWith_b5 n l0 l1 l2 l3 (l4 + 1) V
set_option maxHeartbeats 4000000 in
set_option maxRecDepth 100000 in
theorem gX2_howManyWith_b5 : ∀ (n : Nat) (l0 : Nat) (l1 : Int32) (l2 : Int32) (l3 : Int32) (l4 : Int32) (V : Mm) (res : Int32) (hl0 : isK l0), eX2_howManyWith_b5 n l0 l1 l2 l3 l4 V = some res → Go mX2_howManyWith 5 [some (.ref l0), some (.int l1), some (.int l2), some (.int l3), some (.int l4)] [] (hC V) 0 0 (some (.int res)) (hC V) := by
  intro n
  induction n with
  | zero =>
    intro l0 l1 l2 l3 l4 V res hl0 h
    cases h
  | succ n ih =>
    intro l0 l1 l2 l3 l4 V res hl0 h
    rw [eX2_howManyWith_b5] at h
    refine go_iload (pc := 5) dX2_howManyWith_5 rfl ?_
    refine go_aload_n (pc := 7) dX2_howManyWith_7 rfl rfl ?_
    refine go_gI (pc := 8) (v := V l0 4) fX2_27 (by decide) (K_T hl0) dX2_howManyWith_8 rfl ?_
    refine go_icmp_ge (pc := 11) (tgt := 43) dX2_howManyWith_11 rfl (fun c1 => ?_) (fun c1 => ?_)
    · replace h := ifp h c1
      refine go_iload_n (pc := 43) dX2_howManyWith_43 rfl rfl ?_
      cases h
      exact go_iret (pc := 44) (Or.inl rfl) ⟨Nat.zero_le _, Nat.zero_le _⟩ dX2_howManyWith_44
    · replace h := ifn h c1
      refine go_aload_n (pc := 14) dX2_howManyWith_14 rfl rfl ?_
      refine go_iload (pc := 15) dX2_howManyWith_15 rfl ?_
      obtain ⟨r2, e3, h⟩ := ok_bind h
      refine go_cV (pc := 17) (ci := 2) (As := [.int l4]) (st := []) (E_X2_isThere hl0 e3) rfl oX2_isThere iX2_isThere sX2_isThere kX2_46 rfl (K_T hl0) rfl (Nat.le_of_ble_eq_true rfl) ⟨Nat.le_of_ble_eq_true rfl, Nat.le_of_ble_eq_true rfl⟩ ⟨rfl, rfl⟩ dX2_howManyWith_17 (st2 := [.int r2]) rfl ?_
      refine go_if_eq (pc := 20) (tgt := 37) dX2_howManyWith_20 rfl (fun c4 => ?_) (fun c4 => ?_)
      · replace h := ifp h c4
        refine go_iinc (pc := 37) (v := (l4 + 1)) dX2_howManyWith_37 rfl (by rw [ci_1]) (Nat.le_of_ble_eq_true rfl) (L2 := [some (.ref l0), some (.int l1), some (.int l2), some (.int l3), some (.int (l4 + 1))]) rfl ?_
        refine go_goto (pc := 40) (tgt := 5) dX2_howManyWith_40 rfl ?_
        exact ih _ _ _ _ _ _ _ hl0 h
      · replace h := ifn h c4
        refine go_aload_n (pc := 23) dX2_howManyWith_23 rfl rfl ?_
        refine go_iload (pc := 24) dX2_howManyWith_24 rfl ?_
        refine go_iload_n (pc := 26) dX2_howManyWith_26 rfl rfl ?_
        obtain ⟨r5, e6, h⟩ := ok_bind h
        refine go_cV (pc := 27) (ci := 2) (As := [.int l4, .int l1]) (st := []) (E_X2_value hl0 e6) rfl oX2_value iX2_value sX2_value kX2_50 rfl (K_T hl0) rfl (Nat.le_of_ble_eq_true rfl) ⟨Nat.le_of_ble_eq_true rfl, Nat.le_of_ble_eq_true rfl⟩ ⟨rfl, rfl⟩ dX2_howManyWith_27 (st2 := [.int r5]) rfl ?_
        refine go_iload_n (pc := 30) dX2_howManyWith_30 rfl rfl ?_
        refine go_icmp_ne (pc := 31) (tgt := 37) dX2_howManyWith_31 rfl (fun c7 => ?_) (fun c7 => ?_)
        · replace h := ifn h c7
          refine go_iinc (pc := 37) (v := (l4 + 1)) dX2_howManyWith_37 rfl (by rw [ci_1]) (Nat.le_of_ble_eq_true rfl) (L2 := [some (.ref l0), some (.int l1), some (.int l2), some (.int l3), some (.int (l4 + 1))]) rfl ?_
          refine go_goto (pc := 40) (tgt := 5) dX2_howManyWith_40 rfl ?_
          exact ih _ _ _ _ _ _ _ hl0 h
        · replace h := ifp h c7
          refine go_iinc (pc := 34) (v := (l3 + 1)) dX2_howManyWith_34 rfl (by rw [ci_1]) (Nat.le_of_ble_eq_true rfl) (L2 := [some (.ref l0), some (.int l1), some (.int l2), some (.int (l3 + 1)), some (.int l4)]) rfl ?_
          refine go_iinc (pc := 37) (v := (l4 + 1)) dX2_howManyWith_37 rfl (by rw [ci_1]) (Nat.le_of_ble_eq_true rfl) (L2 := [some (.ref l0), some (.int l1), some (.int l2), some (.int (l3 + 1)), some (.int (l4 + 1))]) rfl ?_
          refine go_goto (pc := 40) (tgt := 5) dX2_howManyWith_40 rfl ?_
          exact ih _ _ _ _ _ _ _ hl0 h
def eX2_howManyWith (o : Nat) (a1 : Int32) (a2 : Int32) (V : Mm) : Option (Int32) :=
  eX2_howManyWith_b5 fu o a1 a2 0 0 V
set_option maxHeartbeats 4000000 in
set_option maxRecDepth 100000 in
theorem E_X2_howManyWith {o : Nat} {a1 : Int32} {a2 : Int32} {V : Mm} {res : Int32} (ho : isK o) (h : eX2_howManyWith o a1 a2 V = some res) : Ev mX2_howManyWith [.ref o, .int a1, .int a2] (hC V) (some (.int res)) (hC V) := by
  refine Ev.of (n := 2) oX2_howManyWith.1 (Nat.le_of_ble_eq_true rfl) ?_
  unfold eX2_howManyWith at h
  show Go mX2_howManyWith 0 [some (.ref o), some (.int a1), some (.int a2), none, none] [] (hC V) 0 0 (some (.int res)) (hC V)
  refine go_iconst (pc := 0) (v := 0) dX2_howManyWith_0 ci_0 ?_
  refine go_istore_n (pc := 1) (i := 3) dX2_howManyWith_1 rfl (Nat.le_of_ble_eq_true rfl) (L2 := [some (.ref o), some (.int a1), some (.int a2), some (.int 0), none]) rfl ?_
  refine go_iconst (pc := 2) (v := 0) dX2_howManyWith_2 ci_0 ?_
  refine go_istore (pc := 3) (i := 4) dX2_howManyWith_3 (Nat.le_of_ble_eq_true rfl) (L2 := [some (.ref o), some (.int a1), some (.int a2), some (.int 0), some (.int 0)]) rfl ?_
  exact gX2_howManyWith_b5 _ _ _ _ _ _ _ _ ho h
def eX2_howMany (o : Nat) (V : Mm) : Option (Int32) :=
  (eX2_howManyWith o 9 1 V).bind fun r1 =>
  some r1
set_option maxHeartbeats 4000000 in
set_option maxRecDepth 100000 in
theorem E_X2_howMany {o : Nat} {V : Mm} {res : Int32} (ho : isK o) (h : eX2_howMany o V = some res) : Ev mX2_howMany [.ref o] (hC V) (some (.int res)) (hC V) := by
  refine Ev.of (n := 0) oX2_howMany.1 (Nat.le_of_ble_eq_true rfl) ?_
  unfold eX2_howMany at h
  show Go mX2_howMany 0 [some (.ref o)] [] (hC V) 0 0 (some (.int res)) (hC V)
  refine go_aload_n (pc := 0) dX2_howMany_0 rfl rfl ?_
  refine go_bipush (pc := 1) (v := 9) dX2_howMany_1 cb_9 ?_
  refine go_iconst (pc := 3) (v := 1) dX2_howMany_3 ci_1 ?_
  obtain ⟨r1, e2, h⟩ := ok_bind h
  refine go_cV (pc := 4) (ci := 2) (As := [.int 9, .int 1]) (st := []) (E_X2_howManyWith ho e2) rfl oX2_howManyWith iX2_howManyWith sX2_howManyWith kX2_42 rfl (K_T ho) rfl (Nat.le_of_ble_eq_true rfl) ⟨Nat.le_of_ble_eq_true rfl, Nat.le_of_ble_eq_true rfl⟩ ⟨rfl, rfl⟩ dX2_howMany_4 (st2 := [.int r1]) rfl ?_
  cases h
  exact go_iret (pc := 7) (Or.inl rfl) ⟨Nat.zero_le _, Nat.zero_le _⟩ dX2_howMany_7
def eX2_idWith_b6 : Nat → Nat → Int32 → Int32 → Int32 → Int32 → Int32 → Mm → Option (Int32)
  | 0, _, _, _, _, _, _, _ => none
  | n + 1, l0, l1, l2, l3, l4, l5, V => 
    if (V l0 4) ≤ l5 then
      some (-1)
    else
      (eX2_isThere l0 l5 V).bind fun r2 =>
      if r2 = 0 then
        eX2_idWith_b6 n l0 l1 l2 l3 l4 (l5 + 1) V
      else
        (eX2_value l0 l5 l1 V).bind fun r5 =>
        if r5 = l2 then
          if l4 = l3 then
            some l5
          else
            eX2_idWith_b6 n l0 l1 l2 l3 (l4 + 1) (l5 + 1) V
        else
          eX2_idWith_b6 n l0 l1 l2 l3 l4 (l5 + 1) V
set_option maxHeartbeats 4000000 in
set_option maxRecDepth 100000 in
theorem gX2_idWith_b6 : ∀ (n : Nat) (l0 : Nat) (l1 : Int32) (l2 : Int32) (l3 : Int32) (l4 : Int32) (l5 : Int32) (V : Mm) (res : Int32) (hl0 : isK l0), eX2_idWith_b6 n l0 l1 l2 l3 l4 l5 V = some res → Go mX2_idWith 6 [some (.ref l0), some (.int l1), some (.int l2), some (.int l3), some (.int l4), some (.int l5)] [] (hC V) 0 0 (some (.int res)) (hC V) := by
  intro n
  induction n with
  | zero =>
    intro l0 l1 l2 l3 l4 l5 V res hl0 h
    cases h
  | succ n ih =>
    intro l0 l1 l2 l3 l4 l5 V res hl0 h
    rw [eX2_idWith_b6] at h
    refine go_iload (pc := 6) dX2_idWith_6 rfl ?_
    refine go_aload_n (pc := 8) dX2_idWith_8 rfl rfl ?_
    refine go_gI (pc := 9) (v := V l0 4) fX2_27 (by decide) (K_T hl0) dX2_idWith_9 rfl ?_
    refine go_icmp_ge (pc := 12) (tgt := 53) dX2_idWith_12 rfl (fun c1 => ?_) (fun c1 => ?_)
    · replace h := ifp h c1
      refine go_iconst (pc := 53) (v := (-1)) dX2_idWith_53 ci_m1 ?_
      cases h
      exact go_iret (pc := 54) (Or.inl rfl) ⟨Nat.zero_le _, Nat.zero_le _⟩ dX2_idWith_54
    · replace h := ifn h c1
      refine go_aload_n (pc := 15) dX2_idWith_15 rfl rfl ?_
      refine go_iload (pc := 16) dX2_idWith_16 rfl ?_
      obtain ⟨r2, e3, h⟩ := ok_bind h
      refine go_cV (pc := 18) (ci := 2) (As := [.int l5]) (st := []) (E_X2_isThere hl0 e3) rfl oX2_isThere iX2_isThere sX2_isThere kX2_46 rfl (K_T hl0) rfl (Nat.le_of_ble_eq_true rfl) ⟨Nat.le_of_ble_eq_true rfl, Nat.le_of_ble_eq_true rfl⟩ ⟨rfl, rfl⟩ dX2_idWith_18 (st2 := [.int r2]) rfl ?_
      refine go_if_eq (pc := 21) (tgt := 47) dX2_idWith_21 rfl (fun c4 => ?_) (fun c4 => ?_)
      · replace h := ifp h c4
        refine go_iinc (pc := 47) (v := (l5 + 1)) dX2_idWith_47 rfl (by rw [ci_1]) (Nat.le_of_ble_eq_true rfl) (L2 := [some (.ref l0), some (.int l1), some (.int l2), some (.int l3), some (.int l4), some (.int (l5 + 1))]) rfl ?_
        refine go_goto (pc := 50) (tgt := 6) dX2_idWith_50 rfl ?_
        exact ih _ _ _ _ _ _ _ _ hl0 h
      · replace h := ifn h c4
        refine go_aload_n (pc := 24) dX2_idWith_24 rfl rfl ?_
        refine go_iload (pc := 25) dX2_idWith_25 rfl ?_
        refine go_iload_n (pc := 27) dX2_idWith_27 rfl rfl ?_
        obtain ⟨r5, e6, h⟩ := ok_bind h
        refine go_cV (pc := 28) (ci := 2) (As := [.int l5, .int l1]) (st := []) (E_X2_value hl0 e6) rfl oX2_value iX2_value sX2_value kX2_50 rfl (K_T hl0) rfl (Nat.le_of_ble_eq_true rfl) ⟨Nat.le_of_ble_eq_true rfl, Nat.le_of_ble_eq_true rfl⟩ ⟨rfl, rfl⟩ dX2_idWith_28 (st2 := [.int r5]) rfl ?_
        refine go_iload_n (pc := 31) dX2_idWith_31 rfl rfl ?_
        refine go_icmp_ne (pc := 32) (tgt := 47) dX2_idWith_32 rfl (fun c7 => ?_) (fun c7 => ?_)
        · replace h := ifn h c7
          refine go_iinc (pc := 47) (v := (l5 + 1)) dX2_idWith_47 rfl (by rw [ci_1]) (Nat.le_of_ble_eq_true rfl) (L2 := [some (.ref l0), some (.int l1), some (.int l2), some (.int l3), some (.int l4), some (.int (l5 + 1))]) rfl ?_
          refine go_goto (pc := 50) (tgt := 6) dX2_idWith_50 rfl ?_
          exact ih _ _ _ _ _ _ _ _ hl0 h
        · replace h := ifp h c7
          refine go_iload (pc := 35) dX2_idWith_35 rfl ?_
          refine go_iload_n (pc := 37) dX2_idWith_37 rfl rfl ?_
          refine go_icmp_ne (pc := 38) (tgt := 44) dX2_idWith_38 rfl (fun c8 => ?_) (fun c8 => ?_)
          · replace h := ifn h c8
            refine go_iinc (pc := 44) (v := (l4 + 1)) dX2_idWith_44 rfl (by rw [ci_1]) (Nat.le_of_ble_eq_true rfl) (L2 := [some (.ref l0), some (.int l1), some (.int l2), some (.int l3), some (.int (l4 + 1)), some (.int l5)]) rfl ?_
            refine go_iinc (pc := 47) (v := (l5 + 1)) dX2_idWith_47 rfl (by rw [ci_1]) (Nat.le_of_ble_eq_true rfl) (L2 := [some (.ref l0), some (.int l1), some (.int l2), some (.int l3), some (.int (l4 + 1)), some (.int (l5 + 1))]) rfl ?_
            refine go_goto (pc := 50) (tgt := 6) dX2_idWith_50 rfl ?_
            exact ih _ _ _ _ _ _ _ _ hl0 h
          · replace h := ifp h c8
            refine go_iload (pc := 41) dX2_idWith_41 rfl ?_
            cases h
            exact go_iret (pc := 43) (Or.inl rfl) ⟨Nat.zero_le _, Nat.zero_le _⟩ dX2_idWith_43
def eX2_idWith (o : Nat) (a1 : Int32) (a2 : Int32) (a3 : Int32) (V : Mm) : Option (Int32) :=
  eX2_idWith_b6 fu o a1 a2 a3 0 0 V
set_option maxHeartbeats 4000000 in
set_option maxRecDepth 100000 in
theorem E_X2_idWith {o : Nat} {a1 : Int32} {a2 : Int32} {a3 : Int32} {V : Mm} {res : Int32} (ho : isK o) (h : eX2_idWith o a1 a2 a3 V = some res) : Ev mX2_idWith [.ref o, .int a1, .int a2, .int a3] (hC V) (some (.int res)) (hC V) := by
  refine Ev.of (n := 2) oX2_idWith.1 (Nat.le_of_ble_eq_true rfl) ?_
  unfold eX2_idWith at h
  show Go mX2_idWith 0 [some (.ref o), some (.int a1), some (.int a2), some (.int a3), none, none] [] (hC V) 0 0 (some (.int res)) (hC V)
  refine go_iconst (pc := 0) (v := 0) dX2_idWith_0 ci_0 ?_
  refine go_istore (pc := 1) (i := 4) dX2_idWith_1 (Nat.le_of_ble_eq_true rfl) (L2 := [some (.ref o), some (.int a1), some (.int a2), some (.int a3), some (.int 0), none]) rfl ?_
  refine go_iconst (pc := 3) (v := 0) dX2_idWith_3 ci_0 ?_
  refine go_istore (pc := 4) (i := 5) dX2_idWith_4 (Nat.le_of_ble_eq_true rfl) (L2 := [some (.ref o), some (.int a1), some (.int a2), some (.int a3), some (.int 0), some (.int 0)]) rfl ?_
  exact gX2_idWith_b6 _ _ _ _ _ _ _ _ _ ho h
def eX2_keep_b2 : Nat → Nat → Int32 → Mm → Option (Mm)
  | 0, _, _, _ => none
  | n + 1, l0, l1, V => 
    if 10 ≤ l1 then
      some (wr V l0 5 (V l0 4))
    else
      if l1 < 0 ∨ 10 ≤ l1.toNatClampNeg then none else
      if l1 < 0 ∨ 10 ≤ l1.toNatClampNeg then none else
      eX2_keep_b2 n l0 (l1 + 1) (wcp V ((l0 + 2) + l1.toNatClampNeg) ((l0 + 13) + l1.toNatClampNeg) 0 0 50)
set_option maxHeartbeats 4000000 in
set_option maxRecDepth 100000 in
theorem gX2_keep_b2 : ∀ (n : Nat) (l0 : Nat) (l1 : Int32) (V : Mm) (res : Mm) (hl0 : isK l0), eX2_keep_b2 n l0 l1 V = some res → Go mX2_keep 2 [some (.ref l0), some (.int l1)] [] (hC V) 0 0 none (hC res) := by
  intro n
  induction n with
  | zero =>
    intro l0 l1 V res hl0 h
    cases h
  | succ n ih =>
    intro l0 l1 V res hl0 h
    rw [eX2_keep_b2] at h
    refine go_iload_n (pc := 2) dX2_keep_2 rfl rfl ?_
    refine go_bipush (pc := 3) (v := 10) dX2_keep_3 cb_10 ?_
    refine go_icmp_ge (pc := 5) (tgt := 33) dX2_keep_5 rfl (fun c1 => ?_) (fun c1 => ?_)
    · replace h := ifp h c1
      refine go_aload_n (pc := 33) dX2_keep_33 rfl rfl ?_
      refine go_aload_n (pc := 34) dX2_keep_34 rfl rfl ?_
      refine go_gI (pc := 35) (v := V l0 4) fX2_27 (by decide) (K_T hl0) dX2_keep_35 rfl ?_
      refine go_putI (pc := 38) (k := 5) fX2_59 (Or.inl rfl) (Or.inl rfl) (K_T hl0) dX2_keep_38 ?_
      cases h
      exact go_vret (pc := 41) rfl ⟨Nat.zero_le _, Nat.zero_le _⟩ dX2_keep_41
    · replace h := ifn h c1
      refine go_aload_n (pc := 8) dX2_keep_8 rfl rfl ?_
      refine go_getP (pc := 9) (a := (l0 + 1)) fX2_11 (by decide) (K_T hl0) (K_0 hl0) dX2_keep_9 ?_
      refine go_iload_n (pc := 12) dX2_keep_12 rfl rfl ?_
      obtain ⟨c2, h⟩ := ok_not h
      refine go_aald2 (pc := 13) (a := ((l0 + 2) + l1.toNatClampNeg)) (K_T0 hl0) (vin c2) (K_r0 hl0 (vlt c2)) dX2_keep_13 ?_
      refine go_iconst (pc := 14) (v := 0) dX2_keep_14 ci_0 ?_
      refine go_aload_n (pc := 15) dX2_keep_15 rfl rfl ?_
      refine go_getP (pc := 16) (a := (l0 + 12)) fX2_16 (by decide) (K_T hl0) (K_1 hl0) dX2_keep_16 ?_
      refine go_iload_n (pc := 19) dX2_keep_19 rfl rfl ?_
      obtain ⟨c3, h⟩ := ok_not h
      refine go_aald2 (pc := 20) (a := ((l0 + 13) + l1.toNatClampNeg)) (K_T1 hl0) (vin c3) (K_r1 hl0 (vlt c3)) dX2_keep_20 ?_
      refine go_iconst (pc := 21) (v := 0) dX2_keep_21 ci_0 ?_
      refine go_bipush (pc := 22) (v := 50) dX2_keep_22 cb_50 ?_
      refine go_copy (pc := 24) ⟨kX2_53, wAcp⟩ (K_Tr0 hl0 (vlt c2)) (K_Tr1 hl0 (vlt c3)) (by decide) (by decide) (by decide) (by decide) (by decide) (Nat.le_of_ble_eq_true rfl) (by decide +kernel) dX2_keep_24 ?_
      refine go_iinc (pc := 27) (v := (l1 + 1)) dX2_keep_27 rfl (by rw [ci_1]) (Nat.le_of_ble_eq_true rfl) (L2 := [some (.ref l0), some (.int (l1 + 1))]) rfl ?_
      refine go_goto (pc := 30) (tgt := 2) dX2_keep_30 rfl ?_
      exact ih _ _ _ _ hl0 h
def eX2_keep (o : Nat) (V : Mm) : Option (Mm) :=
  eX2_keep_b2 fu o 0 V
set_option maxHeartbeats 4000000 in
set_option maxRecDepth 100000 in
theorem E_X2_keep {o : Nat} {V : Mm} {res : Mm} (ho : isK o) (h : eX2_keep o V = some res) : Ev mX2_keep [.ref o] (hC V) none (hC res) := by
  refine Ev.of (n := 1) oX2_keep.1 (Nat.le_of_ble_eq_true rfl) ?_
  unfold eX2_keep at h
  show Go mX2_keep 0 [some (.ref o), none] [] (hC V) 0 0 none (hC res)
  refine go_iconst (pc := 0) (v := 0) dX2_keep_0 ci_0 ?_
  refine go_istore_n (pc := 1) (i := 1) dX2_keep_1 rfl (Nat.le_of_ble_eq_true rfl) (L2 := [some (.ref o), some (.int 0)]) rfl ?_
  exact gX2_keep_b2 _ _ _ _ _ ho h
def eX2_forgetTouched_b2 : Nat → Nat → Int32 → Mm → Option (Mm)
  | 0, _, _, _ => none
  | n + 1, l0, l1, V => 
    if 50 ≤ l1 then
      some (wr V l0 7 0)
    else
      if l1 < 0 ∨ 50 ≤ l1.toNatClampNeg then none else
      eX2_forgetTouched_b2 n l0 (l1 + 1) (wr V (l0 + 23) l1.toNatClampNeg 0)
set_option maxHeartbeats 4000000 in
set_option maxRecDepth 100000 in
theorem gX2_forgetTouched_b2 : ∀ (n : Nat) (l0 : Nat) (l1 : Int32) (V : Mm) (res : Mm) (hl0 : isK l0), eX2_forgetTouched_b2 n l0 l1 V = some res → Go mX2_forgetTouched 2 [some (.ref l0), some (.int l1)] [] (hC V) 0 0 none (hC res) := by
  intro n
  induction n with
  | zero =>
    intro l0 l1 V res hl0 h
    cases h
  | succ n ih =>
    intro l0 l1 V res hl0 h
    rw [eX2_forgetTouched_b2] at h
    refine go_iload_n (pc := 2) dX2_forgetTouched_2 rfl rfl ?_
    refine go_bipush (pc := 3) (v := 50) dX2_forgetTouched_3 cb_50 ?_
    refine go_icmp_ge (pc := 5) (tgt := 21) dX2_forgetTouched_5 rfl (fun c1 => ?_) (fun c1 => ?_)
    · replace h := ifp h c1
      refine go_aload_n (pc := 21) dX2_forgetTouched_21 rfl rfl ?_
      refine go_iconst (pc := 22) (v := 0) dX2_forgetTouched_22 ci_0 ?_
      refine go_putI (pc := 23) (k := 7) fX2_38 (Or.inr ⟨rfl, Or.inl rfl⟩) (Or.inl rfl) (K_T hl0) dX2_forgetTouched_23 ?_
      cases h
      exact go_vret (pc := 26) rfl ⟨Nat.zero_le _, Nat.zero_le _⟩ dX2_forgetTouched_26
    · replace h := ifn h c1
      refine go_aload_n (pc := 8) dX2_forgetTouched_8 rfl rfl ?_
      refine go_getP (pc := 9) (a := (l0 + 23)) fX2_19 (by decide) (K_T hl0) (K_2 hl0) dX2_forgetTouched_9 ?_
      refine go_iload_n (pc := 12) dX2_forgetTouched_12 rfl rfl ?_
      refine go_iconst (pc := 13) (v := 0) dX2_forgetTouched_13 ci_0 ?_
      obtain ⟨c2, h⟩ := ok_not h
      refine go_iast (pc := 14) (K_T2 hl0) (vin c2) dX2_forgetTouched_14 ?_
      refine go_iinc (pc := 15) (v := (l1 + 1)) dX2_forgetTouched_15 rfl (by rw [ci_1]) (Nat.le_of_ble_eq_true rfl) (L2 := [some (.ref l0), some (.int (l1 + 1))]) rfl ?_
      refine go_goto (pc := 18) (tgt := 2) dX2_forgetTouched_18 rfl ?_
      exact ih _ _ _ _ hl0 h
def eX2_forgetTouched (o : Nat) (V : Mm) : Option (Mm) :=
  eX2_forgetTouched_b2 fu o 0 V
set_option maxHeartbeats 4000000 in
set_option maxRecDepth 100000 in
theorem E_X2_forgetTouched {o : Nat} {V : Mm} {res : Mm} (ho : isK o) (h : eX2_forgetTouched o V = some res) : Ev mX2_forgetTouched [.ref o] (hC V) none (hC res) := by
  refine Ev.of (n := 1) oX2_forgetTouched.1 (Nat.le_of_ble_eq_true rfl) ?_
  unfold eX2_forgetTouched at h
  show Go mX2_forgetTouched 0 [some (.ref o), none] [] (hC V) 0 0 none (hC res)
  refine go_iconst (pc := 0) (v := 0) dX2_forgetTouched_0 ci_0 ?_
  refine go_istore_n (pc := 1) (i := 1) dX2_forgetTouched_1 rfl (Nat.le_of_ble_eq_true rfl) (L2 := [some (.ref o), some (.int 0)]) rfl ?_
  exact gX2_forgetTouched_b2 _ _ _ _ _ ho h
def eX2_bringBack_b2 : Nat → Nat → Int32 → Mm → Option (Mm)
  | 0, _, _, _ => none
  | n + 1, l0, l1, V => 
    if 10 ≤ l1 then
      (eX2_forgetTouched l0 (wr V l0 4 (V l0 5))).bind fun r2 =>
      some r2
    else
      if l1 < 0 ∨ 10 ≤ l1.toNatClampNeg then none else
      if l1 < 0 ∨ 10 ≤ l1.toNatClampNeg then none else
      eX2_bringBack_b2 n l0 (l1 + 1) (wcp V ((l0 + 13) + l1.toNatClampNeg) ((l0 + 2) + l1.toNatClampNeg) 0 0 50)
set_option maxHeartbeats 4000000 in
set_option maxRecDepth 100000 in
theorem gX2_bringBack_b2 : ∀ (n : Nat) (l0 : Nat) (l1 : Int32) (V : Mm) (res : Mm) (hl0 : isK l0), eX2_bringBack_b2 n l0 l1 V = some res → Go mX2_bringBack 2 [some (.ref l0), some (.int l1)] [] (hC V) 0 0 none (hC res) := by
  intro n
  induction n with
  | zero =>
    intro l0 l1 V res hl0 h
    cases h
  | succ n ih =>
    intro l0 l1 V res hl0 h
    rw [eX2_bringBack_b2] at h
    refine go_iload_n (pc := 2) dX2_bringBack_2 rfl rfl ?_
    refine go_bipush (pc := 3) (v := 10) dX2_bringBack_3 cb_10 ?_
    refine go_icmp_ge (pc := 5) (tgt := 33) dX2_bringBack_5 rfl (fun c1 => ?_) (fun c1 => ?_)
    · replace h := ifp h c1
      refine go_aload_n (pc := 33) dX2_bringBack_33 rfl rfl ?_
      refine go_aload_n (pc := 34) dX2_bringBack_34 rfl rfl ?_
      refine go_gI (pc := 35) (v := V l0 5) fX2_59 (by decide) (K_T hl0) dX2_bringBack_35 rfl ?_
      refine go_putI (pc := 38) (k := 4) fX2_27 (Or.inl rfl) (Or.inl rfl) (K_T hl0) dX2_bringBack_38 ?_
      refine go_aload_n (pc := 41) dX2_bringBack_41 rfl rfl ?_
      obtain ⟨r2, e3, h⟩ := ok_bind h
      refine go_cV (pc := 42) (ci := 2) (As := []) (st := []) (E_X2_forgetTouched hl0 e3) rfl oX2_forgetTouched iX2_forgetTouched sX2_forgetTouched kX2_62 rfl (K_T hl0) rfl (Nat.le_of_ble_eq_true rfl) ⟨Nat.le_of_ble_eq_true rfl, Nat.le_of_ble_eq_true rfl⟩ ⟨rfl, rfl⟩ dX2_bringBack_42 (st2 := []) rfl ?_
      cases h
      exact go_vret (pc := 45) rfl ⟨Nat.zero_le _, Nat.zero_le _⟩ dX2_bringBack_45
    · replace h := ifn h c1
      refine go_aload_n (pc := 8) dX2_bringBack_8 rfl rfl ?_
      refine go_getP (pc := 9) (a := (l0 + 12)) fX2_16 (by decide) (K_T hl0) (K_1 hl0) dX2_bringBack_9 ?_
      refine go_iload_n (pc := 12) dX2_bringBack_12 rfl rfl ?_
      obtain ⟨c4, h⟩ := ok_not h
      refine go_aald2 (pc := 13) (a := ((l0 + 13) + l1.toNatClampNeg)) (K_T1 hl0) (vin c4) (K_r1 hl0 (vlt c4)) dX2_bringBack_13 ?_
      refine go_iconst (pc := 14) (v := 0) dX2_bringBack_14 ci_0 ?_
      refine go_aload_n (pc := 15) dX2_bringBack_15 rfl rfl ?_
      refine go_getP (pc := 16) (a := (l0 + 1)) fX2_11 (by decide) (K_T hl0) (K_0 hl0) dX2_bringBack_16 ?_
      refine go_iload_n (pc := 19) dX2_bringBack_19 rfl rfl ?_
      obtain ⟨c5, h⟩ := ok_not h
      refine go_aald2 (pc := 20) (a := ((l0 + 2) + l1.toNatClampNeg)) (K_T0 hl0) (vin c5) (K_r0 hl0 (vlt c5)) dX2_bringBack_20 ?_
      refine go_iconst (pc := 21) (v := 0) dX2_bringBack_21 ci_0 ?_
      refine go_bipush (pc := 22) (v := 50) dX2_bringBack_22 cb_50 ?_
      refine go_copy (pc := 24) ⟨kX2_53, wAcp⟩ (K_Tr1 hl0 (vlt c4)) (K_Tr0 hl0 (vlt c5)) (by decide) (by decide) (by decide) (by decide) (by decide) (Nat.le_of_ble_eq_true rfl) (by decide +kernel) dX2_bringBack_24 ?_
      refine go_iinc (pc := 27) (v := (l1 + 1)) dX2_bringBack_27 rfl (by rw [ci_1]) (Nat.le_of_ble_eq_true rfl) (L2 := [some (.ref l0), some (.int (l1 + 1))]) rfl ?_
      refine go_goto (pc := 30) (tgt := 2) dX2_bringBack_30 rfl ?_
      exact ih _ _ _ _ hl0 h
def eX2_bringBack (o : Nat) (V : Mm) : Option (Mm) :=
  eX2_bringBack_b2 fu o 0 V
set_option maxHeartbeats 4000000 in
set_option maxRecDepth 100000 in
theorem E_X2_bringBack {o : Nat} {V : Mm} {res : Mm} (ho : isK o) (h : eX2_bringBack o V = some res) : Ev mX2_bringBack [.ref o] (hC V) none (hC res) := by
  refine Ev.of (n := 1) oX2_bringBack.1 (Nat.le_of_ble_eq_true rfl) ?_
  unfold eX2_bringBack at h
  show Go mX2_bringBack 0 [some (.ref o), none] [] (hC V) 0 0 none (hC res)
  refine go_iconst (pc := 0) (v := 0) dX2_bringBack_0 ci_0 ?_
  refine go_istore_n (pc := 1) (i := 1) dX2_bringBack_1 rfl (Nat.le_of_ble_eq_true rfl) (L2 := [some (.ref o), some (.int 0)]) rfl ?_
  exact gX2_bringBack_b2 _ _ _ _ _ ho h
def eX3_at_b16 (l2 : Int32) (l3 : Int32) (V : Mm) : Option (Int32) :=
  if l3 < 0 then
    some (-9)
  else
    if 60 ≤ l3 then
      some (-9)
    else
      if l2 < 0 then
        some (-9)
      else
        if l2 < 4 then
          if l2 < 0 ∨ 4 ≤ l2.toNatClampNeg then none else
          if l3 < 0 ∨ 60 ≤ l3.toNatClampNeg then none else
          some (V (78 + l2.toNatClampNeg) l3.toNatClampNeg)
        else
          some (-9)
set_option maxHeartbeats 4000000 in
set_option maxRecDepth 100000 in
theorem gX3_at_b16 {l2 : Int32} {l3 : Int32} {V : Mm} {res : Int32}  (h : eX3_at_b16 l2 l3 V = some res) : Go mX3_at 16 [some (.ref 76), none, some (.int l2), some (.int l3)] [] (hC V) 0 0 (some (.int res)) (hC V) := by
  unfold eX3_at_b16 at h
  refine go_iload_n (pc := 16) dX3_at_16 rfl rfl ?_
  refine go_if_lt (pc := 17) (tgt := 35) dX3_at_17 rfl (fun c2 => ?_) (fun c2 => ?_)
  · replace h := ifp h c2
    refine go_bipush (pc := 35) (v := (-9)) dX3_at_35 cb_m9 ?_
    cases h
    exact go_iret (pc := 37) (Or.inl rfl) ⟨Nat.zero_le _, Nat.zero_le _⟩ dX3_at_37
  · replace h := ifn h c2
    refine go_iload_n (pc := 20) dX3_at_20 rfl rfl ?_
    refine go_bipush (pc := 21) (v := 60) dX3_at_21 cb_60 ?_
    refine go_icmp_ge (pc := 23) (tgt := 35) dX3_at_23 rfl (fun c3 => ?_) (fun c3 => ?_)
    · replace h := ifp h c3
      refine go_bipush (pc := 35) (v := (-9)) dX3_at_35 cb_m9 ?_
      cases h
      exact go_iret (pc := 37) (Or.inl rfl) ⟨Nat.zero_le _, Nat.zero_le _⟩ dX3_at_37
    · replace h := ifn h c3
      refine go_iload_n (pc := 26) dX3_at_26 rfl rfl ?_
      refine go_if_lt (pc := 27) (tgt := 35) dX3_at_27 rfl (fun c4 => ?_) (fun c4 => ?_)
      · replace h := ifp h c4
        refine go_bipush (pc := 35) (v := (-9)) dX3_at_35 cb_m9 ?_
        cases h
        exact go_iret (pc := 37) (Or.inl rfl) ⟨Nat.zero_le _, Nat.zero_le _⟩ dX3_at_37
      · replace h := ifn h c4
        refine go_iload_n (pc := 30) dX3_at_30 rfl rfl ?_
        refine go_iconst (pc := 31) (v := 4) dX3_at_31 ci_4 ?_
        refine go_icmp_lt (pc := 32) (tgt := 38) dX3_at_32 rfl (fun c5 => ?_) (fun c5 => ?_)
        · replace h := ifp h c5
          refine go_aload_n (pc := 38) dX3_at_38 rfl rfl ?_
          refine go_getP (pc := 39) (a := 77) fX3_11 (by decide) (show TC 76 = (3 + 5, 5) from rfl) rfl dX3_at_39 ?_
          refine go_iload_n (pc := 42) dX3_at_42 rfl rfl ?_
          obtain ⟨c6, h⟩ := ok_not h
          refine go_aald2 (pc := 43) (a := (78 + l2.toNatClampNeg)) (show TC 77 = (2, 4) from rfl) (vin c6) (G_r (vlt c6)) dX3_at_43 ?_
          refine go_iload_n (pc := 44) dX3_at_44 rfl rfl ?_
          obtain ⟨c7, h⟩ := ok_not h
          refine go_ia (pc := 45) (v := V (78 + l2.toNatClampNeg) l3.toNatClampNeg) (G_Tr (vlt c6)) (vin c7) dX3_at_45 rfl ?_
          cases h
          exact go_iret (pc := 46) (Or.inl rfl) ⟨Nat.zero_le _, Nat.zero_le _⟩ dX3_at_46
        · replace h := ifn h c5
          refine go_bipush (pc := 35) (v := (-9)) dX3_at_35 cb_m9 ?_
          cases h
          exact go_iret (pc := 37) (Or.inl rfl) ⟨Nat.zero_le _, Nat.zero_le _⟩ dX3_at_37
def eX3_at (a1 : Int32) (a2 : Int32) (V : Mm) : Option (Int32) :=
  if ((V 76 3) + a1) < 60 then
    eX3_at_b16 a2 ((V 76 3) + a1) V
  else
    eX3_at_b16 a2 (((V 76 3) + a1) + (-60)) V
set_option maxHeartbeats 4000000 in
set_option maxRecDepth 100000 in
theorem E_X3_at {a1 : Int32} {a2 : Int32} {V : Mm} {res : Int32}  (h : eX3_at a1 a2 V = some res) : Ev mX3_at [.ref 76, .int a1, .int a2] (hC V) (some (.int res)) (hC V) := by
  refine Ev.of (n := 1) oX3_at.1 (Nat.le_of_ble_eq_true rfl) ?_
  unfold eX3_at at h
  show Go mX3_at 0 [some (.ref 76), some (.int a1), some (.int a2), none] [] (hC V) 0 0 (some (.int res)) (hC V)
  refine go_aload_n (pc := 0) dX3_at_0 rfl rfl ?_
  refine go_gI (pc := 1) (v := V 76 3) fX3_23 (by decide) (show TC 76 = (3 + 5, 5) from rfl) dX3_at_1 rfl ?_
  refine go_iload_n (pc := 4) dX3_at_4 rfl rfl ?_
  refine go_iadd (pc := 5) dX3_at_5 ?_
  refine go_istore_n (pc := 6) (i := 3) dX3_at_6 rfl (Nat.le_of_ble_eq_true rfl) (L2 := [some (.ref 76), some (.int a1), some (.int a2), some (.int ((V 76 3) + a1))]) rfl ?_
  refine go_iload_n (pc := 7) dX3_at_7 rfl rfl ?_
  refine go_bipush (pc := 8) (v := 60) dX3_at_8 cb_60 ?_
  refine go_icmp_lt (pc := 10) (tgt := 16) dX3_at_10 rfl (fun c1 => ?_) (fun c1 => ?_)
  · replace h := ifp h c1
    refine go_le (lle_s (lle_n (lle_s (lle_s lle_0)))) ?_
    exact gX3_at_b16  h
  · replace h := ifn h c1
    refine go_iinc (pc := 13) (v := (((V 76 3) + a1) + (-60))) dX3_at_13 rfl (by rw [ci_m60]) (Nat.le_of_ble_eq_true rfl) (L2 := [some (.ref 76), some (.int a1), some (.int a2), some (.int (((V 76 3) + a1) + (-60)))]) rfl ?_
    refine go_le (lle_s (lle_n (lle_s (lle_s lle_0)))) ?_
    exact gX3_at_b16  h
def eX5_isWithin (a0 : Int32) (a1 : Int32) (a2 : Int32) (V : Mm) : Option (Int32) :=
  if a0 < a1 then
    some 0
  else
    if a2 < a0 then
      some 0
    else
      some 1
set_option maxHeartbeats 4000000 in
set_option maxRecDepth 100000 in
theorem E_X5_isWithin {a0 : Int32} {a1 : Int32} {a2 : Int32} {V : Mm} {res : Int32}  (h : eX5_isWithin a0 a1 a2 V = some res) : Ev mX5_isWithin [.int a0, .int a1, .int a2] (hC V) (some (.int res)) (hC V) := by
  refine Ev.of (n := 0) oX5_isWithin.1 (Nat.le_of_ble_eq_true rfl) ?_
  unfold eX5_isWithin at h
  show Go mX5_isWithin 0 [some (.int a0), some (.int a1), some (.int a2)] [] (hC V) 0 0 (some (.int res)) (hC V)
  refine go_iload_n (pc := 0) dX5_isWithin_0 rfl rfl ?_
  refine go_iload_n (pc := 1) dX5_isWithin_1 rfl rfl ?_
  refine go_icmp_lt (pc := 2) (tgt := 14) dX5_isWithin_2 rfl (fun c1 => ?_) (fun c1 => ?_)
  · replace h := ifp h c1
    refine go_iconst (pc := 14) (v := 0) dX5_isWithin_14 ci_0 ?_
    cases h
    exact go_iret (pc := 15) (Or.inr ⟨rfl, Or.inl rfl⟩) ⟨Nat.zero_le _, Nat.zero_le _⟩ dX5_isWithin_15
  · replace h := ifn h c1
    refine go_iload_n (pc := 5) dX5_isWithin_5 rfl rfl ?_
    refine go_iload_n (pc := 6) dX5_isWithin_6 rfl rfl ?_
    refine go_icmp_gt (pc := 7) (tgt := 14) dX5_isWithin_7 rfl (fun c2 => ?_) (fun c2 => ?_)
    · replace h := ifp h c2
      refine go_iconst (pc := 14) (v := 0) dX5_isWithin_14 ci_0 ?_
      cases h
      exact go_iret (pc := 15) (Or.inr ⟨rfl, Or.inl rfl⟩) ⟨Nat.zero_le _, Nat.zero_le _⟩ dX5_isWithin_15
    · replace h := ifn h c2
      refine go_iconst (pc := 10) (v := 1) dX5_isWithin_10 ci_1 ?_
      refine go_goto (pc := 11) (tgt := 15) dX5_isWithin_11 rfl ?_
      cases h
      exact go_iret (pc := 15) (Or.inr ⟨rfl, Or.inr rfl⟩) ⟨Nat.zero_le _, Nat.zero_le _⟩ dX5_isWithin_15
def eX5_isKind (a0 : Int32) (V : Mm) : Option (Int32) :=
  (eX5_isWithin a0 0 2 V).bind fun r1 =>
  if r1 = 0 ∨ r1 = 1 then
    some r1
  else none
set_option maxHeartbeats 4000000 in
set_option maxRecDepth 100000 in
theorem E_X5_isKind {a0 : Int32} {V : Mm} {res : Int32}  (h : eX5_isKind a0 V = some res) : Ev mX5_isKind [.int a0] (hC V) (some (.int res)) (hC V) := by
  refine Ev.of (n := 0) oX5_isKind.1 (Nat.le_of_ble_eq_true rfl) ?_
  unfold eX5_isKind at h
  show Go mX5_isKind 0 [some (.int a0)] [] (hC V) 0 0 (some (.int res)) (hC V)
  refine go_iload_n (pc := 0) dX5_isKind_0 rfl rfl ?_
  refine go_iconst (pc := 1) (v := 0) dX5_isKind_1 ci_0 ?_
  refine go_iconst (pc := 2) (v := 2) dX5_isKind_2 ci_2 ?_
  obtain ⟨r1, e2, h⟩ := ok_bind h
  refine go_cS (pc := 3) (As := [.int a0, .int 0, .int 2]) (st := []) (E_X5_isWithin e2) rfl oX5_isWithin iX5_isWithin kX5_194 rfl (Nat.le_of_ble_eq_true rfl) ⟨Nat.le_of_ble_eq_true rfl, Nat.le_of_ble_eq_true rfl⟩ ⟨rfl, rfl⟩ dX5_isKind_3 (st2 := [.int r1]) rfl ?_
  obtain ⟨c3, h⟩ := ok_if h
  cases h
  exact go_iret (pc := 6) (Or.inr ⟨rfl, c3⟩) ⟨Nat.zero_le _, Nat.zero_le _⟩ dX5_isKind_6
def eX3_driveOut  (V : Mm) : Option (Mm) :=
  (eX3_at 0 0 V).bind fun r1 =>
  (eX5_isKind r1 V).bind fun r3 =>
  if r3 = 0 then
    some (wr (wr V 76 3 (((V 76 3) + 1) - ((V 76 3) + 1) / 60 * 60)) 76 4 ((V 76 4) - 1))
  else
    (eX3_at 0 1 V).bind fun r6 =>
    if r1 < 0 ∨ 3 ≤ r1.toNatClampNeg then none else
    some (wr (wr (wr V 82 r1.toNatClampNeg r6) 76 3 (((V 76 3) + 1) - ((V 76 3) + 1) / 60 * 60)) 76 4 ((V 76 4) - 1))
set_option maxHeartbeats 4000000 in
set_option maxRecDepth 100000 in
theorem E_X3_driveOut  {V : Mm} {res : Mm}  (h : eX3_driveOut V = some res) : Ev mX3_driveOut [.ref 76] (hC V) none (hC res) := by
  refine Ev.of (n := 1) oX3_driveOut.1 (Nat.le_of_ble_eq_true rfl) ?_
  unfold eX3_driveOut at h
  show Go mX3_driveOut 0 [some (.ref 76), none] [] (hC V) 0 0 none (hC res)
  refine go_aload_n (pc := 0) dX3_driveOut_0 rfl rfl ?_
  refine go_iconst (pc := 1) (v := 0) dX3_driveOut_1 ci_0 ?_
  refine go_iconst (pc := 2) (v := 0) dX3_driveOut_2 ci_0 ?_
  obtain ⟨r1, e2, h⟩ := ok_bind h
  refine go_cV (pc := 3) (ci := 3) (As := [.int 0, .int 0]) (st := []) (E_X3_at e2) rfl oX3_at iX3_at sX3_at kX3_33 rfl (show TC 76 = (3 + 5, 5) from rfl) rfl (Nat.le_of_ble_eq_true rfl) ⟨Nat.le_of_ble_eq_true rfl, Nat.le_of_ble_eq_true rfl⟩ ⟨rfl, rfl⟩ dX3_driveOut_3 (st2 := [.int r1]) rfl ?_
  refine go_istore_n (pc := 6) (i := 1) dX3_driveOut_6 rfl (Nat.le_of_ble_eq_true rfl) (L2 := [some (.ref 76), some (.int r1)]) rfl ?_
  refine go_iload_n (pc := 7) dX3_driveOut_7 rfl rfl ?_
  obtain ⟨r3, e4, h⟩ := ok_bind h
  refine go_cS (pc := 8) (As := [.int r1]) (st := []) (E_X5_isKind e4) rfl oX5_isKind iX5_isKind kX3_37 rfl (Nat.le_of_ble_eq_true rfl) ⟨Nat.le_of_ble_eq_true rfl, Nat.le_of_ble_eq_true rfl⟩ ⟨rfl, rfl⟩ dX3_driveOut_8 (st2 := [.int r3]) rfl ?_
  refine go_if_eq (pc := 11) (tgt := 26) dX3_driveOut_11 rfl (fun c5 => ?_) (fun c5 => ?_)
  · replace h := ifp h c5
    refine go_aload_n (pc := 26) dX3_driveOut_26 rfl rfl ?_
    refine go_aload_n (pc := 27) dX3_driveOut_27 rfl rfl ?_
    refine go_gI (pc := 28) (v := V 76 3) fX3_23 (by decide) (show TC 76 = (3 + 5, 5) from rfl) dX3_driveOut_28 rfl ?_
    refine go_iconst (pc := 31) (v := 1) dX3_driveOut_31 ci_1 ?_
    refine go_iadd (pc := 32) dX3_driveOut_32 ?_
    refine go_bipush (pc := 33) (v := 60) dX3_driveOut_33 cb_60 ?_
    refine go_irem (pc := 35) dX3_driveOut_35 (by decide) ?_
    refine go_putI (pc := 36) (k := 3) fX3_23 (Or.inl rfl) (Or.inl rfl) (show TC 76 = (3 + 5, 5) from rfl) dX3_driveOut_36 ?_
    refine go_aload_n (pc := 39) dX3_driveOut_39 rfl rfl ?_
    refine go_dup (pc := 40) dX3_driveOut_40 ?_
    refine go_gI (pc := 41) (v := V 76 4) fX3_27 (by decide) (show TC 76 = (3 + 5, 5) from rfl) dX3_driveOut_41 rfl ?_
    refine go_iconst (pc := 44) (v := 1) dX3_driveOut_44 ci_1 ?_
    refine go_isub (pc := 45) dX3_driveOut_45 ?_
    refine go_putI (pc := 46) (k := 4) fX3_27 (Or.inl rfl) (Or.inl rfl) (show TC 76 = (3 + 5, 5) from rfl) dX3_driveOut_46 ?_
    cases h
    exact go_vret (pc := 49) rfl ⟨Nat.zero_le _, Nat.zero_le _⟩ dX3_driveOut_49
  · replace h := ifn h c5
    refine go_aload_n (pc := 14) dX3_driveOut_14 rfl rfl ?_
    refine go_getP (pc := 15) (a := 82) fX3_16 (by decide) (show TC 76 = (3 + 5, 5) from rfl) rfl dX3_driveOut_15 ?_
    refine go_iload_n (pc := 18) dX3_driveOut_18 rfl rfl ?_
    refine go_aload_n (pc := 19) dX3_driveOut_19 rfl rfl ?_
    refine go_iconst (pc := 20) (v := 0) dX3_driveOut_20 ci_0 ?_
    refine go_iconst (pc := 21) (v := 1) dX3_driveOut_21 ci_1 ?_
    obtain ⟨r6, e7, h⟩ := ok_bind h
    refine go_cV (pc := 22) (ci := 3) (As := [.int 0, .int 1]) (st := [.int r1, .ref 82]) (E_X3_at e7) rfl oX3_at iX3_at sX3_at kX3_33 rfl (show TC 76 = (3 + 5, 5) from rfl) rfl (Nat.le_of_ble_eq_true rfl) ⟨Nat.le_of_ble_eq_true rfl, Nat.le_of_ble_eq_true rfl⟩ ⟨rfl, rfl⟩ dX3_driveOut_22 (st2 := [.int r6, .int r1, .ref 82]) rfl ?_
    obtain ⟨c8, h⟩ := ok_not h
    refine go_iast (pc := 25) (show TC 82 = (0, 3) from rfl) (vin c8) dX3_driveOut_25 ?_
    refine go_aload_n (pc := 26) dX3_driveOut_26 rfl rfl ?_
    refine go_aload_n (pc := 27) dX3_driveOut_27 rfl rfl ?_
    refine go_gI (pc := 28) (v := V 76 3) fX3_23 (by decide) (show TC 76 = (3 + 5, 5) from rfl) dX3_driveOut_28 rfl ?_
    refine go_iconst (pc := 31) (v := 1) dX3_driveOut_31 ci_1 ?_
    refine go_iadd (pc := 32) dX3_driveOut_32 ?_
    refine go_bipush (pc := 33) (v := 60) dX3_driveOut_33 cb_60 ?_
    refine go_irem (pc := 35) dX3_driveOut_35 (by decide) ?_
    refine go_putI (pc := 36) (k := 3) fX3_23 (Or.inl rfl) (Or.inl rfl) (show TC 76 = (3 + 5, 5) from rfl) dX3_driveOut_36 ?_
    refine go_aload_n (pc := 39) dX3_driveOut_39 rfl rfl ?_
    refine go_dup (pc := 40) dX3_driveOut_40 ?_
    refine go_gI (pc := 41) (v := V 76 4) fX3_27 (by decide) (show TC 76 = (3 + 5, 5) from rfl) dX3_driveOut_41 rfl ?_
    refine go_iconst (pc := 44) (v := 1) dX3_driveOut_44 ci_1 ?_
    refine go_isub (pc := 45) dX3_driveOut_45 ?_
    refine go_putI (pc := 46) (k := 4) fX3_27 (Or.inl rfl) (Or.inl rfl) (show TC 76 = (3 + 5, 5) from rfl) dX3_driveOut_46 ?_
    cases h
    exact go_vret (pc := 49) rfl ⟨Nat.zero_le _, Nat.zero_le _⟩ dX3_driveOut_49
def eX3_add_b13 (l1 : Int32) (l2 : Int32) (l3 : Int32) (l4 : Int32) (V : Mm) : Option (Mm) :=
  if (((V 76 3) + (V 76 4)) - ((V 76 3) + (V 76 4)) / 60 * 60) < 0 ∨ 60 ≤ (((V 76 3) + (V 76 4)) - ((V 76 3) + (V 76 4)) / 60 * 60).toNatClampNeg then none else
  if (((V 76 3) + (V 76 4)) - ((V 76 3) + (V 76 4)) / 60 * 60) < 0 ∨ 60 ≤ (((V 76 3) + (V 76 4)) - ((V 76 3) + (V 76 4)) / 60 * 60).toNatClampNeg then none else
  if (((V 76 3) + (V 76 4)) - ((V 76 3) + (V 76 4)) / 60 * 60) < 0 ∨ 60 ≤ (((V 76 3) + (V 76 4)) - ((V 76 3) + (V 76 4)) / 60 * 60).toNatClampNeg then none else
  if (((V 76 3) + (V 76 4)) - ((V 76 3) + (V 76 4)) / 60 * 60) < 0 ∨ 60 ≤ (((V 76 3) + (V 76 4)) - ((V 76 3) + (V 76 4)) / 60 * 60).toNatClampNeg then none else
  some (wr (wr (wr (wr (wr V 78 ((((V 76 3) + (V 76 4)) - ((V 76 3) + (V 76 4)) / 60 * 60).toNatClampNeg) l1) 79 ((((V 76 3) + (V 76 4)) - ((V 76 3) + (V 76 4)) / 60 * 60).toNatClampNeg) l2) 80 ((((V 76 3) + (V 76 4)) - ((V 76 3) + (V 76 4)) / 60 * 60).toNatClampNeg) l3) 81 ((((V 76 3) + (V 76 4)) - ((V 76 3) + (V 76 4)) / 60 * 60).toNatClampNeg) l4) 76 4 ((V 76 4) + 1))
set_option maxHeartbeats 4000000 in
set_option maxRecDepth 100000 in
theorem gX3_add_b13 {l1 : Int32} {l2 : Int32} {l3 : Int32} {l4 : Int32} {V : Mm} {res : Mm}  (h : eX3_add_b13 l1 l2 l3 l4 V = some res) : Go mX3_add 13 [some (.ref 76), some (.int l1), some (.int l2), some (.int l3), some (.int l4), none] [] (hC V) 0 0 none (hC res) := by
  unfold eX3_add_b13 at h
  refine go_aload_n (pc := 13) dX3_add_13 rfl rfl ?_
  refine go_gI (pc := 14) (v := V 76 3) fX3_23 (by decide) (show TC 76 = (3 + 5, 5) from rfl) dX3_add_14 rfl ?_
  refine go_aload_n (pc := 17) dX3_add_17 rfl rfl ?_
  refine go_gI (pc := 18) (v := V 76 4) fX3_27 (by decide) (show TC 76 = (3 + 5, 5) from rfl) dX3_add_18 rfl ?_
  refine go_iadd (pc := 21) dX3_add_21 ?_
  refine go_bipush (pc := 22) (v := 60) dX3_add_22 cb_60 ?_
  refine go_irem (pc := 24) dX3_add_24 (by decide) ?_
  refine go_istore (pc := 25) (i := 5) dX3_add_25 (Nat.le_of_ble_eq_true rfl) (L2 := [some (.ref 76), some (.int l1), some (.int l2), some (.int l3), some (.int l4), some (.int (((V 76 3) + (V 76 4)) - ((V 76 3) + (V 76 4)) / 60 * 60))]) rfl ?_
  refine go_aload_n (pc := 27) dX3_add_27 rfl rfl ?_
  refine go_getP (pc := 28) (a := 77) fX3_11 (by decide) (show TC 76 = (3 + 5, 5) from rfl) rfl dX3_add_28 ?_
  refine go_iconst (pc := 31) (v := 0) dX3_add_31 ci_0 ?_
  refine go_aald2 (pc := 32) (a := 78) (show TC 77 = (2, 4) from rfl) (vin (by decide)) (G_r (show (0 : Int32).toNatClampNeg < 4 by decide)) dX3_add_32 ?_
  refine go_iload (pc := 33) dX3_add_33 rfl ?_
  refine go_iload_n (pc := 35) dX3_add_35 rfl rfl ?_
  obtain ⟨c2, h⟩ := ok_not h
  refine go_iast (pc := 36) (G_Tr (show (0 : Int32).toNatClampNeg < 4 by decide)) (vin c2) dX3_add_36 ?_
  refine go_aload_n (pc := 37) dX3_add_37 rfl rfl ?_
  refine go_getP (pc := 38) (a := 77) fX3_11 (by decide) (show TC 76 = (3 + 5, 5) from rfl) rfl dX3_add_38 ?_
  refine go_iconst (pc := 41) (v := 1) dX3_add_41 ci_1 ?_
  refine go_aald2 (pc := 42) (a := 79) (show TC 77 = (2, 4) from rfl) (vin (by decide)) (G_r (show (1 : Int32).toNatClampNeg < 4 by decide)) dX3_add_42 ?_
  refine go_iload (pc := 43) dX3_add_43 rfl ?_
  refine go_iload_n (pc := 45) dX3_add_45 rfl rfl ?_
  obtain ⟨c3, h⟩ := ok_not h
  refine go_iast (pc := 46) (G_Tr (show (1 : Int32).toNatClampNeg < 4 by decide)) (vin c3) dX3_add_46 ?_
  refine go_aload_n (pc := 47) dX3_add_47 rfl rfl ?_
  refine go_getP (pc := 48) (a := 77) fX3_11 (by decide) (show TC 76 = (3 + 5, 5) from rfl) rfl dX3_add_48 ?_
  refine go_iconst (pc := 51) (v := 2) dX3_add_51 ci_2 ?_
  refine go_aald2 (pc := 52) (a := 80) (show TC 77 = (2, 4) from rfl) (vin (by decide)) (G_r (show (2 : Int32).toNatClampNeg < 4 by decide)) dX3_add_52 ?_
  refine go_iload (pc := 53) dX3_add_53 rfl ?_
  refine go_iload_n (pc := 55) dX3_add_55 rfl rfl ?_
  obtain ⟨c4, h⟩ := ok_not h
  refine go_iast (pc := 56) (G_Tr (show (2 : Int32).toNatClampNeg < 4 by decide)) (vin c4) dX3_add_56 ?_
  refine go_aload_n (pc := 57) dX3_add_57 rfl rfl ?_
  refine go_getP (pc := 58) (a := 77) fX3_11 (by decide) (show TC 76 = (3 + 5, 5) from rfl) rfl dX3_add_58 ?_
  refine go_iconst (pc := 61) (v := 3) dX3_add_61 ci_3 ?_
  refine go_aald2 (pc := 62) (a := 81) (show TC 77 = (2, 4) from rfl) (vin (by decide)) (G_r (show (3 : Int32).toNatClampNeg < 4 by decide)) dX3_add_62 ?_
  refine go_iload (pc := 63) dX3_add_63 rfl ?_
  refine go_iload (pc := 65) dX3_add_65 rfl ?_
  obtain ⟨c5, h⟩ := ok_not h
  refine go_iast (pc := 67) (G_Tr (show (3 : Int32).toNatClampNeg < 4 by decide)) (vin c5) dX3_add_67 ?_
  refine go_aload_n (pc := 68) dX3_add_68 rfl rfl ?_
  refine go_dup (pc := 69) dX3_add_69 ?_
  refine go_gI (pc := 70) (v := V 76 4) fX3_27 (by decide) (show TC 76 = (3 + 5, 5) from rfl) dX3_add_70 rfl ?_
  refine go_iconst (pc := 73) (v := 1) dX3_add_73 ci_1 ?_
  refine go_iadd (pc := 74) dX3_add_74 ?_
  refine go_putI (pc := 75) (k := 4) fX3_27 (Or.inl rfl) (Or.inl rfl) (show TC 76 = (3 + 5, 5) from rfl) dX3_add_75 ?_
  cases h
  exact go_vret (pc := 78) rfl ⟨Nat.zero_le _, Nat.zero_le _⟩ dX3_add_78
def eX3_add (a1 : Int32) (a2 : Int32) (a3 : Int32) (a4 : Int32) (V : Mm) : Option (Mm) :=
  if (V 76 4) = 60 then
    (eX3_driveOut V).bind fun r6 =>
    eX3_add_b13 a1 a2 a3 a4 r6
  else
    eX3_add_b13 a1 a2 a3 a4 V
set_option maxHeartbeats 4000000 in
set_option maxRecDepth 100000 in
theorem E_X3_add {a1 : Int32} {a2 : Int32} {a3 : Int32} {a4 : Int32} {V : Mm} {res : Mm}  (h : eX3_add a1 a2 a3 a4 V = some res) : Ev mX3_add [.ref 76, .int a1, .int a2, .int a3, .int a4] (hC V) none (hC res) := by
  refine Ev.of (n := 1) oX3_add.1 (Nat.le_of_ble_eq_true rfl) ?_
  unfold eX3_add at h
  show Go mX3_add 0 [some (.ref 76), some (.int a1), some (.int a2), some (.int a3), some (.int a4), none] [] (hC V) 0 0 none (hC res)
  refine go_aload_n (pc := 0) dX3_add_0 rfl rfl ?_
  refine go_gI (pc := 1) (v := V 76 4) fX3_27 (by decide) (show TC 76 = (3 + 5, 5) from rfl) dX3_add_1 rfl ?_
  refine go_bipush (pc := 4) (v := 60) dX3_add_4 cb_60 ?_
  refine go_icmp_ne (pc := 6) (tgt := 13) dX3_add_6 rfl (fun c1 => ?_) (fun c1 => ?_)
  · replace h := ifn h c1
    exact gX3_add_b13  h
  · replace h := ifp h c1
    refine go_aload_n (pc := 9) dX3_add_9 rfl rfl ?_
    obtain ⟨r6, e7, h⟩ := ok_bind h
    refine go_cV (pc := 10) (ci := 3) (As := []) (st := []) (E_X3_driveOut e7) rfl oX3_driveOut iX3_driveOut sX3_driveOut kX3_30 rfl (show TC 76 = (3 + 5, 5) from rfl) rfl (Nat.le_of_ble_eq_true rfl) ⟨Nat.le_of_ble_eq_true rfl, Nat.le_of_ble_eq_true rfl⟩ ⟨rfl, rfl⟩ dX3_add_10 (st2 := []) rfl ?_
    exact gX3_add_b13  h
def eX3_forget_b2 : Nat → Int32 → Mm → Option (Mm)
  | 0, _, _ => none
  | n + 1, l1, V => 
    if 50 ≤ l1 then
      some V
    else
      if l1 < 0 ∨ 50 ≤ l1.toNatClampNeg then none else
      eX3_forget_b2 n (l1 + 1) (wr V 83 l1.toNatClampNeg 0)
set_option maxHeartbeats 4000000 in
set_option maxRecDepth 100000 in
theorem gX3_forget_b2 : ∀ (n : Nat) (l1 : Int32) (V : Mm) (res : Mm) , eX3_forget_b2 n l1 V = some res → Go mX3_forget 2 [some (.ref 76), some (.int l1)] [] (hC V) 0 0 none (hC res) := by
  intro n
  induction n with
  | zero =>
    intro l1 V res  h
    cases h
  | succ n ih =>
    intro l1 V res  h
    rw [eX3_forget_b2] at h
    refine go_iload_n (pc := 2) dX3_forget_2 rfl rfl ?_
    refine go_bipush (pc := 3) (v := 50) dX3_forget_3 cb_50 ?_
    refine go_icmp_ge (pc := 5) (tgt := 21) dX3_forget_5 rfl (fun c1 => ?_) (fun c1 => ?_)
    · replace h := ifp h c1
      cases h
      exact go_vret (pc := 21) rfl ⟨Nat.zero_le _, Nat.zero_le _⟩ dX3_forget_21
    · replace h := ifn h c1
      refine go_aload_n (pc := 8) dX3_forget_8 rfl rfl ?_
      refine go_getP (pc := 9) (a := 83) fX3_20 (by decide) (show TC 76 = (3 + 5, 5) from rfl) rfl dX3_forget_9 ?_
      refine go_iload_n (pc := 12) dX3_forget_12 rfl rfl ?_
      refine go_iconst (pc := 13) (v := 0) dX3_forget_13 ci_0 ?_
      obtain ⟨c2, h⟩ := ok_not h
      refine go_iast (pc := 14) (show TC 83 = (0, 50) from rfl) (vin c2) dX3_forget_14 ?_
      refine go_iinc (pc := 15) (v := (l1 + 1)) dX3_forget_15 rfl (by rw [ci_1]) (Nat.le_of_ble_eq_true rfl) (L2 := [some (.ref 76), some (.int (l1 + 1))]) rfl ?_
      refine go_goto (pc := 18) (tgt := 2) dX3_forget_18 rfl ?_
      exact ih _ _ _  h
def eX3_forget  (V : Mm) : Option (Mm) :=
  eX3_forget_b2 fu 0 V
set_option maxHeartbeats 4000000 in
set_option maxRecDepth 100000 in
theorem E_X3_forget  {V : Mm} {res : Mm}  (h : eX3_forget V = some res) : Ev mX3_forget [.ref 76] (hC V) none (hC res) := by
  refine Ev.of (n := 1) oX3_forget.1 (Nat.le_of_ble_eq_true rfl) ?_
  unfold eX3_forget at h
  show Go mX3_forget 0 [some (.ref 76), none] [] (hC V) 0 0 none (hC res)
  refine go_iconst (pc := 0) (v := 0) dX3_forget_0 ci_0 ?_
  refine go_istore_n (pc := 1) (i := 1) dX3_forget_1 rfl (Nat.le_of_ble_eq_true rfl) (L2 := [some (.ref 76), some (.int 0)]) rfl ?_
  exact gX3_forget_b2 _ _ _ _  h
def eX3_isOf (a1 : Int32) (a2 : Int32) (a3 : Int32) (V : Mm) : Option (Int32) :=
  (eX3_at a1 0 V).bind fun r1 =>
  if r1 = a2 then
    (eX3_at a1 1 V).bind fun r4 =>
    if r4 ≤ a3 then
      some 0
    else
      some 1
  else
    some 0
set_option maxHeartbeats 4000000 in
set_option maxRecDepth 100000 in
theorem E_X3_isOf {a1 : Int32} {a2 : Int32} {a3 : Int32} {V : Mm} {res : Int32}  (h : eX3_isOf a1 a2 a3 V = some res) : Ev mX3_isOf [.ref 76, .int a1, .int a2, .int a3] (hC V) (some (.int res)) (hC V) := by
  refine Ev.of (n := 0) oX3_isOf.1 (Nat.le_of_ble_eq_true rfl) ?_
  unfold eX3_isOf at h
  show Go mX3_isOf 0 [some (.ref 76), some (.int a1), some (.int a2), some (.int a3)] [] (hC V) 0 0 (some (.int res)) (hC V)
  refine go_aload_n (pc := 0) dX3_isOf_0 rfl rfl ?_
  refine go_iload_n (pc := 1) dX3_isOf_1 rfl rfl ?_
  refine go_iconst (pc := 2) (v := 0) dX3_isOf_2 ci_0 ?_
  obtain ⟨r1, e2, h⟩ := ok_bind h
  refine go_cV (pc := 3) (ci := 3) (As := [.int a1, .int 0]) (st := []) (E_X3_at e2) rfl oX3_at iX3_at sX3_at kX3_33 rfl (show TC 76 = (3 + 5, 5) from rfl) rfl (Nat.le_of_ble_eq_true rfl) ⟨Nat.le_of_ble_eq_true rfl, Nat.le_of_ble_eq_true rfl⟩ ⟨rfl, rfl⟩ dX3_isOf_3 (st2 := [.int r1]) rfl ?_
  refine go_iload_n (pc := 6) dX3_isOf_6 rfl rfl ?_
  refine go_icmp_ne (pc := 7) (tgt := 24) dX3_isOf_7 rfl (fun c3 => ?_) (fun c3 => ?_)
  · replace h := ifn h c3
    refine go_iconst (pc := 24) (v := 0) dX3_isOf_24 ci_0 ?_
    cases h
    exact go_iret (pc := 25) (Or.inr ⟨rfl, Or.inl rfl⟩) ⟨Nat.zero_le _, Nat.zero_le _⟩ dX3_isOf_25
  · replace h := ifp h c3
    refine go_aload_n (pc := 10) dX3_isOf_10 rfl rfl ?_
    refine go_iload_n (pc := 11) dX3_isOf_11 rfl rfl ?_
    refine go_iconst (pc := 12) (v := 1) dX3_isOf_12 ci_1 ?_
    obtain ⟨r4, e5, h⟩ := ok_bind h
    refine go_cV (pc := 13) (ci := 3) (As := [.int a1, .int 1]) (st := []) (E_X3_at e5) rfl oX3_at iX3_at sX3_at kX3_33 rfl (show TC 76 = (3 + 5, 5) from rfl) rfl (Nat.le_of_ble_eq_true rfl) ⟨Nat.le_of_ble_eq_true rfl, Nat.le_of_ble_eq_true rfl⟩ ⟨rfl, rfl⟩ dX3_isOf_13 (st2 := [.int r4]) rfl ?_
    refine go_iload_n (pc := 16) dX3_isOf_16 rfl rfl ?_
    refine go_icmp_le (pc := 17) (tgt := 24) dX3_isOf_17 rfl (fun c6 => ?_) (fun c6 => ?_)
    · replace h := ifp h c6
      refine go_iconst (pc := 24) (v := 0) dX3_isOf_24 ci_0 ?_
      cases h
      exact go_iret (pc := 25) (Or.inr ⟨rfl, Or.inl rfl⟩) ⟨Nat.zero_le _, Nat.zero_le _⟩ dX3_isOf_25
    · replace h := ifn h c6
      refine go_iconst (pc := 20) (v := 1) dX3_isOf_20 ci_1 ?_
      refine go_goto (pc := 21) (tgt := 25) dX3_isOf_21 rfl ?_
      cases h
      exact go_iret (pc := 25) (Or.inr ⟨rfl, Or.inr rfl⟩) ⟨Nat.zero_le _, Nat.zero_le _⟩ dX3_isOf_25
def eX3_meet_b43 (l1 : Int32) (l3 : Int32) (s1 : Int32) (s2 : Int32) (V : Mm) : Option (Int32 × Mm) :=
  if s1 < 0 ∨ 50 ≤ s1.toNatClampNeg then none else
  if l1 < 0 ∨ 50 ≤ l1.toNatClampNeg then none else
  if ((wr V 83 s1.toNatClampNeg s2) 83 l1.toNatClampNeg) = 0 then
    if l3 = 0 then
      some ((0 - 0), (wr V 83 s1.toNatClampNeg s2))
    else
      some ((0 - 1), (wr V 83 s1.toNatClampNeg s2))
  else
    if l3 = 0 then
      some ((1 - 0), (wr V 83 s1.toNatClampNeg s2))
    else
      some ((1 - 1), (wr V 83 s1.toNatClampNeg s2))
set_option maxHeartbeats 4000000 in
set_option maxRecDepth 100000 in
theorem gX3_meet_b43 {l1 : Int32} {l3 : Int32} {s1 : Int32} {s2 : Int32} {V : Mm} {res : Int32 × Mm}  (h : eX3_meet_b43 l1 l3 s1 s2 V = some res) : Go mX3_meet 43 [some (.ref 76), some (.int l1), none, some (.int l3)] [.int s2, .int s1, .ref 83] (hC V) 0 0 (some (.int res.1)) (hC res.2) := by
  unfold eX3_meet_b43 at h
  obtain ⟨c6, h⟩ := ok_not h
  refine go_iast (pc := 43) (show TC 83 = (0, 50) from rfl) (vin c6) dX3_meet_43 ?_
  refine go_aload_n (pc := 44) dX3_meet_44 rfl rfl ?_
  refine go_getP (pc := 45) (a := 83) fX3_20 (by decide) (show TC 76 = (3 + 5, 5) from rfl) rfl dX3_meet_45 ?_
  refine go_iload_n (pc := 48) dX3_meet_48 rfl rfl ?_
  obtain ⟨c7, h⟩ := ok_not h
  refine go_ia (pc := 49) (v := (wr V 83 s1.toNatClampNeg s2) 83 l1.toNatClampNeg) (show TC 83 = (0, 50) from rfl) (vin c7) dX3_meet_49 rfl ?_
  refine go_if_eq (pc := 50) (tgt := 57) dX3_meet_50 rfl (fun c8 => ?_) (fun c8 => ?_)
  · replace h := ifp h c8
    refine go_iconst (pc := 57) (v := 0) dX3_meet_57 ci_0 ?_
    refine go_iload_n (pc := 58) dX3_meet_58 rfl rfl ?_
    refine go_if_eq (pc := 59) (tgt := 66) dX3_meet_59 rfl (fun c9 => ?_) (fun c9 => ?_)
    · replace h := ifp h c9
      refine go_iconst (pc := 66) (v := 0) dX3_meet_66 ci_0 ?_
      refine go_isub (pc := 67) dX3_meet_67 ?_
      cases h
      exact go_iret (pc := 68) (Or.inl rfl) ⟨Nat.zero_le _, Nat.zero_le _⟩ dX3_meet_68
    · replace h := ifn h c9
      refine go_iconst (pc := 62) (v := 1) dX3_meet_62 ci_1 ?_
      refine go_goto (pc := 63) (tgt := 67) dX3_meet_63 rfl ?_
      refine go_isub (pc := 67) dX3_meet_67 ?_
      cases h
      exact go_iret (pc := 68) (Or.inl rfl) ⟨Nat.zero_le _, Nat.zero_le _⟩ dX3_meet_68
  · replace h := ifn h c8
    refine go_iconst (pc := 53) (v := 1) dX3_meet_53 ci_1 ?_
    refine go_goto (pc := 54) (tgt := 58) dX3_meet_54 rfl ?_
    refine go_iload_n (pc := 58) dX3_meet_58 rfl rfl ?_
    refine go_if_eq (pc := 59) (tgt := 66) dX3_meet_59 rfl (fun c10 => ?_) (fun c10 => ?_)
    · replace h := ifp h c10
      refine go_iconst (pc := 66) (v := 0) dX3_meet_66 ci_0 ?_
      refine go_isub (pc := 67) dX3_meet_67 ?_
      cases h
      exact go_iret (pc := 68) (Or.inl rfl) ⟨Nat.zero_le _, Nat.zero_le _⟩ dX3_meet_68
    · replace h := ifn h c10
      refine go_iconst (pc := 62) (v := 1) dX3_meet_62 ci_1 ?_
      refine go_goto (pc := 63) (tgt := 67) dX3_meet_63 rfl ?_
      refine go_isub (pc := 67) dX3_meet_67 ?_
      cases h
      exact go_iret (pc := 68) (Or.inl rfl) ⟨Nat.zero_le _, Nat.zero_le _⟩ dX3_meet_68
def eX3_meet (a1 : Int32) (a2 : Int32) (V : Mm) : Option (Int32 × Mm) :=
  if a1 < 0 then
    some (0, V)
  else
    if a1 < 50 then
      if a1 < 0 ∨ 50 ≤ a1.toNatClampNeg then none else
      if (V 83 a1.toNatClampNeg) = 1 then
        if a2 = 3 then
          eX3_meet_b43 a1 (V 83 a1.toNatClampNeg) a1 0 V
        else
          eX3_meet_b43 a1 (V 83 a1.toNatClampNeg) a1 1 V
      else
        eX3_meet_b43 a1 (V 83 a1.toNatClampNeg) a1 a2 V
    else
      some (0, V)
set_option maxHeartbeats 4000000 in
set_option maxRecDepth 100000 in
theorem E_X3_meet {a1 : Int32} {a2 : Int32} {V : Mm} {res : Int32 × Mm}  (h : eX3_meet a1 a2 V = some res) : Ev mX3_meet [.ref 76, .int a1, .int a2] (hC V) (some (.int res.1)) (hC res.2) := by
  refine Ev.of (n := 1) oX3_meet.1 (Nat.le_of_ble_eq_true rfl) ?_
  unfold eX3_meet at h
  show Go mX3_meet 0 [some (.ref 76), some (.int a1), some (.int a2), none] [] (hC V) 0 0 (some (.int res.1)) (hC res.2)
  refine go_iload_n (pc := 0) dX3_meet_0 rfl rfl ?_
  refine go_if_lt (pc := 1) (tgt := 10) dX3_meet_1 rfl (fun c1 => ?_) (fun c1 => ?_)
  · replace h := ifp h c1
    refine go_iconst (pc := 10) (v := 0) dX3_meet_10 ci_0 ?_
    cases h
    exact go_iret (pc := 11) (Or.inl rfl) ⟨Nat.zero_le _, Nat.zero_le _⟩ dX3_meet_11
  · replace h := ifn h c1
    refine go_iload_n (pc := 4) dX3_meet_4 rfl rfl ?_
    refine go_bipush (pc := 5) (v := 50) dX3_meet_5 cb_50 ?_
    refine go_icmp_lt (pc := 7) (tgt := 12) dX3_meet_7 rfl (fun c2 => ?_) (fun c2 => ?_)
    · replace h := ifp h c2
      refine go_aload_n (pc := 12) dX3_meet_12 rfl rfl ?_
      refine go_getP (pc := 13) (a := 83) fX3_20 (by decide) (show TC 76 = (3 + 5, 5) from rfl) rfl dX3_meet_13 ?_
      refine go_iload_n (pc := 16) dX3_meet_16 rfl rfl ?_
      obtain ⟨c3, h⟩ := ok_not h
      refine go_ia (pc := 17) (v := V 83 a1.toNatClampNeg) (show TC 83 = (0, 50) from rfl) (vin c3) dX3_meet_17 rfl ?_
      refine go_istore_n (pc := 18) (i := 3) dX3_meet_18 rfl (Nat.le_of_ble_eq_true rfl) (L2 := [some (.ref 76), some (.int a1), some (.int a2), some (.int (V 83 a1.toNatClampNeg))]) rfl ?_
      refine go_aload_n (pc := 19) dX3_meet_19 rfl rfl ?_
      refine go_getP (pc := 20) (a := 83) fX3_20 (by decide) (show TC 76 = (3 + 5, 5) from rfl) rfl dX3_meet_20 ?_
      refine go_iload_n (pc := 23) dX3_meet_23 rfl rfl ?_
      refine go_iload_n (pc := 24) dX3_meet_24 rfl rfl ?_
      refine go_iconst (pc := 25) (v := 1) dX3_meet_25 ci_1 ?_
      refine go_icmp_eq (pc := 26) (tgt := 33) dX3_meet_26 rfl (fun c4 => ?_) (fun c4 => ?_)
      · replace h := ifp h c4
        refine go_iload_n (pc := 33) dX3_meet_33 rfl rfl ?_
        refine go_iconst (pc := 34) (v := 3) dX3_meet_34 ci_3 ?_
        refine go_icmp_ne (pc := 35) (tgt := 42) dX3_meet_35 rfl (fun c5 => ?_) (fun c5 => ?_)
        · replace h := ifn h c5
          refine go_iconst (pc := 42) (v := 1) dX3_meet_42 ci_1 ?_
          refine go_le (lle_s (lle_s (lle_n (lle_s lle_0)))) ?_
          exact gX3_meet_b43  h
        · replace h := ifp h c5
          refine go_iconst (pc := 38) (v := 0) dX3_meet_38 ci_0 ?_
          refine go_goto (pc := 39) (tgt := 43) dX3_meet_39 rfl ?_
          refine go_le (lle_s (lle_s (lle_n (lle_s lle_0)))) ?_
          exact gX3_meet_b43  h
      · replace h := ifn h c4
        refine go_iload_n (pc := 29) dX3_meet_29 rfl rfl ?_
        refine go_goto (pc := 30) (tgt := 43) dX3_meet_30 rfl ?_
        refine go_le (lle_s (lle_s (lle_n (lle_s lle_0)))) ?_
        exact gX3_meet_b43  h
    · replace h := ifn h c2
      refine go_iconst (pc := 10) (v := 0) dX3_meet_10 ci_0 ?_
      cases h
      exact go_iret (pc := 11) (Or.inl rfl) ⟨Nat.zero_le _, Nat.zero_le _⟩ dX3_meet_11
def eX3_isLastOfState (a1 : Int32) (V : Mm) : Option (Int32) :=
  if (V 76 4) ≤ (a1 + 1) then
    some 1
  else
    (eX3_at (a1 + 1) 0 V).bind fun r2 =>
    (eX3_at a1 0 V).bind fun r4 =>
    if r2 = r4 then
      (eX3_at (a1 + 1) 1 V).bind fun r7 =>
      (eX3_at a1 1 V).bind fun r9 =>
      if r7 = r9 then
        some 0
      else
        some 1
    else
      some 1
set_option maxHeartbeats 4000000 in
set_option maxRecDepth 100000 in
theorem E_X3_isLastOfState {a1 : Int32} {V : Mm} {res : Int32}  (h : eX3_isLastOfState a1 V = some res) : Ev mX3_isLastOfState [.ref 76, .int a1] (hC V) (some (.int res)) (hC V) := by
  refine Ev.of (n := 0) oX3_isLastOfState.1 (Nat.le_of_ble_eq_true rfl) ?_
  unfold eX3_isLastOfState at h
  show Go mX3_isLastOfState 0 [some (.ref 76), some (.int a1)] [] (hC V) 0 0 (some (.int res)) (hC V)
  refine go_iload_n (pc := 0) dX3_isLastOfState_0 rfl rfl ?_
  refine go_iconst (pc := 1) (v := 1) dX3_isLastOfState_1 ci_1 ?_
  refine go_iadd (pc := 2) dX3_isLastOfState_2 ?_
  refine go_aload_n (pc := 3) dX3_isLastOfState_3 rfl rfl ?_
  refine go_gI (pc := 4) (v := V 76 4) fX3_27 (by decide) (show TC 76 = (3 + 5, 5) from rfl) dX3_isLastOfState_4 rfl ?_
  refine go_icmp_ge (pc := 7) (tgt := 44) dX3_isLastOfState_7 rfl (fun c1 => ?_) (fun c1 => ?_)
  · replace h := ifp h c1
    refine go_iconst (pc := 44) (v := 1) dX3_isLastOfState_44 ci_1 ?_
    refine go_goto (pc := 45) (tgt := 49) dX3_isLastOfState_45 rfl ?_
    cases h
    exact go_iret (pc := 49) (Or.inr ⟨rfl, Or.inr rfl⟩) ⟨Nat.zero_le _, Nat.zero_le _⟩ dX3_isLastOfState_49
  · replace h := ifn h c1
    refine go_aload_n (pc := 10) dX3_isLastOfState_10 rfl rfl ?_
    refine go_iload_n (pc := 11) dX3_isLastOfState_11 rfl rfl ?_
    refine go_iconst (pc := 12) (v := 1) dX3_isLastOfState_12 ci_1 ?_
    refine go_iadd (pc := 13) dX3_isLastOfState_13 ?_
    refine go_iconst (pc := 14) (v := 0) dX3_isLastOfState_14 ci_0 ?_
    obtain ⟨r2, e3, h⟩ := ok_bind h
    refine go_cV (pc := 15) (ci := 3) (As := [.int (a1 + 1), .int 0]) (st := []) (E_X3_at e3) rfl oX3_at iX3_at sX3_at kX3_33 rfl (show TC 76 = (3 + 5, 5) from rfl) rfl (Nat.le_of_ble_eq_true rfl) ⟨Nat.le_of_ble_eq_true rfl, Nat.le_of_ble_eq_true rfl⟩ ⟨rfl, rfl⟩ dX3_isLastOfState_15 (st2 := [.int r2]) rfl ?_
    refine go_aload_n (pc := 18) dX3_isLastOfState_18 rfl rfl ?_
    refine go_iload_n (pc := 19) dX3_isLastOfState_19 rfl rfl ?_
    refine go_iconst (pc := 20) (v := 0) dX3_isLastOfState_20 ci_0 ?_
    obtain ⟨r4, e5, h⟩ := ok_bind h
    refine go_cV (pc := 21) (ci := 3) (As := [.int a1, .int 0]) (st := [.int r2]) (E_X3_at e5) rfl oX3_at iX3_at sX3_at kX3_33 rfl (show TC 76 = (3 + 5, 5) from rfl) rfl (Nat.le_of_ble_eq_true rfl) ⟨Nat.le_of_ble_eq_true rfl, Nat.le_of_ble_eq_true rfl⟩ ⟨rfl, rfl⟩ dX3_isLastOfState_21 (st2 := [.int r4, .int r2]) rfl ?_
    refine go_icmp_ne (pc := 24) (tgt := 44) dX3_isLastOfState_24 rfl (fun c6 => ?_) (fun c6 => ?_)
    · replace h := ifn h c6
      refine go_iconst (pc := 44) (v := 1) dX3_isLastOfState_44 ci_1 ?_
      refine go_goto (pc := 45) (tgt := 49) dX3_isLastOfState_45 rfl ?_
      cases h
      exact go_iret (pc := 49) (Or.inr ⟨rfl, Or.inr rfl⟩) ⟨Nat.zero_le _, Nat.zero_le _⟩ dX3_isLastOfState_49
    · replace h := ifp h c6
      refine go_aload_n (pc := 27) dX3_isLastOfState_27 rfl rfl ?_
      refine go_iload_n (pc := 28) dX3_isLastOfState_28 rfl rfl ?_
      refine go_iconst (pc := 29) (v := 1) dX3_isLastOfState_29 ci_1 ?_
      refine go_iadd (pc := 30) dX3_isLastOfState_30 ?_
      refine go_iconst (pc := 31) (v := 1) dX3_isLastOfState_31 ci_1 ?_
      obtain ⟨r7, e8, h⟩ := ok_bind h
      refine go_cV (pc := 32) (ci := 3) (As := [.int (a1 + 1), .int 1]) (st := []) (E_X3_at e8) rfl oX3_at iX3_at sX3_at kX3_33 rfl (show TC 76 = (3 + 5, 5) from rfl) rfl (Nat.le_of_ble_eq_true rfl) ⟨Nat.le_of_ble_eq_true rfl, Nat.le_of_ble_eq_true rfl⟩ ⟨rfl, rfl⟩ dX3_isLastOfState_32 (st2 := [.int r7]) rfl ?_
      refine go_aload_n (pc := 35) dX3_isLastOfState_35 rfl rfl ?_
      refine go_iload_n (pc := 36) dX3_isLastOfState_36 rfl rfl ?_
      refine go_iconst (pc := 37) (v := 1) dX3_isLastOfState_37 ci_1 ?_
      obtain ⟨r9, e10, h⟩ := ok_bind h
      refine go_cV (pc := 38) (ci := 3) (As := [.int a1, .int 1]) (st := [.int r7]) (E_X3_at e10) rfl oX3_at iX3_at sX3_at kX3_33 rfl (show TC 76 = (3 + 5, 5) from rfl) rfl (Nat.le_of_ble_eq_true rfl) ⟨Nat.le_of_ble_eq_true rfl, Nat.le_of_ble_eq_true rfl⟩ ⟨rfl, rfl⟩ dX3_isLastOfState_38 (st2 := [.int r9, .int r7]) rfl ?_
      refine go_icmp_eq (pc := 41) (tgt := 48) dX3_isLastOfState_41 rfl (fun c11 => ?_) (fun c11 => ?_)
      · replace h := ifp h c11
        refine go_iconst (pc := 48) (v := 0) dX3_isLastOfState_48 ci_0 ?_
        cases h
        exact go_iret (pc := 49) (Or.inr ⟨rfl, Or.inl rfl⟩) ⟨Nat.zero_le _, Nat.zero_le _⟩ dX3_isLastOfState_49
      · replace h := ifn h c11
        refine go_iconst (pc := 44) (v := 1) dX3_isLastOfState_44 ci_1 ?_
        refine go_goto (pc := 45) (tgt := 49) dX3_isLastOfState_45 rfl ?_
        cases h
        exact go_iret (pc := 49) (Or.inr ⟨rfl, Or.inr rfl⟩) ⟨Nat.zero_le _, Nat.zero_le _⟩ dX3_isLastOfState_49
def eX3_lastTellable_b14 : Nat → Int32 → Int32 → Int32 → Int32 → Int32 → Int32 → Mm → Option (Int32 × Mm)
  | 0, _, _, _, _, _, _, _ => none
  | n + 1, l1, l2, l3, l4, l5, l6, V => 
    if (V 76 4) ≤ l6 then
      some (l4, V)
    else
      (eX3_isOf l6 l1 l2 V).bind fun r4 =>
      if r4 = 0 then
        eX3_lastTellable_b14 n l1 l2 l3 l4 l5 (l6 + 1) V
      else
        (eX3_at l6 2 V).bind fun r7 =>
        (eX3_at l6 3 V).bind fun r9 =>
        (eX3_meet r7 r9 V).bind fun r11 =>
        (eX3_isLastOfState l6 r11.2).bind fun r13 =>
        if r13 = 0 then
          eX3_lastTellable_b14 n l1 l2 l3 l4 (l5 + r11.1) (l6 + 1) r11.2
        else
          if l3 < (l5 + r11.1) then
            eX3_lastTellable_b14 n l1 l2 l3 l4 (l5 + r11.1) (l6 + 1) r11.2
          else
            (eX3_at l6 1 r11.2).bind fun r17 =>
            eX3_lastTellable_b14 n l1 l2 l3 r17 (l5 + r11.1) (l6 + 1) r11.2
set_option maxHeartbeats 4000000 in
set_option maxRecDepth 100000 in
theorem gX3_lastTellable_b14 : ∀ (n : Nat) (l1 : Int32) (l2 : Int32) (l3 : Int32) (l4 : Int32) (l5 : Int32) (l6 : Int32) (V : Mm) (res : Int32 × Mm) , eX3_lastTellable_b14 n l1 l2 l3 l4 l5 l6 V = some res → Go mX3_lastTellable 14 [some (.ref 76), some (.int l1), some (.int l2), some (.int l3), some (.int l4), some (.int l5), some (.int l6)] [] (hC V) 0 0 (some (.int res.1)) (hC res.2) := by
  intro n
  induction n with
  | zero =>
    intro l1 l2 l3 l4 l5 l6 V res  h
    cases h
  | succ n ih =>
    intro l1 l2 l3 l4 l5 l6 V res  h
    rw [eX3_lastTellable_b14] at h
    refine go_iload (pc := 14) dX3_lastTellable_14 rfl ?_
    refine go_aload_n (pc := 16) dX3_lastTellable_16 rfl rfl ?_
    refine go_gI (pc := 17) (v := V 76 4) fX3_27 (by decide) (show TC 76 = (3 + 5, 5) from rfl) dX3_lastTellable_17 rfl ?_
    refine go_icmp_ge (pc := 20) (tgt := 87) dX3_lastTellable_20 rfl (fun c3 => ?_) (fun c3 => ?_)
    · replace h := ifp h c3
      refine go_iload (pc := 87) dX3_lastTellable_87 rfl ?_
      cases h
      exact go_iret (pc := 89) (Or.inl rfl) ⟨Nat.zero_le _, Nat.zero_le _⟩ dX3_lastTellable_89
    · replace h := ifn h c3
      refine go_aload_n (pc := 23) dX3_lastTellable_23 rfl rfl ?_
      refine go_iload (pc := 24) dX3_lastTellable_24 rfl ?_
      refine go_iload_n (pc := 26) dX3_lastTellable_26 rfl rfl ?_
      refine go_iload_n (pc := 27) dX3_lastTellable_27 rfl rfl ?_
      obtain ⟨r4, e5, h⟩ := ok_bind h
      refine go_cV (pc := 28) (ci := 3) (As := [.int l6, .int l1, .int l2]) (st := []) (E_X3_isOf e5) rfl oX3_isOf iX3_isOf sX3_isOf kX3_59 rfl (show TC 76 = (3 + 5, 5) from rfl) rfl (Nat.le_of_ble_eq_true rfl) ⟨Nat.le_of_ble_eq_true rfl, Nat.le_of_ble_eq_true rfl⟩ ⟨rfl, rfl⟩ dX3_lastTellable_28 (st2 := [.int r4]) rfl ?_
      refine go_if_eq (pc := 31) (tgt := 81) dX3_lastTellable_31 rfl (fun c6 => ?_) (fun c6 => ?_)
      · replace h := ifp h c6
        refine go_iinc (pc := 81) (v := (l6 + 1)) dX3_lastTellable_81 rfl (by rw [ci_1]) (Nat.le_of_ble_eq_true rfl) (L2 := [some (.ref 76), some (.int l1), some (.int l2), some (.int l3), some (.int l4), some (.int l5), some (.int (l6 + 1))]) rfl ?_
        refine go_goto (pc := 84) (tgt := 14) dX3_lastTellable_84 rfl ?_
        exact ih _ _ _ _ _ _ _ _  h
      · replace h := ifn h c6
        refine go_iload (pc := 34) dX3_lastTellable_34 rfl ?_
        refine go_aload_n (pc := 36) dX3_lastTellable_36 rfl rfl ?_
        refine go_aload_n (pc := 37) dX3_lastTellable_37 rfl rfl ?_
        refine go_iload (pc := 38) dX3_lastTellable_38 rfl ?_
        refine go_iconst (pc := 40) (v := 2) dX3_lastTellable_40 ci_2 ?_
        obtain ⟨r7, e8, h⟩ := ok_bind h
        refine go_cV (pc := 41) (ci := 3) (As := [.int l6, .int 2]) (st := [.ref 76, .int l5]) (E_X3_at e8) rfl oX3_at iX3_at sX3_at kX3_33 rfl (show TC 76 = (3 + 5, 5) from rfl) rfl (Nat.le_of_ble_eq_true rfl) ⟨Nat.le_of_ble_eq_true rfl, Nat.le_of_ble_eq_true rfl⟩ ⟨rfl, rfl⟩ dX3_lastTellable_41 (st2 := [.int r7, .ref 76, .int l5]) rfl ?_
        refine go_aload_n (pc := 44) dX3_lastTellable_44 rfl rfl ?_
        refine go_iload (pc := 45) dX3_lastTellable_45 rfl ?_
        refine go_iconst (pc := 47) (v := 3) dX3_lastTellable_47 ci_3 ?_
        obtain ⟨r9, e10, h⟩ := ok_bind h
        refine go_cV (pc := 48) (ci := 3) (As := [.int l6, .int 3]) (st := [.int r7, .ref 76, .int l5]) (E_X3_at e10) rfl oX3_at iX3_at sX3_at kX3_33 rfl (show TC 76 = (3 + 5, 5) from rfl) rfl (Nat.le_of_ble_eq_true rfl) ⟨Nat.le_of_ble_eq_true rfl, Nat.le_of_ble_eq_true rfl⟩ ⟨rfl, rfl⟩ dX3_lastTellable_48 (st2 := [.int r9, .int r7, .ref 76, .int l5]) rfl ?_
        obtain ⟨r11, e12, h⟩ := ok_bind h
        refine go_cV (pc := 51) (ci := 3) (As := [.int r7, .int r9]) (st := [.int l5]) (E_X3_meet e12) rfl oX3_meet iX3_meet sX3_meet kX3_63 rfl (show TC 76 = (3 + 5, 5) from rfl) rfl (Nat.le_of_ble_eq_true rfl) ⟨Nat.le_of_ble_eq_true rfl, Nat.le_of_ble_eq_true rfl⟩ ⟨rfl, rfl⟩ dX3_lastTellable_51 (st2 := [.int r11.1, .int l5]) rfl ?_
        refine go_iadd (pc := 54) dX3_lastTellable_54 ?_
        refine go_istore (pc := 55) (i := 5) dX3_lastTellable_55 (Nat.le_of_ble_eq_true rfl) (L2 := [some (.ref 76), some (.int l1), some (.int l2), some (.int l3), some (.int l4), some (.int (l5 + r11.1)), some (.int l6)]) rfl ?_
        refine go_aload_n (pc := 57) dX3_lastTellable_57 rfl rfl ?_
        refine go_iload (pc := 58) dX3_lastTellable_58 rfl ?_
        obtain ⟨r13, e14, h⟩ := ok_bind h
        refine go_cV (pc := 60) (ci := 3) (As := [.int l6]) (st := []) (E_X3_isLastOfState e14) rfl oX3_isLastOfState iX3_isLastOfState sX3_isLastOfState kX3_72 rfl (show TC 76 = (3 + 5, 5) from rfl) rfl (Nat.le_of_ble_eq_true rfl) ⟨Nat.le_of_ble_eq_true rfl, Nat.le_of_ble_eq_true rfl⟩ ⟨rfl, rfl⟩ dX3_lastTellable_60 (st2 := [.int r13]) rfl ?_
        refine go_if_eq (pc := 63) (tgt := 81) dX3_lastTellable_63 rfl (fun c15 => ?_) (fun c15 => ?_)
        · replace h := ifp h c15
          refine go_iinc (pc := 81) (v := (l6 + 1)) dX3_lastTellable_81 rfl (by rw [ci_1]) (Nat.le_of_ble_eq_true rfl) (L2 := [some (.ref 76), some (.int l1), some (.int l2), some (.int l3), some (.int l4), some (.int (l5 + r11.1)), some (.int (l6 + 1))]) rfl ?_
          refine go_goto (pc := 84) (tgt := 14) dX3_lastTellable_84 rfl ?_
          exact ih _ _ _ _ _ _ _ _  h
        · replace h := ifn h c15
          refine go_iload (pc := 66) dX3_lastTellable_66 rfl ?_
          refine go_iload_n (pc := 68) dX3_lastTellable_68 rfl rfl ?_
          refine go_icmp_gt (pc := 69) (tgt := 81) dX3_lastTellable_69 rfl (fun c16 => ?_) (fun c16 => ?_)
          · replace h := ifp h c16
            refine go_iinc (pc := 81) (v := (l6 + 1)) dX3_lastTellable_81 rfl (by rw [ci_1]) (Nat.le_of_ble_eq_true rfl) (L2 := [some (.ref 76), some (.int l1), some (.int l2), some (.int l3), some (.int l4), some (.int (l5 + r11.1)), some (.int (l6 + 1))]) rfl ?_
            refine go_goto (pc := 84) (tgt := 14) dX3_lastTellable_84 rfl ?_
            exact ih _ _ _ _ _ _ _ _  h
          · replace h := ifn h c16
            refine go_aload_n (pc := 72) dX3_lastTellable_72 rfl rfl ?_
            refine go_iload (pc := 73) dX3_lastTellable_73 rfl ?_
            refine go_iconst (pc := 75) (v := 1) dX3_lastTellable_75 ci_1 ?_
            obtain ⟨r17, e18, h⟩ := ok_bind h
            refine go_cV (pc := 76) (ci := 3) (As := [.int l6, .int 1]) (st := []) (E_X3_at e18) rfl oX3_at iX3_at sX3_at kX3_33 rfl (show TC 76 = (3 + 5, 5) from rfl) rfl (Nat.le_of_ble_eq_true rfl) ⟨Nat.le_of_ble_eq_true rfl, Nat.le_of_ble_eq_true rfl⟩ ⟨rfl, rfl⟩ dX3_lastTellable_76 (st2 := [.int r17]) rfl ?_
            refine go_istore (pc := 79) (i := 4) dX3_lastTellable_79 (Nat.le_of_ble_eq_true rfl) (L2 := [some (.ref 76), some (.int l1), some (.int l2), some (.int l3), some (.int r17), some (.int (l5 + r11.1)), some (.int l6)]) rfl ?_
            refine go_iinc (pc := 81) (v := (l6 + 1)) dX3_lastTellable_81 rfl (by rw [ci_1]) (Nat.le_of_ble_eq_true rfl) (L2 := [some (.ref 76), some (.int l1), some (.int l2), some (.int l3), some (.int r17), some (.int (l5 + r11.1)), some (.int (l6 + 1))]) rfl ?_
            refine go_goto (pc := 84) (tgt := 14) dX3_lastTellable_84 rfl ?_
            exact ih _ _ _ _ _ _ _ _  h
def eX3_lastTellable (a1 : Int32) (a2 : Int32) (a3 : Int32) (V : Mm) : Option (Int32 × Mm) :=
  (eX3_forget V).bind fun r1 =>
  eX3_lastTellable_b14 fu a1 a2 a3 (-9) 0 0 r1
set_option maxHeartbeats 4000000 in
set_option maxRecDepth 100000 in
theorem E_X3_lastTellable {a1 : Int32} {a2 : Int32} {a3 : Int32} {V : Mm} {res : Int32 × Mm}  (h : eX3_lastTellable a1 a2 a3 V = some res) : Ev mX3_lastTellable [.ref 76, .int a1, .int a2, .int a3] (hC V) (some (.int res.1)) (hC res.2) := by
  refine Ev.of (n := 3) oX3_lastTellable.1 (Nat.le_of_ble_eq_true rfl) ?_
  unfold eX3_lastTellable at h
  show Go mX3_lastTellable 0 [some (.ref 76), some (.int a1), some (.int a2), some (.int a3), none, none, none] [] (hC V) 0 0 (some (.int res.1)) (hC res.2)
  refine go_aload_n (pc := 0) dX3_lastTellable_0 rfl rfl ?_
  obtain ⟨r1, e2, h⟩ := ok_bind h
  refine go_cV (pc := 1) (ci := 3) (As := []) (st := []) (E_X3_forget e2) rfl oX3_forget iX3_forget sX3_forget kX3_56 rfl (show TC 76 = (3 + 5, 5) from rfl) rfl (Nat.le_of_ble_eq_true rfl) ⟨Nat.le_of_ble_eq_true rfl, Nat.le_of_ble_eq_true rfl⟩ ⟨rfl, rfl⟩ dX3_lastTellable_1 (st2 := []) rfl ?_
  refine go_bipush (pc := 4) (v := (-9)) dX3_lastTellable_4 cb_m9 ?_
  refine go_istore (pc := 6) (i := 4) dX3_lastTellable_6 (Nat.le_of_ble_eq_true rfl) (L2 := [some (.ref 76), some (.int a1), some (.int a2), some (.int a3), some (.int (-9)), none, none]) rfl ?_
  refine go_iconst (pc := 8) (v := 0) dX3_lastTellable_8 ci_0 ?_
  refine go_istore (pc := 9) (i := 5) dX3_lastTellable_9 (Nat.le_of_ble_eq_true rfl) (L2 := [some (.ref 76), some (.int a1), some (.int a2), some (.int a3), some (.int (-9)), some (.int 0), none]) rfl ?_
  refine go_iconst (pc := 11) (v := 0) dX3_lastTellable_11 ci_0 ?_
  refine go_istore (pc := 12) (i := 6) dX3_lastTellable_12 (Nat.le_of_ble_eq_true rfl) (L2 := [some (.ref 76), some (.int a1), some (.int a2), some (.int a3), some (.int (-9)), some (.int 0), some (.int 0)]) rfl ?_
  exact gX3_lastTellable_b14 _ _ _ _ _ _ _ _ _  h
def eX4_add (o : Nat) (a1 : Int32) (a2 : Int32) (V : Mm) : Option (Mm) :=
  if a1 < 0 then
    some V
  else
    if 4 ≤ a1 then
      some V
    else
      if a1 < 0 ∨ 4 ≤ a1.toNatClampNeg then none else
      if 50 ≤ (V (o + 6) a1.toNatClampNeg) then
        some V
      else
        if a1 < 0 ∨ 4 ≤ a1.toNatClampNeg then none else
        if a1 < 0 ∨ 4 ≤ a1.toNatClampNeg then none else
        if V (o + 6) a1.toNatClampNeg < 0 ∨ 50 ≤ (V (o + 6) a1.toNatClampNeg).toNatClampNeg then none else
        if a1 < 0 ∨ 4 ≤ a1.toNatClampNeg then none else
        if a1 < 0 ∨ 4 ≤ a1.toNatClampNeg then none else
        some (wr (wr V ((o + 2) + a1.toNatClampNeg) ((V (o + 6) a1.toNatClampNeg).toNatClampNeg) a2) (o + 6) a1.toNatClampNeg (((wr V ((o + 2) + a1.toNatClampNeg) ((V (o + 6) a1.toNatClampNeg).toNatClampNeg) a2) (o + 6) a1.toNatClampNeg) + 1))
set_option maxHeartbeats 4000000 in
set_option maxRecDepth 100000 in
theorem E_X4_add {o : Nat} {a1 : Int32} {a2 : Int32} {V : Mm} {res : Mm} (ho : isOut o) (h : eX4_add o a1 a2 V = some res) : Ev mX4_add [.ref o, .int a1, .int a2] (hC V) none (hC res) := by
  refine Ev.of (n := 0) oX4_add.1 (Nat.le_of_ble_eq_true rfl) ?_
  unfold eX4_add at h
  show Go mX4_add 0 [some (.ref o), some (.int a1), some (.int a2)] [] (hC V) 0 0 none (hC res)
  refine go_iload_n (pc := 0) dX4_add_0 rfl rfl ?_
  refine go_if_lt (pc := 1) (tgt := 44) dX4_add_1 rfl (fun c1 => ?_) (fun c1 => ?_)
  · replace h := ifp h c1
    cases h
    exact go_vret (pc := 44) rfl ⟨Nat.zero_le _, Nat.zero_le _⟩ dX4_add_44
  · replace h := ifn h c1
    refine go_iload_n (pc := 4) dX4_add_4 rfl rfl ?_
    refine go_iconst (pc := 5) (v := 4) dX4_add_5 ci_4 ?_
    refine go_icmp_ge (pc := 6) (tgt := 44) dX4_add_6 rfl (fun c2 => ?_) (fun c2 => ?_)
    · replace h := ifp h c2
      cases h
      exact go_vret (pc := 44) rfl ⟨Nat.zero_le _, Nat.zero_le _⟩ dX4_add_44
    · replace h := ifn h c2
      refine go_aload_n (pc := 9) dX4_add_9 rfl rfl ?_
      refine go_getP (pc := 10) (a := (o + 6)) fX4_16 (by decide) (O_T ho) (O_1 ho) dX4_add_10 ?_
      refine go_iload_n (pc := 13) dX4_add_13 rfl rfl ?_
      obtain ⟨c3, h⟩ := ok_not h
      refine go_ia (pc := 14) (v := V (o + 6) a1.toNatClampNeg) (O_T1 ho) (vin c3) dX4_add_14 rfl ?_
      refine go_bipush (pc := 15) (v := 50) dX4_add_15 cb_50 ?_
      refine go_icmp_ge (pc := 17) (tgt := 44) dX4_add_17 rfl (fun c4 => ?_) (fun c4 => ?_)
      · replace h := ifp h c4
        cases h
        exact go_vret (pc := 44) rfl ⟨Nat.zero_le _, Nat.zero_le _⟩ dX4_add_44
      · replace h := ifn h c4
        refine go_aload_n (pc := 20) dX4_add_20 rfl rfl ?_
        refine go_getP (pc := 21) (a := (o + 1)) fX4_11 (by decide) (O_T ho) (O_0 ho) dX4_add_21 ?_
        refine go_iload_n (pc := 24) dX4_add_24 rfl rfl ?_
        obtain ⟨c5, h⟩ := ok_not h
        refine go_aald2 (pc := 25) (a := ((o + 2) + a1.toNatClampNeg)) (O_T0 ho) (vin c5) (O_r ho (vlt c5)) dX4_add_25 ?_
        refine go_aload_n (pc := 26) dX4_add_26 rfl rfl ?_
        refine go_getP (pc := 27) (a := (o + 6)) fX4_16 (by decide) (O_T ho) (O_1 ho) dX4_add_27 ?_
        refine go_iload_n (pc := 30) dX4_add_30 rfl rfl ?_
        obtain ⟨c6, h⟩ := ok_not h
        refine go_ia (pc := 31) (v := V (o + 6) a1.toNatClampNeg) (O_T1 ho) (vin c6) dX4_add_31 rfl ?_
        refine go_iload_n (pc := 32) dX4_add_32 rfl rfl ?_
        obtain ⟨c7, h⟩ := ok_not h
        refine go_iast (pc := 33) (O_Tr ho (vlt c5)) (vin c7) dX4_add_33 ?_
        refine go_aload_n (pc := 34) dX4_add_34 rfl rfl ?_
        refine go_getP (pc := 35) (a := (o + 6)) fX4_16 (by decide) (O_T ho) (O_1 ho) dX4_add_35 ?_
        refine go_iload_n (pc := 38) dX4_add_38 rfl rfl ?_
        refine go_dup2 (pc := 39) dX4_add_39 ?_
        obtain ⟨c8, h⟩ := ok_not h
        refine go_ia (pc := 40) (v := (wr V ((o + 2) + a1.toNatClampNeg) ((V (o + 6) a1.toNatClampNeg).toNatClampNeg) a2) (o + 6) a1.toNatClampNeg) (O_T1 ho) (vin c8) dX4_add_40 rfl ?_
        refine go_iconst (pc := 41) (v := 1) dX4_add_41 ci_1 ?_
        refine go_iadd (pc := 42) dX4_add_42 ?_
        obtain ⟨c9, h⟩ := ok_not h
        refine go_iast (pc := 43) (O_T1 ho) (vin c9) dX4_add_43 ?_
        cases h
        exact go_vret (pc := 44) rfl ⟨Nat.zero_le _, Nat.zero_le _⟩ dX4_add_44
def eX3_tellChanges_b152 : Nat → Nat → Int32 → Int32 → Mm → Option (Int32 × Mm)
  | 0, _, _, _, _ => none
  | n + 1, l3, l4, l5, V => 
    if 50 ≤ l5 then
      (eX4_add l3 0 l4 V).bind fun r12 =>
      some (0, r12)
    else
      if l5 < 0 ∨ 50 ≤ l5.toNatClampNeg then none else
      if (V 83 l5.toNatClampNeg) = 0 then
        eX3_tellChanges_b152 n l3 l4 (l5 + 1) V
      else
        if l5 < 0 ∨ 50 ≤ l5.toNatClampNeg then none else
        (eX4_add l3 (V 83 l5.toNatClampNeg) l5 V).bind fun r17 =>
        eX3_tellChanges_b152 n l3 l4 (l5 + 1) r17
set_option maxHeartbeats 4000000 in
set_option maxRecDepth 100000 in
theorem gX3_tellChanges_b152 : ∀ (n : Nat) (l3 : Nat) (l4 : Int32) (l5 : Int32) (V : Mm) (res : Int32 × Mm) (hl3 : isOut l3), eX3_tellChanges_b152 n l3 l4 l5 V = some res → Go mX3_tellChanges 152 [some (.ref 76), none, none, some (.ref l3), some (.int l4), some (.int l5)] [] (hC V) 0 0 (some (.int res.1)) (hC res.2) := by
  intro n
  induction n with
  | zero =>
    intro l3 l4 l5 V res hl3 h
    cases h
  | succ n ih =>
    intro l3 l4 l5 V res hl3 h
    rw [eX3_tellChanges_b152] at h
    refine go_iload (pc := 152) dX3_tellChanges_152 rfl ?_
    refine go_bipush (pc := 154) (v := 50) dX3_tellChanges_154 cb_50 ?_
    refine go_icmp_ge (pc := 156) (tgt := 188) dX3_tellChanges_156 rfl (fun c11 => ?_) (fun c11 => ?_)
    · replace h := ifp h c11
      refine go_aload_n (pc := 188) dX3_tellChanges_188 rfl rfl ?_
      refine go_iconst (pc := 189) (v := 0) dX3_tellChanges_189 ci_0 ?_
      refine go_iload (pc := 190) dX3_tellChanges_190 rfl ?_
      obtain ⟨r12, e13, h⟩ := ok_bind h
      refine go_cV (pc := 192) (ci := 4) (As := [.int 0, .int l4]) (st := []) (E_X4_add hl3 e13) rfl oX4_add iX4_add sX4_add kX3_66 rfl (O_T hl3) rfl (Nat.le_of_ble_eq_true rfl) ⟨Nat.le_of_ble_eq_true rfl, Nat.le_of_ble_eq_true rfl⟩ ⟨rfl, rfl⟩ dX3_tellChanges_192 (st2 := []) rfl ?_
      refine go_iconst (pc := 195) (v := 0) dX3_tellChanges_195 ci_0 ?_
      cases h
      exact go_iret (pc := 196) (Or.inl rfl) ⟨Nat.zero_le _, Nat.zero_le _⟩ dX3_tellChanges_196
    · replace h := ifn h c11
      refine go_aload_n (pc := 159) dX3_tellChanges_159 rfl rfl ?_
      refine go_getP (pc := 160) (a := 83) fX3_20 (by decide) (show TC 76 = (3 + 5, 5) from rfl) rfl dX3_tellChanges_160 ?_
      refine go_iload (pc := 163) dX3_tellChanges_163 rfl ?_
      obtain ⟨c14, h⟩ := ok_not h
      refine go_ia (pc := 165) (v := V 83 l5.toNatClampNeg) (show TC 83 = (0, 50) from rfl) (vin c14) dX3_tellChanges_165 rfl ?_
      refine go_if_eq (pc := 166) (tgt := 182) dX3_tellChanges_166 rfl (fun c15 => ?_) (fun c15 => ?_)
      · replace h := ifp h c15
        refine go_iinc (pc := 182) (v := (l5 + 1)) dX3_tellChanges_182 rfl (by rw [ci_1]) (Nat.le_of_ble_eq_true rfl) (L2 := [some (.ref 76), none, none, some (.ref l3), some (.int l4), some (.int (l5 + 1))]) rfl ?_
        refine go_goto (pc := 185) (tgt := 152) dX3_tellChanges_185 rfl ?_
        exact ih _ _ _ _ _ hl3 h
      · replace h := ifn h c15
        refine go_aload_n (pc := 169) dX3_tellChanges_169 rfl rfl ?_
        refine go_aload_n (pc := 170) dX3_tellChanges_170 rfl rfl ?_
        refine go_getP (pc := 171) (a := 83) fX3_20 (by decide) (show TC 76 = (3 + 5, 5) from rfl) rfl dX3_tellChanges_171 ?_
        refine go_iload (pc := 174) dX3_tellChanges_174 rfl ?_
        obtain ⟨c16, h⟩ := ok_not h
        refine go_ia (pc := 176) (v := V 83 l5.toNatClampNeg) (show TC 83 = (0, 50) from rfl) (vin c16) dX3_tellChanges_176 rfl ?_
        refine go_iload (pc := 177) dX3_tellChanges_177 rfl ?_
        obtain ⟨r17, e18, h⟩ := ok_bind h
        refine go_cV (pc := 179) (ci := 4) (As := [.int (V 83 l5.toNatClampNeg), .int l5]) (st := []) (E_X4_add hl3 e18) rfl oX4_add iX4_add sX4_add kX3_66 rfl (O_T hl3) rfl (Nat.le_of_ble_eq_true rfl) ⟨Nat.le_of_ble_eq_true rfl, Nat.le_of_ble_eq_true rfl⟩ ⟨rfl, rfl⟩ dX3_tellChanges_179 (st2 := []) rfl ?_
        refine go_iinc (pc := 182) (v := (l5 + 1)) dX3_tellChanges_182 rfl (by rw [ci_1]) (Nat.le_of_ble_eq_true rfl) (L2 := [some (.ref 76), none, none, some (.ref l3), some (.int l4), some (.int (l5 + 1))]) rfl ?_
        refine go_goto (pc := 185) (tgt := 152) dX3_tellChanges_185 rfl ?_
        exact ih _ _ _ _ _ hl3 h
def eX3_tellChanges_b86 : Nat → Nat → Nat → Int32 → Int32 → Mm → Option (Int32 × Mm)
  | 0, _, _, _, _, _ => none
  | n + 1, l1, l3, l4, l5, V => 
    if (V 76 4) ≤ l5 then
      eX3_tellChanges_b152 fu l3 l4 0 V
    else
      (eX3_isOf l5 (V l1 2) (V l1 11) V).bind fun r19 =>
      if r19 = 0 then
        eX3_tellChanges_b86 n l1 l3 l4 (l5 + 1) V
      else
        (eX3_at l5 1 V).bind fun r22 =>
        if l4 < r22 then
          eX3_tellChanges_b86 n l1 l3 l4 (l5 + 1) V
        else
          (eX3_at l5 2 V).bind fun r25 =>
          (eX3_at l5 3 V).bind fun r27 =>
          (eX3_meet r25 r27 V).bind fun r29 =>
          eX3_tellChanges_b86 n l1 l3 l4 (l5 + 1) r29.2
set_option maxHeartbeats 4000000 in
set_option maxRecDepth 100000 in
theorem gX3_tellChanges_b86 : ∀ (n : Nat) (l1 : Nat) (l3 : Nat) (l4 : Int32) (l5 : Int32) (V : Mm) (res : Int32 × Mm) (hl1 : isCall l1) (hl3 : isOut l3), eX3_tellChanges_b86 n l1 l3 l4 l5 V = some res → Go mX3_tellChanges 86 [some (.ref 76), some (.ref l1), none, some (.ref l3), some (.int l4), some (.int l5)] [] (hC V) 0 0 (some (.int res.1)) (hC res.2) := by
  intro n
  induction n with
  | zero =>
    intro l1 l3 l4 l5 V res hl1 hl3 h
    cases h
  | succ n ih =>
    intro l1 l3 l4 l5 V res hl1 hl3 h
    rw [eX3_tellChanges_b86] at h
    refine go_iload (pc := 86) dX3_tellChanges_86 rfl ?_
    refine go_aload_n (pc := 88) dX3_tellChanges_88 rfl rfl ?_
    refine go_gI (pc := 89) (v := V 76 4) fX3_27 (by decide) (show TC 76 = (3 + 5, 5) from rfl) dX3_tellChanges_89 rfl ?_
    refine go_icmp_ge (pc := 92) (tgt := 149) dX3_tellChanges_92 rfl (fun c10 => ?_) (fun c10 => ?_)
    · replace h := ifp h c10
      refine go_iconst (pc := 149) (v := 0) dX3_tellChanges_149 ci_0 ?_
      refine go_istore (pc := 150) (i := 5) dX3_tellChanges_150 (Nat.le_of_ble_eq_true rfl) (L2 := [some (.ref 76), some (.ref l1), none, some (.ref l3), some (.int l4), some (.int 0)]) rfl ?_
      refine go_le (lle_s (lle_n (lle_n (lle_s (lle_s (lle_s lle_0)))))) ?_
      exact gX3_tellChanges_b152 _ _ _ _ _ _ hl3 h
    · replace h := ifn h c10
      refine go_aload_n (pc := 95) dX3_tellChanges_95 rfl rfl ?_
      refine go_iload (pc := 96) dX3_tellChanges_96 rfl ?_
      refine go_aload_n (pc := 98) dX3_tellChanges_98 rfl rfl ?_
      refine go_gI (pc := 99) (v := V l1 2) fX3_41 (by decide) (C_T hl1) dX3_tellChanges_99 rfl ?_
      refine go_aload_n (pc := 102) dX3_tellChanges_102 rfl rfl ?_
      refine go_gI (pc := 103) (v := V l1 11) fX3_46 (by decide) (C_T hl1) dX3_tellChanges_103 rfl ?_
      obtain ⟨r19, e20, h⟩ := ok_bind h
      refine go_cV (pc := 106) (ci := 3) (As := [.int l5, .int (V l1 2), .int (V l1 11)]) (st := []) (E_X3_isOf e20) rfl oX3_isOf iX3_isOf sX3_isOf kX3_59 rfl (show TC 76 = (3 + 5, 5) from rfl) rfl (Nat.le_of_ble_eq_true rfl) ⟨Nat.le_of_ble_eq_true rfl, Nat.le_of_ble_eq_true rfl⟩ ⟨rfl, rfl⟩ dX3_tellChanges_106 (st2 := [.int r19]) rfl ?_
      refine go_if_eq (pc := 109) (tgt := 143) dX3_tellChanges_109 rfl (fun c21 => ?_) (fun c21 => ?_)
      · replace h := ifp h c21
        refine go_iinc (pc := 143) (v := (l5 + 1)) dX3_tellChanges_143 rfl (by rw [ci_1]) (Nat.le_of_ble_eq_true rfl) (L2 := [some (.ref 76), some (.ref l1), none, some (.ref l3), some (.int l4), some (.int (l5 + 1))]) rfl ?_
        refine go_goto (pc := 146) (tgt := 86) dX3_tellChanges_146 rfl ?_
        exact ih _ _ _ _ _ _ hl1 hl3 h
      · replace h := ifn h c21
        refine go_aload_n (pc := 112) dX3_tellChanges_112 rfl rfl ?_
        refine go_iload (pc := 113) dX3_tellChanges_113 rfl ?_
        refine go_iconst (pc := 115) (v := 1) dX3_tellChanges_115 ci_1 ?_
        obtain ⟨r22, e23, h⟩ := ok_bind h
        refine go_cV (pc := 116) (ci := 3) (As := [.int l5, .int 1]) (st := []) (E_X3_at e23) rfl oX3_at iX3_at sX3_at kX3_33 rfl (show TC 76 = (3 + 5, 5) from rfl) rfl (Nat.le_of_ble_eq_true rfl) ⟨Nat.le_of_ble_eq_true rfl, Nat.le_of_ble_eq_true rfl⟩ ⟨rfl, rfl⟩ dX3_tellChanges_116 (st2 := [.int r22]) rfl ?_
        refine go_iload (pc := 119) dX3_tellChanges_119 rfl ?_
        refine go_icmp_gt (pc := 121) (tgt := 143) dX3_tellChanges_121 rfl (fun c24 => ?_) (fun c24 => ?_)
        · replace h := ifp h c24
          refine go_iinc (pc := 143) (v := (l5 + 1)) dX3_tellChanges_143 rfl (by rw [ci_1]) (Nat.le_of_ble_eq_true rfl) (L2 := [some (.ref 76), some (.ref l1), none, some (.ref l3), some (.int l4), some (.int (l5 + 1))]) rfl ?_
          refine go_goto (pc := 146) (tgt := 86) dX3_tellChanges_146 rfl ?_
          exact ih _ _ _ _ _ _ hl1 hl3 h
        · replace h := ifn h c24
          refine go_aload_n (pc := 124) dX3_tellChanges_124 rfl rfl ?_
          refine go_aload_n (pc := 125) dX3_tellChanges_125 rfl rfl ?_
          refine go_iload (pc := 126) dX3_tellChanges_126 rfl ?_
          refine go_iconst (pc := 128) (v := 2) dX3_tellChanges_128 ci_2 ?_
          obtain ⟨r25, e26, h⟩ := ok_bind h
          refine go_cV (pc := 129) (ci := 3) (As := [.int l5, .int 2]) (st := [.ref 76]) (E_X3_at e26) rfl oX3_at iX3_at sX3_at kX3_33 rfl (show TC 76 = (3 + 5, 5) from rfl) rfl (Nat.le_of_ble_eq_true rfl) ⟨Nat.le_of_ble_eq_true rfl, Nat.le_of_ble_eq_true rfl⟩ ⟨rfl, rfl⟩ dX3_tellChanges_129 (st2 := [.int r25, .ref 76]) rfl ?_
          refine go_aload_n (pc := 132) dX3_tellChanges_132 rfl rfl ?_
          refine go_iload (pc := 133) dX3_tellChanges_133 rfl ?_
          refine go_iconst (pc := 135) (v := 3) dX3_tellChanges_135 ci_3 ?_
          obtain ⟨r27, e28, h⟩ := ok_bind h
          refine go_cV (pc := 136) (ci := 3) (As := [.int l5, .int 3]) (st := [.int r25, .ref 76]) (E_X3_at e28) rfl oX3_at iX3_at sX3_at kX3_33 rfl (show TC 76 = (3 + 5, 5) from rfl) rfl (Nat.le_of_ble_eq_true rfl) ⟨Nat.le_of_ble_eq_true rfl, Nat.le_of_ble_eq_true rfl⟩ ⟨rfl, rfl⟩ dX3_tellChanges_136 (st2 := [.int r27, .int r25, .ref 76]) rfl ?_
          obtain ⟨r29, e30, h⟩ := ok_bind h
          refine go_cV (pc := 139) (ci := 3) (As := [.int r25, .int r27]) (st := []) (E_X3_meet e30) rfl oX3_meet iX3_meet sX3_meet kX3_63 rfl (show TC 76 = (3 + 5, 5) from rfl) rfl (Nat.le_of_ble_eq_true rfl) ⟨Nat.le_of_ble_eq_true rfl, Nat.le_of_ble_eq_true rfl⟩ ⟨rfl, rfl⟩ dX3_tellChanges_139 (st2 := [.int r29.1]) rfl ?_
          refine go_pop (pc := 142) dX3_tellChanges_142 ?_
          refine go_iinc (pc := 143) (v := (l5 + 1)) dX3_tellChanges_143 rfl (by rw [ci_1]) (Nat.le_of_ble_eq_true rfl) (L2 := [some (.ref 76), some (.ref l1), none, some (.ref l3), some (.int l4), some (.int (l5 + 1))]) rfl ?_
          refine go_goto (pc := 146) (tgt := 86) dX3_tellChanges_146 rfl ?_
          exact ih _ _ _ _ _ _ hl1 hl3 h
def eX3_tellChanges (a1 : Nat) (a2 : Int32) (a3 : Nat) (V : Mm) : Option (Int32 × Mm) :=
  (eX5_isKind (V a1 2) V).bind fun r1 =>
  if r1 = 0 then
    some ((-6), V)
  else
    if a2 < (V a1 11) then
      some ((-6), V)
    else
      if V a1 2 < 0 ∨ 3 ≤ (V a1 2).toNatClampNeg then none else
      if (V 82 ((V a1 2).toNatClampNeg)) ≤ (V a1 11) then
        if a2 ≤ (V a1 11) then
          (eX3_forget V).bind fun r8 =>
          eX3_tellChanges_b86 fu a1 a3 (V a1 11) 0 r8
        else
          (eX3_lastTellable (V a1 2) (V a1 11) (V a1 10) V).bind fun r31 =>
          if r31.1 = (-9) then
            some ((-6), r31.2)
          else
            (eX3_forget r31.2).bind fun r34 =>
            eX3_tellChanges_b86 fu a1 a3 r31.1 0 r34
      else
        some ((-6), V)
set_option maxHeartbeats 4000000 in
set_option maxRecDepth 100000 in
theorem E_X3_tellChanges {a1 : Nat} {a2 : Int32} {a3 : Nat} {V : Mm} {res : Int32 × Mm} (ha1 : isCall a1) (ha3 : isOut a3) (h : eX3_tellChanges a1 a2 a3 V = some res) : Ev mX3_tellChanges [.ref 76, .ref a1, .int a2, .ref a3] (hC V) (some (.int res.1)) (hC res.2) := by
  refine Ev.of (n := 2) oX3_tellChanges.1 (Nat.le_of_ble_eq_true rfl) ?_
  unfold eX3_tellChanges at h
  show Go mX3_tellChanges 0 [some (.ref 76), some (.ref a1), some (.int a2), some (.ref a3), none, none] [] (hC V) 0 0 (some (.int res.1)) (hC res.2)
  refine go_aload_n (pc := 0) dX3_tellChanges_0 rfl rfl ?_
  refine go_gI (pc := 1) (v := V a1 2) fX3_41 (by decide) (C_T ha1) dX3_tellChanges_1 rfl ?_
  obtain ⟨r1, e2, h⟩ := ok_bind h
  refine go_cS (pc := 4) (As := [.int (V a1 2)]) (st := []) (E_X5_isKind e2) rfl oX5_isKind iX5_isKind kX3_37 rfl (Nat.le_of_ble_eq_true rfl) ⟨Nat.le_of_ble_eq_true rfl, Nat.le_of_ble_eq_true rfl⟩ ⟨rfl, rfl⟩ dX3_tellChanges_4 (st2 := [.int r1]) rfl ?_
  refine go_if_eq (pc := 7) (tgt := 34) dX3_tellChanges_7 rfl (fun c3 => ?_) (fun c3 => ?_)
  · replace h := ifp h c3
    refine go_bipush (pc := 34) (v := (-6)) dX3_tellChanges_34 cb_m6 ?_
    cases h
    exact go_iret (pc := 36) (Or.inl rfl) ⟨Nat.zero_le _, Nat.zero_le _⟩ dX3_tellChanges_36
  · replace h := ifn h c3
    refine go_aload_n (pc := 10) dX3_tellChanges_10 rfl rfl ?_
    refine go_gI (pc := 11) (v := V a1 11) fX3_46 (by decide) (C_T ha1) dX3_tellChanges_11 rfl ?_
    refine go_iload_n (pc := 14) dX3_tellChanges_14 rfl rfl ?_
    refine go_icmp_gt (pc := 15) (tgt := 34) dX3_tellChanges_15 rfl (fun c4 => ?_) (fun c4 => ?_)
    · replace h := ifp h c4
      refine go_bipush (pc := 34) (v := (-6)) dX3_tellChanges_34 cb_m6 ?_
      cases h
      exact go_iret (pc := 36) (Or.inl rfl) ⟨Nat.zero_le _, Nat.zero_le _⟩ dX3_tellChanges_36
    · replace h := ifn h c4
      refine go_aload_n (pc := 18) dX3_tellChanges_18 rfl rfl ?_
      refine go_getP (pc := 19) (a := 82) fX3_16 (by decide) (show TC 76 = (3 + 5, 5) from rfl) rfl dX3_tellChanges_19 ?_
      refine go_aload_n (pc := 22) dX3_tellChanges_22 rfl rfl ?_
      refine go_gI (pc := 23) (v := V a1 2) fX3_41 (by decide) (C_T ha1) dX3_tellChanges_23 rfl ?_
      obtain ⟨c5, h⟩ := ok_not h
      refine go_ia (pc := 26) (v := V 82 ((V a1 2).toNatClampNeg)) (show TC 82 = (0, 3) from rfl) (vin c5) dX3_tellChanges_26 rfl ?_
      refine go_aload_n (pc := 27) dX3_tellChanges_27 rfl rfl ?_
      refine go_gI (pc := 28) (v := V a1 11) fX3_46 (by decide) (C_T ha1) dX3_tellChanges_28 rfl ?_
      refine go_icmp_le (pc := 31) (tgt := 37) dX3_tellChanges_31 rfl (fun c6 => ?_) (fun c6 => ?_)
      · replace h := ifp h c6
        refine go_aload_n (pc := 37) dX3_tellChanges_37 rfl rfl ?_
        refine go_gI (pc := 38) (v := V a1 11) fX3_46 (by decide) (C_T ha1) dX3_tellChanges_38 rfl ?_
        refine go_istore (pc := 41) (i := 4) dX3_tellChanges_41 (Nat.le_of_ble_eq_true rfl) (L2 := [some (.ref 76), some (.ref a1), some (.int a2), some (.ref a3), some (.int (V a1 11)), none]) rfl ?_
        refine go_aload_n (pc := 43) dX3_tellChanges_43 rfl rfl ?_
        refine go_gI (pc := 44) (v := V a1 11) fX3_46 (by decide) (C_T ha1) dX3_tellChanges_44 rfl ?_
        refine go_iload_n (pc := 47) dX3_tellChanges_47 rfl rfl ?_
        refine go_icmp_ge (pc := 48) (tgt := 79) dX3_tellChanges_48 rfl (fun c7 => ?_) (fun c7 => ?_)
        · replace h := ifp h c7
          refine go_aload_n (pc := 79) dX3_tellChanges_79 rfl rfl ?_
          obtain ⟨r8, e9, h⟩ := ok_bind h
          refine go_cV (pc := 80) (ci := 3) (As := []) (st := []) (E_X3_forget e9) rfl oX3_forget iX3_forget sX3_forget kX3_56 rfl (show TC 76 = (3 + 5, 5) from rfl) rfl (Nat.le_of_ble_eq_true rfl) ⟨Nat.le_of_ble_eq_true rfl, Nat.le_of_ble_eq_true rfl⟩ ⟨rfl, rfl⟩ dX3_tellChanges_80 (st2 := []) rfl ?_
          refine go_iconst (pc := 83) (v := 0) dX3_tellChanges_83 ci_0 ?_
          refine go_istore (pc := 84) (i := 5) dX3_tellChanges_84 (Nat.le_of_ble_eq_true rfl) (L2 := [some (.ref 76), some (.ref a1), some (.int a2), some (.ref a3), some (.int (V a1 11)), some (.int 0)]) rfl ?_
          refine go_le (lle_s (lle_s (lle_n (lle_s (lle_s (lle_s lle_0)))))) ?_
          exact gX3_tellChanges_b86 _ _ _ _ _ _ _ ha1 ha3 h
        · replace h := ifn h c7
          refine go_aload_n (pc := 51) dX3_tellChanges_51 rfl rfl ?_
          refine go_aload_n (pc := 52) dX3_tellChanges_52 rfl rfl ?_
          refine go_gI (pc := 53) (v := V a1 2) fX3_41 (by decide) (C_T ha1) dX3_tellChanges_53 rfl ?_
          refine go_aload_n (pc := 56) dX3_tellChanges_56 rfl rfl ?_
          refine go_gI (pc := 57) (v := V a1 11) fX3_46 (by decide) (C_T ha1) dX3_tellChanges_57 rfl ?_
          refine go_aload_n (pc := 60) dX3_tellChanges_60 rfl rfl ?_
          refine go_gI (pc := 61) (v := V a1 10) fX3_49 (by decide) (C_T ha1) dX3_tellChanges_61 rfl ?_
          obtain ⟨r31, e32, h⟩ := ok_bind h
          refine go_cV (pc := 64) (ci := 3) (As := [.int (V a1 2), .int (V a1 11), .int (V a1 10)]) (st := []) (E_X3_lastTellable e32) rfl oX3_lastTellable iX3_lastTellable sX3_lastTellable kX3_52 rfl (show TC 76 = (3 + 5, 5) from rfl) rfl (Nat.le_of_ble_eq_true rfl) ⟨Nat.le_of_ble_eq_true rfl, Nat.le_of_ble_eq_true rfl⟩ ⟨rfl, rfl⟩ dX3_tellChanges_64 (st2 := [.int r31.1]) rfl ?_
          refine go_istore (pc := 67) (i := 4) dX3_tellChanges_67 (Nat.le_of_ble_eq_true rfl) (L2 := [some (.ref 76), some (.ref a1), some (.int a2), some (.ref a3), some (.int r31.1), none]) rfl ?_
          refine go_iload (pc := 69) dX3_tellChanges_69 rfl ?_
          refine go_bipush (pc := 71) (v := (-9)) dX3_tellChanges_71 cb_m9 ?_
          refine go_icmp_ne (pc := 73) (tgt := 79) dX3_tellChanges_73 rfl (fun c33 => ?_) (fun c33 => ?_)
          · replace h := ifn h c33
            refine go_aload_n (pc := 79) dX3_tellChanges_79 rfl rfl ?_
            obtain ⟨r34, e35, h⟩ := ok_bind h
            refine go_cV (pc := 80) (ci := 3) (As := []) (st := []) (E_X3_forget e35) rfl oX3_forget iX3_forget sX3_forget kX3_56 rfl (show TC 76 = (3 + 5, 5) from rfl) rfl (Nat.le_of_ble_eq_true rfl) ⟨Nat.le_of_ble_eq_true rfl, Nat.le_of_ble_eq_true rfl⟩ ⟨rfl, rfl⟩ dX3_tellChanges_80 (st2 := []) rfl ?_
            refine go_iconst (pc := 83) (v := 0) dX3_tellChanges_83 ci_0 ?_
            refine go_istore (pc := 84) (i := 5) dX3_tellChanges_84 (Nat.le_of_ble_eq_true rfl) (L2 := [some (.ref 76), some (.ref a1), some (.int a2), some (.ref a3), some (.int r31.1), some (.int 0)]) rfl ?_
            refine go_le (lle_s (lle_s (lle_n (lle_s (lle_s (lle_s lle_0)))))) ?_
            exact gX3_tellChanges_b86 _ _ _ _ _ _ _ ha1 ha3 h
          · replace h := ifp h c33
            refine go_bipush (pc := 76) (v := (-6)) dX3_tellChanges_76 cb_m6 ?_
            cases h
            exact go_iret (pc := 78) (Or.inl rfl) ⟨Nat.zero_le _, Nat.zero_le _⟩ dX3_tellChanges_78
      · replace h := ifn h c6
        refine go_bipush (pc := 34) (v := (-6)) dX3_tellChanges_34 cb_m6 ?_
        cases h
        exact go_iret (pc := 36) (Or.inl rfl) ⟨Nat.zero_le _, Nat.zero_le _⟩ dX3_tellChanges_36
def eX4_clear_b2 : Nat → Nat → Int32 → Mm → Option (Mm)
  | 0, _, _, _ => none
  | n + 1, l0, l1, V => 
    if 4 ≤ l1 then
      some V
    else
      if l1 < 0 ∨ 4 ≤ l1.toNatClampNeg then none else
      eX4_clear_b2 n l0 (l1 + 1) (wr V (l0 + 6) l1.toNatClampNeg 0)
set_option maxHeartbeats 4000000 in
set_option maxRecDepth 100000 in
theorem gX4_clear_b2 : ∀ (n : Nat) (l0 : Nat) (l1 : Int32) (V : Mm) (res : Mm) (hl0 : isOut l0), eX4_clear_b2 n l0 l1 V = some res → Go mX4_clear 2 [some (.ref l0), some (.int l1)] [] (hC V) 0 0 none (hC res) := by
  intro n
  induction n with
  | zero =>
    intro l0 l1 V res hl0 h
    cases h
  | succ n ih =>
    intro l0 l1 V res hl0 h
    rw [eX4_clear_b2] at h
    refine go_iload_n (pc := 2) dX4_clear_2 rfl rfl ?_
    refine go_iconst (pc := 3) (v := 4) dX4_clear_3 ci_4 ?_
    refine go_icmp_ge (pc := 4) (tgt := 20) dX4_clear_4 rfl (fun c1 => ?_) (fun c1 => ?_)
    · replace h := ifp h c1
      cases h
      exact go_vret (pc := 20) rfl ⟨Nat.zero_le _, Nat.zero_le _⟩ dX4_clear_20
    · replace h := ifn h c1
      refine go_aload_n (pc := 7) dX4_clear_7 rfl rfl ?_
      refine go_getP (pc := 8) (a := (l0 + 6)) fX4_16 (by decide) (O_T hl0) (O_1 hl0) dX4_clear_8 ?_
      refine go_iload_n (pc := 11) dX4_clear_11 rfl rfl ?_
      refine go_iconst (pc := 12) (v := 0) dX4_clear_12 ci_0 ?_
      obtain ⟨c2, h⟩ := ok_not h
      refine go_iast (pc := 13) (O_T1 hl0) (vin c2) dX4_clear_13 ?_
      refine go_iinc (pc := 14) (v := (l1 + 1)) dX4_clear_14 rfl (by rw [ci_1]) (Nat.le_of_ble_eq_true rfl) (L2 := [some (.ref l0), some (.int (l1 + 1))]) rfl ?_
      refine go_goto (pc := 17) (tgt := 2) dX4_clear_17 rfl ?_
      exact ih _ _ _ _ hl0 h
def eX4_clear (o : Nat) (V : Mm) : Option (Mm) :=
  eX4_clear_b2 fu o 0 V
set_option maxHeartbeats 4000000 in
set_option maxRecDepth 100000 in
theorem E_X4_clear {o : Nat} {V : Mm} {res : Mm} (ho : isOut o) (h : eX4_clear o V = some res) : Ev mX4_clear [.ref o] (hC V) none (hC res) := by
  refine Ev.of (n := 1) oX4_clear.1 (Nat.le_of_ble_eq_true rfl) ?_
  unfold eX4_clear at h
  show Go mX4_clear 0 [some (.ref o), none] [] (hC V) 0 0 none (hC res)
  refine go_iconst (pc := 0) (v := 0) dX4_clear_0 ci_0 ?_
  refine go_istore_n (pc := 1) (i := 1) dX4_clear_1 rfl (Nat.le_of_ble_eq_true rfl) (L2 := [some (.ref o), some (.int 0)]) rfl ?_
  exact gX4_clear_b2 _ _ _ _ _ ho h
def eX4_count (o : Nat) (a1 : Int32) (V : Mm) : Option (Int32) :=
  if a1 < 0 then
    some (-1)
  else
    if 4 ≤ a1 then
      some (-1)
    else
      if a1 < 0 ∨ 4 ≤ a1.toNatClampNeg then none else
      some (V (o + 6) a1.toNatClampNeg)
set_option maxHeartbeats 4000000 in
set_option maxRecDepth 100000 in
theorem E_X4_count {o : Nat} {a1 : Int32} {V : Mm} {res : Int32} (ho : isOut o) (h : eX4_count o a1 V = some res) : Ev mX4_count [.ref o, .int a1] (hC V) (some (.int res)) (hC V) := by
  refine Ev.of (n := 0) oX4_count.1 (Nat.le_of_ble_eq_true rfl) ?_
  unfold eX4_count at h
  show Go mX4_count 0 [some (.ref o), some (.int a1)] [] (hC V) 0 0 (some (.int res)) (hC V)
  refine go_iload_n (pc := 0) dX4_count_0 rfl rfl ?_
  refine go_if_lt (pc := 1) (tgt := 18) dX4_count_1 rfl (fun c1 => ?_) (fun c1 => ?_)
  · replace h := ifp h c1
    refine go_iconst (pc := 18) (v := (-1)) dX4_count_18 ci_m1 ?_
    cases h
    exact go_iret (pc := 19) (Or.inl rfl) ⟨Nat.zero_le _, Nat.zero_le _⟩ dX4_count_19
  · replace h := ifn h c1
    refine go_iload_n (pc := 4) dX4_count_4 rfl rfl ?_
    refine go_iconst (pc := 5) (v := 4) dX4_count_5 ci_4 ?_
    refine go_icmp_ge (pc := 6) (tgt := 18) dX4_count_6 rfl (fun c2 => ?_) (fun c2 => ?_)
    · replace h := ifp h c2
      refine go_iconst (pc := 18) (v := (-1)) dX4_count_18 ci_m1 ?_
      cases h
      exact go_iret (pc := 19) (Or.inl rfl) ⟨Nat.zero_le _, Nat.zero_le _⟩ dX4_count_19
    · replace h := ifn h c2
      refine go_aload_n (pc := 9) dX4_count_9 rfl rfl ?_
      refine go_getP (pc := 10) (a := (o + 6)) fX4_16 (by decide) (O_T ho) (O_1 ho) dX4_count_10 ?_
      refine go_iload_n (pc := 13) dX4_count_13 rfl rfl ?_
      obtain ⟨c3, h⟩ := ok_not h
      refine go_ia (pc := 14) (v := V (o + 6) a1.toNatClampNeg) (O_T1 ho) (vin c3) dX4_count_14 rfl ?_
      refine go_goto (pc := 15) (tgt := 19) dX4_count_15 rfl ?_
      cases h
      exact go_iret (pc := 19) (Or.inl rfl) ⟨Nat.zero_le _, Nat.zero_le _⟩ dX4_count_19
def eX4_at (o : Nat) (a1 : Int32) (a2 : Int32) (V : Mm) : Option (Int32) :=
  if a2 < 0 then
    some (-1)
  else
    (eX4_count o a1 V).bind fun r2 =>
    if r2 ≤ a2 then
      some (-1)
    else
      if a1 < 0 ∨ 4 ≤ a1.toNatClampNeg then none else
      if a2 < 0 ∨ 50 ≤ a2.toNatClampNeg then none else
      some (V ((o + 2) + a1.toNatClampNeg) a2.toNatClampNeg)
set_option maxHeartbeats 4000000 in
set_option maxRecDepth 100000 in
theorem E_X4_at {o : Nat} {a1 : Int32} {a2 : Int32} {V : Mm} {res : Int32} (ho : isOut o) (h : eX4_at o a1 a2 V = some res) : Ev mX4_at [.ref o, .int a1, .int a2] (hC V) (some (.int res)) (hC V) := by
  refine Ev.of (n := 0) oX4_at.1 (Nat.le_of_ble_eq_true rfl) ?_
  unfold eX4_at at h
  show Go mX4_at 0 [some (.ref o), some (.int a1), some (.int a2)] [] (hC V) 0 0 (some (.int res)) (hC V)
  refine go_iload_n (pc := 0) dX4_at_0 rfl rfl ?_
  refine go_if_lt (pc := 1) (tgt := 24) dX4_at_1 rfl (fun c1 => ?_) (fun c1 => ?_)
  · replace h := ifp h c1
    refine go_iconst (pc := 24) (v := (-1)) dX4_at_24 ci_m1 ?_
    cases h
    exact go_iret (pc := 25) (Or.inl rfl) ⟨Nat.zero_le _, Nat.zero_le _⟩ dX4_at_25
  · replace h := ifn h c1
    refine go_iload_n (pc := 4) dX4_at_4 rfl rfl ?_
    refine go_aload_n (pc := 5) dX4_at_5 rfl rfl ?_
    refine go_iload_n (pc := 6) dX4_at_6 rfl rfl ?_
    obtain ⟨r2, e3, h⟩ := ok_bind h
    refine go_cV (pc := 7) (ci := 4) (As := [.int a1]) (st := [.int a2]) (E_X4_count ho e3) rfl oX4_count iX4_count sX4_count kX4_20 rfl (O_T ho) rfl (Nat.le_of_ble_eq_true rfl) ⟨Nat.le_of_ble_eq_true rfl, Nat.le_of_ble_eq_true rfl⟩ ⟨rfl, rfl⟩ dX4_at_7 (st2 := [.int r2, .int a2]) rfl ?_
    refine go_icmp_ge (pc := 10) (tgt := 24) dX4_at_10 rfl (fun c4 => ?_) (fun c4 => ?_)
    · replace h := ifp h c4
      refine go_iconst (pc := 24) (v := (-1)) dX4_at_24 ci_m1 ?_
      cases h
      exact go_iret (pc := 25) (Or.inl rfl) ⟨Nat.zero_le _, Nat.zero_le _⟩ dX4_at_25
    · replace h := ifn h c4
      refine go_aload_n (pc := 13) dX4_at_13 rfl rfl ?_
      refine go_getP (pc := 14) (a := (o + 1)) fX4_11 (by decide) (O_T ho) (O_0 ho) dX4_at_14 ?_
      refine go_iload_n (pc := 17) dX4_at_17 rfl rfl ?_
      obtain ⟨c5, h⟩ := ok_not h
      refine go_aald2 (pc := 18) (a := ((o + 2) + a1.toNatClampNeg)) (O_T0 ho) (vin c5) (O_r ho (vlt c5)) dX4_at_18 ?_
      refine go_iload_n (pc := 19) dX4_at_19 rfl rfl ?_
      obtain ⟨c6, h⟩ := ok_not h
      refine go_ia (pc := 20) (v := V ((o + 2) + a1.toNatClampNeg) a2.toNatClampNeg) (O_Tr ho (vlt c5)) (vin c6) dX4_at_20 rfl ?_
      refine go_goto (pc := 21) (tgt := 25) dX4_at_21 rfl ?_
      cases h
      exact go_iret (pc := 25) (Or.inl rfl) ⟨Nat.zero_le _, Nat.zero_le _⟩ dX4_at_25
def eX5_draft (a1 : Int32) (a2 : Int32) (V : Mm) : Option (Int32 × Mm) :=
  if a1 < 0 then
    some ((-1), V)
  else
    if a1 < 10 then
      if a1 < 0 ∨ 10 ≤ a1.toNatClampNeg then none else
      if a1 < 0 ∨ 10 ≤ a1.toNatClampNeg then none else
      some (V 1 a1.toNatClampNeg, (wr V 1 a1.toNatClampNeg a2))
    else
      some ((-1), V)
set_option maxHeartbeats 4000000 in
set_option maxRecDepth 100000 in
theorem E_X5_draft {a1 : Int32} {a2 : Int32} {V : Mm} {res : Int32 × Mm}  (h : eX5_draft a1 a2 V = some res) : Ev mX5_draft [.ref 0, .int a1, .int a2] (hC V) (some (.int res.1)) (hC res.2) := by
  refine Ev.of (n := 1) oX5_draft.1 (Nat.le_of_ble_eq_true rfl) ?_
  unfold eX5_draft at h
  show Go mX5_draft 0 [some (.ref 0), some (.int a1), some (.int a2), none] [] (hC V) 0 0 (some (.int res.1)) (hC res.2)
  refine go_iload_n (pc := 0) dX5_draft_0 rfl rfl ?_
  refine go_if_lt (pc := 1) (tgt := 10) dX5_draft_1 rfl (fun c1 => ?_) (fun c1 => ?_)
  · replace h := ifp h c1
    refine go_iconst (pc := 10) (v := (-1)) dX5_draft_10 ci_m1 ?_
    cases h
    exact go_iret (pc := 11) (Or.inl rfl) ⟨Nat.zero_le _, Nat.zero_le _⟩ dX5_draft_11
  · replace h := ifn h c1
    refine go_iload_n (pc := 4) dX5_draft_4 rfl rfl ?_
    refine go_bipush (pc := 5) (v := 10) dX5_draft_5 cb_10 ?_
    refine go_icmp_lt (pc := 7) (tgt := 12) dX5_draft_7 rfl (fun c2 => ?_) (fun c2 => ?_)
    · replace h := ifp h c2
      refine go_aload_n (pc := 12) dX5_draft_12 rfl rfl ?_
      refine go_getP (pc := 13) (a := 1) fX5_9 (by decide) (show TC 0 = (5 + 5, 13) from rfl) rfl dX5_draft_13 ?_
      refine go_iload_n (pc := 16) dX5_draft_16 rfl rfl ?_
      obtain ⟨c3, h⟩ := ok_not h
      refine go_ia (pc := 17) (v := V 1 a1.toNatClampNeg) (show TC 1 = (0, 10) from rfl) (vin c3) dX5_draft_17 rfl ?_
      refine go_istore_n (pc := 18) (i := 3) dX5_draft_18 rfl (Nat.le_of_ble_eq_true rfl) (L2 := [some (.ref 0), some (.int a1), some (.int a2), some (.int (V 1 a1.toNatClampNeg))]) rfl ?_
      refine go_aload_n (pc := 19) dX5_draft_19 rfl rfl ?_
      refine go_getP (pc := 20) (a := 1) fX5_9 (by decide) (show TC 0 = (5 + 5, 13) from rfl) rfl dX5_draft_20 ?_
      refine go_iload_n (pc := 23) dX5_draft_23 rfl rfl ?_
      refine go_iload_n (pc := 24) dX5_draft_24 rfl rfl ?_
      obtain ⟨c4, h⟩ := ok_not h
      refine go_iast (pc := 25) (show TC 1 = (0, 10) from rfl) (vin c4) dX5_draft_25 ?_
      refine go_iload_n (pc := 26) dX5_draft_26 rfl rfl ?_
      cases h
      exact go_iret (pc := 27) (Or.inl rfl) ⟨Nat.zero_le _, Nat.zero_le _⟩ dX5_draft_27
    · replace h := ifn h c2
      refine go_iconst (pc := 10) (v := (-1)) dX5_draft_10 ci_m1 ?_
      cases h
      exact go_iret (pc := 11) (Or.inl rfl) ⟨Nat.zero_le _, Nat.zero_le _⟩ dX5_draft_11
def eX5_putOfIds (a1 : Int32) (a2 : Int32) (a3 : Int32) (a4 : Int32) (a5 : Int32) (a6 : Int32) (V : Mm) : Option (Int32 × Mm) :=
  if (V 0 10) < 12 then
    if V 0 10 < 0 ∨ 12 ≤ (V 0 10).toNatClampNeg then none else
    (eX0_begin (89 + 9 * (V 0 10).toNatClampNeg) a1 a2 V).bind fun r3 =>
    some ((wr (wr (wr (wr r3 (89 + 9 * (V 0 10).toNatClampNeg) 3 a3) (89 + 9 * (V 0 10).toNatClampNeg) 4 a4) (89 + 9 * (V 0 10).toNatClampNeg) 5 a5) (89 + 9 * (V 0 10).toNatClampNeg) 6 a6) 0 10, (wr (wr (wr (wr (wr r3 (89 + 9 * (V 0 10).toNatClampNeg) 3 a3) (89 + 9 * (V 0 10).toNatClampNeg) 4 a4) (89 + 9 * (V 0 10).toNatClampNeg) 5 a5) (89 + 9 * (V 0 10).toNatClampNeg) 6 a6) 0 10 (((wr (wr (wr (wr r3 (89 + 9 * (V 0 10).toNatClampNeg) 3 a3) (89 + 9 * (V 0 10).toNatClampNeg) 4 a4) (89 + 9 * (V 0 10).toNatClampNeg) 5 a5) (89 + 9 * (V 0 10).toNatClampNeg) 6 a6) 0 10) + 1)))
  else
    some ((-4), V)
set_option maxHeartbeats 4000000 in
set_option maxRecDepth 100000 in
theorem E_X5_putOfIds {a1 : Int32} {a2 : Int32} {a3 : Int32} {a4 : Int32} {a5 : Int32} {a6 : Int32} {V : Mm} {res : Int32 × Mm}  (h : eX5_putOfIds a1 a2 a3 a4 a5 a6 V = some res) : Ev mX5_putOfIds [.ref 0, .int a1, .int a2, .int a3, .int a4, .int a5, .int a6] (hC V) (some (.int res.1)) (hC res.2) := by
  refine Ev.of (n := 1) oX5_putOfIds.1 (Nat.le_of_ble_eq_true rfl) ?_
  unfold eX5_putOfIds at h
  show Go mX5_putOfIds 0 [some (.ref 0), some (.int a1), some (.int a2), some (.int a3), some (.int a4), some (.int a5), some (.int a6), none] [] (hC V) 0 0 (some (.int res.1)) (hC res.2)
  refine go_aload_n (pc := 0) dX5_putOfIds_0 rfl rfl ?_
  refine go_gI (pc := 1) (v := V 0 10) fX5_63 (by decide) (show TC 0 = (5 + 5, 13) from rfl) dX5_putOfIds_1 rfl ?_
  refine go_bipush (pc := 4) (v := 12) dX5_putOfIds_4 cb_12 ?_
  refine go_icmp_lt (pc := 6) (tgt := 12) dX5_putOfIds_6 rfl (fun c1 => ?_) (fun c1 => ?_)
  · replace h := ifp h c1
    refine go_aload_n (pc := 12) dX5_putOfIds_12 rfl rfl ?_
    refine go_getP (pc := 13) (a := 2) fX5_15 (by decide) (show TC 0 = (5 + 5, 13) from rfl) rfl dX5_putOfIds_13 ?_
    refine go_aload_n (pc := 16) dX5_putOfIds_16 rfl rfl ?_
    refine go_gI (pc := 17) (v := V 0 10) fX5_63 (by decide) (show TC 0 = (5 + 5, 13) from rfl) dX5_putOfIds_17 rfl ?_
    obtain ⟨c2, h⟩ := ok_not h
    refine go_aald (pc := 20) (t := 3) (a := (89 + 9 * (V 0 10).toNatClampNeg)) (by decide) (show TC 2 = (3, 12) from rfl) (vin c2) (C_P (vlt c2)) dX5_putOfIds_20 ?_
    refine go_astore (pc := 21) (i := 7) dX5_putOfIds_21 (Nat.le_of_ble_eq_true rfl) (L2 := [some (.ref 0), some (.int a1), some (.int a2), some (.int a3), some (.int a4), some (.int a5), some (.int a6), some (.ref (89 + 9 * (V 0 10).toNatClampNeg))]) rfl ?_
    refine go_aload (pc := 23) dX5_putOfIds_23 rfl ?_
    refine go_iload_n (pc := 25) dX5_putOfIds_25 rfl rfl ?_
    refine go_iload_n (pc := 26) dX5_putOfIds_26 rfl rfl ?_
    obtain ⟨r3, e4, h⟩ := ok_bind h
    refine go_cV (pc := 27) (ci := 0) (As := [.int a1, .int a2]) (st := []) (E_X0_begin (isCall_of (vlt c2)) e4) rfl oX0_begin iX0_begin sX0_begin kX5_67 rfl (C_T (isCall_of (vlt c2))) rfl (Nat.le_of_ble_eq_true rfl) ⟨Nat.le_of_ble_eq_true rfl, Nat.le_of_ble_eq_true rfl⟩ ⟨rfl, rfl⟩ dX5_putOfIds_27 (st2 := []) rfl ?_
    refine go_aload (pc := 30) dX5_putOfIds_30 rfl ?_
    refine go_iload_n (pc := 32) dX5_putOfIds_32 rfl rfl ?_
    refine go_putI (pc := 33) (k := 3) fX5_185 (Or.inl rfl) (Or.inl rfl) (C_T (isCall_of (vlt c2))) dX5_putOfIds_33 ?_
    refine go_aload (pc := 36) dX5_putOfIds_36 rfl ?_
    refine go_iload (pc := 38) dX5_putOfIds_38 rfl ?_
    refine go_putI (pc := 40) (k := 4) fX5_188 (Or.inl rfl) (Or.inl rfl) (C_T (isCall_of (vlt c2))) dX5_putOfIds_40 ?_
    refine go_aload (pc := 43) dX5_putOfIds_43 rfl ?_
    refine go_iload (pc := 45) dX5_putOfIds_45 rfl ?_
    refine go_putI (pc := 47) (k := 5) fX5_191 (Or.inl rfl) (Or.inl rfl) (C_T (isCall_of (vlt c2))) dX5_putOfIds_47 ?_
    refine go_aload (pc := 50) dX5_putOfIds_50 rfl ?_
    refine go_iload (pc := 52) dX5_putOfIds_52 rfl ?_
    refine go_putI (pc := 54) (k := 6) fX5_86 (Or.inl rfl) (Or.inl rfl) (C_T (isCall_of (vlt c2))) dX5_putOfIds_54 ?_
    refine go_aload_n (pc := 57) dX5_putOfIds_57 rfl rfl ?_
    refine go_dup (pc := 58) dX5_putOfIds_58 ?_
    refine go_gI (pc := 59) (v := (wr (wr (wr (wr r3 (89 + 9 * (V 0 10).toNatClampNeg) 3 a3) (89 + 9 * (V 0 10).toNatClampNeg) 4 a4) (89 + 9 * (V 0 10).toNatClampNeg) 5 a5) (89 + 9 * (V 0 10).toNatClampNeg) 6 a6) 0 10) fX5_63 (by decide) (show TC 0 = (5 + 5, 13) from rfl) dX5_putOfIds_59 rfl ?_
    refine go_dup_x1 (pc := 62) dX5_putOfIds_62 ?_
    refine go_iconst (pc := 63) (v := 1) dX5_putOfIds_63 ci_1 ?_
    refine go_iadd (pc := 64) dX5_putOfIds_64 ?_
    refine go_putI (pc := 65) (k := 10) fX5_63 (Or.inl rfl) (Or.inl rfl) (show TC 0 = (5 + 5, 13) from rfl) dX5_putOfIds_65 ?_
    cases h
    exact go_iret (pc := 68) (Or.inl rfl) ⟨Nat.zero_le _, Nat.zero_le _⟩ dX5_putOfIds_68
  · replace h := ifn h c1
    refine go_bipush (pc := 9) (v := (-4)) dX5_putOfIds_9 cb_m4 ?_
    cases h
    exact go_iret (pc := 11) (Or.inl rfl) ⟨Nat.zero_le _, Nat.zero_le _⟩ dX5_putOfIds_11
