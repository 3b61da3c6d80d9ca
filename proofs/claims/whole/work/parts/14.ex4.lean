def eX5_thread (a1 : Int32) (a2 : Int32) (V : Mm) : Option (Int32) :=
  (eX2_isThere 52 a1 V).bind fun r1 =>
  if r1 = 0 then
    some (-1)
  else
    if a2 = (-1) then
      (eX2_value 52 a1 0 V).bind fun r7 =>
      some r7
    else
      (eX2_idWith 28 7 a1 a2 V).bind fun r5 =>
      some r5
set_option maxHeartbeats 4000000 in
set_option maxRecDepth 100000 in
theorem E_X5_thread {a1 : Int32} {a2 : Int32} {V : Mm} {res : Int32}  (h : eX5_thread a1 a2 V = some res) : Ev mX5_thread [.ref 0, .int a1, .int a2] (hC V) (some (.int res)) (hC V) := by
  refine Ev.of (n := 0) oX5_thread.1 (Nat.le_of_ble_eq_true rfl) ?_
  unfold eX5_thread at h
  show Go mX5_thread 0 [some (.ref 0), some (.int a1), some (.int a2)] [] (hC V) 0 0 (some (.int res)) (hC V)
  refine go_aload_n (pc := 0) dX5_thread_0 rfl rfl ?_
  refine go_getP (pc := 1) (a := 52) fX5_37 (by decide) (show TC 0 = (5 + 5, 13) from rfl) rfl dX5_thread_1 ?_
  refine go_iload_n (pc := 4) dX5_thread_4 rfl rfl ?_
  obtain ⟨r1, e2, h⟩ := ok_bind h
  refine go_cV (pc := 5) (ci := 2) (As := [.int a1]) (st := []) (E_X2_isThere isK_52 e2) rfl oX2_isThere iX2_isThere sX2_isThere kX5_149 rfl (K_T isK_52) rfl (Nat.le_of_ble_eq_true rfl) ⟨Nat.le_of_ble_eq_true rfl, Nat.le_of_ble_eq_true rfl⟩ ⟨rfl, rfl⟩ dX5_thread_5 (st2 := [.int r1]) rfl ?_
  refine go_if_ne (pc := 8) (tgt := 13) dX5_thread_8 rfl (fun c3 => ?_) (fun c3 => ?_)
  · replace h := ifn h c3
    refine go_iload_n (pc := 13) dX5_thread_13 rfl rfl ?_
    refine go_iconst (pc := 14) (v := (-1)) dX5_thread_14 ci_m1 ?_
    refine go_icmp_ne (pc := 15) (tgt := 28) dX5_thread_15 rfl (fun c4 => ?_) (fun c4 => ?_)
    · replace h := ifn h c4
      refine go_aload_n (pc := 28) dX5_thread_28 rfl rfl ?_
      refine go_getP (pc := 29) (a := 28) fX5_34 (by decide) (show TC 0 = (5 + 5, 13) from rfl) rfl dX5_thread_29 ?_
      refine go_bipush (pc := 32) (v := 7) dX5_thread_32 cb_7 ?_
      refine go_iload_n (pc := 34) dX5_thread_34 rfl rfl ?_
      refine go_iload_n (pc := 35) dX5_thread_35 rfl rfl ?_
      obtain ⟨r5, e6, h⟩ := ok_bind h
      refine go_cV (pc := 36) (ci := 2) (As := [.int 7, .int a1, .int a2]) (st := []) (E_X2_idWith isK_28 e6) rfl oX2_idWith iX2_idWith sX2_idWith kX5_173 rfl (K_T isK_28) rfl (Nat.le_of_ble_eq_true rfl) ⟨Nat.le_of_ble_eq_true rfl, Nat.le_of_ble_eq_true rfl⟩ ⟨rfl, rfl⟩ dX5_thread_36 (st2 := [.int r5]) rfl ?_
      cases h
      exact go_iret (pc := 39) (Or.inl rfl) ⟨Nat.zero_le _, Nat.zero_le _⟩ dX5_thread_39
    · replace h := ifp h c4
      refine go_aload_n (pc := 18) dX5_thread_18 rfl rfl ?_
      refine go_getP (pc := 19) (a := 52) fX5_37 (by decide) (show TC 0 = (5 + 5, 13) from rfl) rfl dX5_thread_19 ?_
      refine go_iload_n (pc := 22) dX5_thread_22 rfl rfl ?_
      refine go_iconst (pc := 23) (v := 0) dX5_thread_23 ci_0 ?_
      obtain ⟨r7, e8, h⟩ := ok_bind h
      refine go_cV (pc := 24) (ci := 2) (As := [.int a1, .int 0]) (st := []) (E_X2_value isK_52 e8) rfl oX2_value iX2_value sX2_value kX5_152 rfl (K_T isK_52) rfl (Nat.le_of_ble_eq_true rfl) ⟨Nat.le_of_ble_eq_true rfl, Nat.le_of_ble_eq_true rfl⟩ ⟨rfl, rfl⟩ dX5_thread_24 (st2 := [.int r7]) rfl ?_
      cases h
      exact go_iret (pc := 27) (Or.inl rfl) ⟨Nat.zero_le _, Nat.zero_le _⟩ dX5_thread_27
  · replace h := ifp h c3
    refine go_iconst (pc := 11) (v := (-1)) dX5_thread_11 ci_m1 ?_
    cases h
    exact go_iret (pc := 12) (Or.inl rfl) ⟨Nat.zero_le _, Nat.zero_le _⟩ dX5_thread_12
def eX5_entry (a1 : Int32) (a2 : Int32) (V : Mm) : Option (Int32) :=
  if a1 < 0 then
    some (-1)
  else
    if a1 < (V 76 4) then
      if a2 < 0 then
        some (-2)
      else
        if a2 < 4 then
          (eX3_at a1 a2 V).bind fun r5 =>
          some r5
        else
          some (-2)
    else
      some (-1)
set_option maxHeartbeats 4000000 in
set_option maxRecDepth 100000 in
theorem E_X5_entry {a1 : Int32} {a2 : Int32} {V : Mm} {res : Int32}  (h : eX5_entry a1 a2 V = some res) : Ev mX5_entry [.ref 0, .int a1, .int a2] (hC V) (some (.int res)) (hC V) := by
  refine Ev.of (n := 0) oX5_entry.1 (Nat.le_of_ble_eq_true rfl) ?_
  unfold eX5_entry at h
  show Go mX5_entry 0 [some (.ref 0), some (.int a1), some (.int a2)] [] (hC V) 0 0 (some (.int res)) (hC V)
  refine go_iload_n (pc := 0) dX5_entry_0 rfl rfl ?_
  refine go_if_lt (pc := 1) (tgt := 15) dX5_entry_1 rfl (fun c1 => ?_) (fun c1 => ?_)
  · replace h := ifp h c1
    refine go_iconst (pc := 15) (v := (-1)) dX5_entry_15 ci_m1 ?_
    cases h
    exact go_iret (pc := 16) (Or.inl rfl) ⟨Nat.zero_le _, Nat.zero_le _⟩ dX5_entry_16
  · replace h := ifn h c1
    refine go_iload_n (pc := 4) dX5_entry_4 rfl rfl ?_
    refine go_aload_n (pc := 5) dX5_entry_5 rfl rfl ?_
    refine go_getP (pc := 6) (a := 76) fX5_43 (by decide) (show TC 0 = (5 + 5, 13) from rfl) rfl dX5_entry_6 ?_
    refine go_gI (pc := 9) (v := V 76 4) fX5_143 (by decide) (show TC 76 = (3 + 5, 5) from rfl) dX5_entry_9 rfl ?_
    refine go_icmp_lt (pc := 12) (tgt := 17) dX5_entry_12 rfl (fun c2 => ?_) (fun c2 => ?_)
    · replace h := ifp h c2
      refine go_iload_n (pc := 17) dX5_entry_17 rfl rfl ?_
      refine go_if_lt (pc := 18) (tgt := 26) dX5_entry_18 rfl (fun c3 => ?_) (fun c3 => ?_)
      · replace h := ifp h c3
        refine go_bipush (pc := 26) (v := (-2)) dX5_entry_26 cb_m2 ?_
        cases h
        exact go_iret (pc := 28) (Or.inl rfl) ⟨Nat.zero_le _, Nat.zero_le _⟩ dX5_entry_28
      · replace h := ifn h c3
        refine go_iload_n (pc := 21) dX5_entry_21 rfl rfl ?_
        refine go_iconst (pc := 22) (v := 4) dX5_entry_22 ci_4 ?_
        refine go_icmp_lt (pc := 23) (tgt := 29) dX5_entry_23 rfl (fun c4 => ?_) (fun c4 => ?_)
        · replace h := ifp h c4
          refine go_aload_n (pc := 29) dX5_entry_29 rfl rfl ?_
          refine go_getP (pc := 30) (a := 76) fX5_43 (by decide) (show TC 0 = (5 + 5, 13) from rfl) rfl dX5_entry_30 ?_
          refine go_iload_n (pc := 33) dX5_entry_33 rfl rfl ?_
          refine go_iload_n (pc := 34) dX5_entry_34 rfl rfl ?_
          obtain ⟨r5, e6, h⟩ := ok_bind h
          refine go_cV (pc := 35) (ci := 3) (As := [.int a1, .int a2]) (st := []) (E_X3_at e6) rfl oX3_at iX3_at sX3_at kX5_177 rfl (show TC 76 = (3 + 5, 5) from rfl) rfl (Nat.le_of_ble_eq_true rfl) ⟨Nat.le_of_ble_eq_true rfl, Nat.le_of_ble_eq_true rfl⟩ ⟨rfl, rfl⟩ dX5_entry_35 (st2 := [.int r5]) rfl ?_
          cases h
          exact go_iret (pc := 38) (Or.inl rfl) ⟨Nat.zero_le _, Nat.zero_le _⟩ dX5_entry_38
        · replace h := ifn h c4
          refine go_bipush (pc := 26) (v := (-2)) dX5_entry_26 cb_m2 ?_
          cases h
          exact go_iret (pc := 28) (Or.inl rfl) ⟨Nat.zero_le _, Nat.zero_le _⟩ dX5_entry_28
    · replace h := ifn h c2
      refine go_iconst (pc := 15) (v := (-1)) dX5_entry_15 ci_m1 ?_
      cases h
      exact go_iret (pc := 16) (Or.inl rfl) ⟨Nat.zero_le _, Nat.zero_le _⟩ dX5_entry_16
def eX5_filter_b59 (l1 : Int32) (l2 : Int32) (l3 : Int32) (V : Mm) : Option (Int32 × Mm) :=
  if l1 < 0 then
    some ((-2), V)
  else
    if 10 < l1 then
      some ((-2), V)
    else
      if l1 = 5 then
        if l2 < 0 then
          some ((-2), V)
        else
          if l2 ≤ 3 then
            (eX1_add l1 l2 l3 V).bind fun r14 =>
            some (r14.1, r14.2)
          else
            some ((-2), V)
      else
        (eX1_add l1 l2 l3 V).bind fun r10 =>
        some (r10.1, r10.2)
set_option maxHeartbeats 4000000 in
set_option maxRecDepth 100000 in
theorem gX5_filter_b59 {l1 : Int32} {l2 : Int32} {l3 : Int32} {V : Mm} {res : Int32 × Mm}  (h : eX5_filter_b59 l1 l2 l3 V = some res) : Go mX5_filter 59 [some (.ref 0), some (.int l1), some (.int l2), some (.int l3), none] [] (hC V) 0 0 (some (.int res.1)) (hC res.2) := by
  unfold eX5_filter_b59 at h
  refine go_iload_n (pc := 59) dX5_filter_59 rfl rfl ?_
  refine go_if_lt (pc := 60) (tgt := 83) dX5_filter_60 rfl (fun c7 => ?_) (fun c7 => ?_)
  · replace h := ifp h c7
    refine go_bipush (pc := 83) (v := (-2)) dX5_filter_83 cb_m2 ?_
    cases h
    exact go_iret (pc := 85) (Or.inl rfl) ⟨Nat.zero_le _, Nat.zero_le _⟩ dX5_filter_85
  · replace h := ifn h c7
    refine go_iload_n (pc := 63) dX5_filter_63 rfl rfl ?_
    refine go_bipush (pc := 64) (v := 10) dX5_filter_64 cb_10 ?_
    refine go_icmp_gt (pc := 66) (tgt := 83) dX5_filter_66 rfl (fun c8 => ?_) (fun c8 => ?_)
    · replace h := ifp h c8
      refine go_bipush (pc := 83) (v := (-2)) dX5_filter_83 cb_m2 ?_
      cases h
      exact go_iret (pc := 85) (Or.inl rfl) ⟨Nat.zero_le _, Nat.zero_le _⟩ dX5_filter_85
    · replace h := ifn h c8
      refine go_iload_n (pc := 69) dX5_filter_69 rfl rfl ?_
      refine go_iconst (pc := 70) (v := 5) dX5_filter_70 ci_5 ?_
      refine go_icmp_ne (pc := 71) (tgt := 86) dX5_filter_71 rfl (fun c9 => ?_) (fun c9 => ?_)
      · replace h := ifn h c9
        refine go_aload_n (pc := 86) dX5_filter_86 rfl rfl ?_
        refine go_getP (pc := 87) (a := 84) fX5_50 (by decide) (show TC 0 = (5 + 5, 13) from rfl) rfl dX5_filter_87 ?_
        refine go_iload_n (pc := 90) dX5_filter_90 rfl rfl ?_
        refine go_iload_n (pc := 91) dX5_filter_91 rfl rfl ?_
        refine go_iload_n (pc := 92) dX5_filter_92 rfl rfl ?_
        obtain ⟨r10, e11, h⟩ := ok_bind h
        refine go_cV (pc := 93) (ci := 1) (As := [.int l1, .int l2, .int l3]) (st := []) (E_X1_add e11) rfl oX1_add iX1_add sX1_add kX5_179 rfl (show TC 84 = (1 + 5, 4) from rfl) rfl (Nat.le_of_ble_eq_true rfl) ⟨Nat.le_of_ble_eq_true rfl, Nat.le_of_ble_eq_true rfl⟩ ⟨rfl, rfl⟩ dX5_filter_93 (st2 := [.int r10.1]) rfl ?_
        cases h
        exact go_iret (pc := 96) (Or.inl rfl) ⟨Nat.zero_le _, Nat.zero_le _⟩ dX5_filter_96
      · replace h := ifp h c9
        refine go_iload_n (pc := 74) dX5_filter_74 rfl rfl ?_
        refine go_if_lt (pc := 75) (tgt := 83) dX5_filter_75 rfl (fun c12 => ?_) (fun c12 => ?_)
        · replace h := ifp h c12
          refine go_bipush (pc := 83) (v := (-2)) dX5_filter_83 cb_m2 ?_
          cases h
          exact go_iret (pc := 85) (Or.inl rfl) ⟨Nat.zero_le _, Nat.zero_le _⟩ dX5_filter_85
        · replace h := ifn h c12
          refine go_iload_n (pc := 78) dX5_filter_78 rfl rfl ?_
          refine go_iconst (pc := 79) (v := 3) dX5_filter_79 ci_3 ?_
          refine go_icmp_le (pc := 80) (tgt := 86) dX5_filter_80 rfl (fun c13 => ?_) (fun c13 => ?_)
          · replace h := ifp h c13
            refine go_aload_n (pc := 86) dX5_filter_86 rfl rfl ?_
            refine go_getP (pc := 87) (a := 84) fX5_50 (by decide) (show TC 0 = (5 + 5, 13) from rfl) rfl dX5_filter_87 ?_
            refine go_iload_n (pc := 90) dX5_filter_90 rfl rfl ?_
            refine go_iload_n (pc := 91) dX5_filter_91 rfl rfl ?_
            refine go_iload_n (pc := 92) dX5_filter_92 rfl rfl ?_
            obtain ⟨r14, e15, h⟩ := ok_bind h
            refine go_cV (pc := 93) (ci := 1) (As := [.int l1, .int l2, .int l3]) (st := []) (E_X1_add e15) rfl oX1_add iX1_add sX1_add kX5_179 rfl (show TC 84 = (1 + 5, 4) from rfl) rfl (Nat.le_of_ble_eq_true rfl) ⟨Nat.le_of_ble_eq_true rfl, Nat.le_of_ble_eq_true rfl⟩ ⟨rfl, rfl⟩ dX5_filter_93 (st2 := [.int r14.1]) rfl ?_
            cases h
            exact go_iret (pc := 96) (Or.inl rfl) ⟨Nat.zero_le _, Nat.zero_le _⟩ dX5_filter_96
          · replace h := ifn h c13
            refine go_bipush (pc := 83) (v := (-2)) dX5_filter_83 cb_m2 ?_
            cases h
            exact go_iret (pc := 85) (Or.inl rfl) ⟨Nat.zero_le _, Nat.zero_le _⟩ dX5_filter_85
def eX5_filter_b17 (l1 : Int32) (l2 : Int32) (l3 : Int32) (s0 : Int32) (V : Mm) : Option (Int32 × Mm) :=
  if s0 = 0 then
    if l1 = 10 then
      (eX1_isThere l2 V).bind fun r24 =>
      if r24 = 0 then
        some ((-1), V)
      else
        if s0 = 0 then
          eX5_filter_b59 l1 l2 l3 V
        else
          (eX1_isThere l3 V).bind fun r28 =>
          if r28 = 0 then
            some ((-1), V)
          else
            eX5_filter_b59 l1 l2 l3 V
    else
      if s0 = 0 then
        eX5_filter_b59 l1 l2 l3 V
      else
        (eX1_isThere l3 V).bind fun r21 =>
        if r21 = 0 then
          some ((-1), V)
        else
          eX5_filter_b59 l1 l2 l3 V
  else
    (eX1_isThere l2 V).bind fun r3 =>
    if r3 = 0 then
      some ((-1), V)
    else
      if s0 = 0 then
        eX5_filter_b59 l1 l2 l3 V
      else
        (eX1_isThere l3 V).bind fun r16 =>
        if r16 = 0 then
          some ((-1), V)
        else
          eX5_filter_b59 l1 l2 l3 V
set_option maxHeartbeats 4000000 in
set_option maxRecDepth 100000 in
theorem gX5_filter_b17 {l1 : Int32} {l2 : Int32} {l3 : Int32} {s0 : Int32} {V : Mm} {res : Int32 × Mm}  (h : eX5_filter_b17 l1 l2 l3 s0 V = some res) : Go mX5_filter 17 [some (.ref 0), some (.int l1), some (.int l2), some (.int l3), none] [.int s0] (hC V) 0 0 (some (.int res.1)) (hC res.2) := by
  unfold eX5_filter_b17 at h
  refine go_istore (pc := 17) (i := 4) dX5_filter_17 (Nat.le_of_ble_eq_true rfl) (L2 := [some (.ref 0), some (.int l1), some (.int l2), some (.int l3), some (.int s0)]) rfl ?_
  refine go_iload (pc := 19) dX5_filter_19 rfl ?_
  refine go_if_ne (pc := 21) (tgt := 30) dX5_filter_21 rfl (fun c2 => ?_) (fun c2 => ?_)
  · replace h := ifn h c2
    refine go_aload_n (pc := 30) dX5_filter_30 rfl rfl ?_
    refine go_getP (pc := 31) (a := 84) fX5_50 (by decide) (show TC 0 = (5 + 5, 13) from rfl) rfl dX5_filter_31 ?_
    refine go_iload_n (pc := 34) dX5_filter_34 rfl rfl ?_
    obtain ⟨r3, e4, h⟩ := ok_bind h
    refine go_cV (pc := 35) (ci := 1) (As := [.int l2]) (st := []) (E_X1_isThere e4) rfl oX1_isThere iX1_isThere sX1_isThere kX5_178 rfl (show TC 84 = (1 + 5, 4) from rfl) rfl (Nat.le_of_ble_eq_true rfl) ⟨Nat.le_of_ble_eq_true rfl, Nat.le_of_ble_eq_true rfl⟩ ⟨rfl, rfl⟩ dX5_filter_35 (st2 := [.int r3]) rfl ?_
    refine go_if_eq (pc := 38) (tgt := 57) dX5_filter_38 rfl (fun c5 => ?_) (fun c5 => ?_)
    · replace h := ifp h c5
      refine go_iconst (pc := 57) (v := (-1)) dX5_filter_57 ci_m1 ?_
      cases h
      exact go_iret (pc := 58) (Or.inl rfl) ⟨Nat.zero_le _, Nat.zero_le _⟩ dX5_filter_58
    · replace h := ifn h c5
      refine go_iload (pc := 41) dX5_filter_41 rfl ?_
      refine go_if_eq (pc := 43) (tgt := 59) dX5_filter_43 rfl (fun c6 => ?_) (fun c6 => ?_)
      · replace h := ifp h c6
        refine go_le (lle_s (lle_s (lle_s (lle_s (lle_n lle_0))))) ?_
        exact gX5_filter_b59  h
      · replace h := ifn h c6
        refine go_aload_n (pc := 46) dX5_filter_46 rfl rfl ?_
        refine go_getP (pc := 47) (a := 84) fX5_50 (by decide) (show TC 0 = (5 + 5, 13) from rfl) rfl dX5_filter_47 ?_
        refine go_iload_n (pc := 50) dX5_filter_50 rfl rfl ?_
        obtain ⟨r16, e17, h⟩ := ok_bind h
        refine go_cV (pc := 51) (ci := 1) (As := [.int l3]) (st := []) (E_X1_isThere e17) rfl oX1_isThere iX1_isThere sX1_isThere kX5_178 rfl (show TC 84 = (1 + 5, 4) from rfl) rfl (Nat.le_of_ble_eq_true rfl) ⟨Nat.le_of_ble_eq_true rfl, Nat.le_of_ble_eq_true rfl⟩ ⟨rfl, rfl⟩ dX5_filter_51 (st2 := [.int r16]) rfl ?_
        refine go_if_ne (pc := 54) (tgt := 59) dX5_filter_54 rfl (fun c18 => ?_) (fun c18 => ?_)
        · replace h := ifn h c18
          refine go_le (lle_s (lle_s (lle_s (lle_s (lle_n lle_0))))) ?_
          exact gX5_filter_b59  h
        · replace h := ifp h c18
          refine go_iconst (pc := 57) (v := (-1)) dX5_filter_57 ci_m1 ?_
          cases h
          exact go_iret (pc := 58) (Or.inl rfl) ⟨Nat.zero_le _, Nat.zero_le _⟩ dX5_filter_58
  · replace h := ifp h c2
    refine go_iload_n (pc := 24) dX5_filter_24 rfl rfl ?_
    refine go_bipush (pc := 25) (v := 10) dX5_filter_25 cb_10 ?_
    refine go_icmp_ne (pc := 27) (tgt := 41) dX5_filter_27 rfl (fun c19 => ?_) (fun c19 => ?_)
    · replace h := ifn h c19
      refine go_iload (pc := 41) dX5_filter_41 rfl ?_
      refine go_if_eq (pc := 43) (tgt := 59) dX5_filter_43 rfl (fun c20 => ?_) (fun c20 => ?_)
      · replace h := ifp h c20
        refine go_le (lle_s (lle_s (lle_s (lle_s (lle_n lle_0))))) ?_
        exact gX5_filter_b59  h
      · replace h := ifn h c20
        refine go_aload_n (pc := 46) dX5_filter_46 rfl rfl ?_
        refine go_getP (pc := 47) (a := 84) fX5_50 (by decide) (show TC 0 = (5 + 5, 13) from rfl) rfl dX5_filter_47 ?_
        refine go_iload_n (pc := 50) dX5_filter_50 rfl rfl ?_
        obtain ⟨r21, e22, h⟩ := ok_bind h
        refine go_cV (pc := 51) (ci := 1) (As := [.int l3]) (st := []) (E_X1_isThere e22) rfl oX1_isThere iX1_isThere sX1_isThere kX5_178 rfl (show TC 84 = (1 + 5, 4) from rfl) rfl (Nat.le_of_ble_eq_true rfl) ⟨Nat.le_of_ble_eq_true rfl, Nat.le_of_ble_eq_true rfl⟩ ⟨rfl, rfl⟩ dX5_filter_51 (st2 := [.int r21]) rfl ?_
        refine go_if_ne (pc := 54) (tgt := 59) dX5_filter_54 rfl (fun c23 => ?_) (fun c23 => ?_)
        · replace h := ifn h c23
          refine go_le (lle_s (lle_s (lle_s (lle_s (lle_n lle_0))))) ?_
          exact gX5_filter_b59  h
        · replace h := ifp h c23
          refine go_iconst (pc := 57) (v := (-1)) dX5_filter_57 ci_m1 ?_
          cases h
          exact go_iret (pc := 58) (Or.inl rfl) ⟨Nat.zero_le _, Nat.zero_le _⟩ dX5_filter_58
    · replace h := ifp h c19
      refine go_aload_n (pc := 30) dX5_filter_30 rfl rfl ?_
      refine go_getP (pc := 31) (a := 84) fX5_50 (by decide) (show TC 0 = (5 + 5, 13) from rfl) rfl dX5_filter_31 ?_
      refine go_iload_n (pc := 34) dX5_filter_34 rfl rfl ?_
      obtain ⟨r24, e25, h⟩ := ok_bind h
      refine go_cV (pc := 35) (ci := 1) (As := [.int l2]) (st := []) (E_X1_isThere e25) rfl oX1_isThere iX1_isThere sX1_isThere kX5_178 rfl (show TC 84 = (1 + 5, 4) from rfl) rfl (Nat.le_of_ble_eq_true rfl) ⟨Nat.le_of_ble_eq_true rfl, Nat.le_of_ble_eq_true rfl⟩ ⟨rfl, rfl⟩ dX5_filter_35 (st2 := [.int r24]) rfl ?_
      refine go_if_eq (pc := 38) (tgt := 57) dX5_filter_38 rfl (fun c26 => ?_) (fun c26 => ?_)
      · replace h := ifp h c26
        refine go_iconst (pc := 57) (v := (-1)) dX5_filter_57 ci_m1 ?_
        cases h
        exact go_iret (pc := 58) (Or.inl rfl) ⟨Nat.zero_le _, Nat.zero_le _⟩ dX5_filter_58
      · replace h := ifn h c26
        refine go_iload (pc := 41) dX5_filter_41 rfl ?_
        refine go_if_eq (pc := 43) (tgt := 59) dX5_filter_43 rfl (fun c27 => ?_) (fun c27 => ?_)
        · replace h := ifp h c27
          refine go_le (lle_s (lle_s (lle_s (lle_s (lle_n lle_0))))) ?_
          exact gX5_filter_b59  h
        · replace h := ifn h c27
          refine go_aload_n (pc := 46) dX5_filter_46 rfl rfl ?_
          refine go_getP (pc := 47) (a := 84) fX5_50 (by decide) (show TC 0 = (5 + 5, 13) from rfl) rfl dX5_filter_47 ?_
          refine go_iload_n (pc := 50) dX5_filter_50 rfl rfl ?_
          obtain ⟨r28, e29, h⟩ := ok_bind h
          refine go_cV (pc := 51) (ci := 1) (As := [.int l3]) (st := []) (E_X1_isThere e29) rfl oX1_isThere iX1_isThere sX1_isThere kX5_178 rfl (show TC 84 = (1 + 5, 4) from rfl) rfl (Nat.le_of_ble_eq_true rfl) ⟨Nat.le_of_ble_eq_true rfl, Nat.le_of_ble_eq_true rfl⟩ ⟨rfl, rfl⟩ dX5_filter_51 (st2 := [.int r28]) rfl ?_
          refine go_if_ne (pc := 54) (tgt := 59) dX5_filter_54 rfl (fun c30 => ?_) (fun c30 => ?_)
          · replace h := ifn h c30
            refine go_le (lle_s (lle_s (lle_s (lle_s (lle_n lle_0))))) ?_
            exact gX5_filter_b59  h
          · replace h := ifp h c30
            refine go_iconst (pc := 57) (v := (-1)) dX5_filter_57 ci_m1 ?_
            cases h
            exact go_iret (pc := 58) (Or.inl rfl) ⟨Nat.zero_le _, Nat.zero_le _⟩ dX5_filter_58
def eX5_filter (a1 : Int32) (a2 : Int32) (a3 : Int32) (V : Mm) : Option (Int32 × Mm) :=
  if a1 = 8 then
    eX5_filter_b17 a1 a2 a3 1 V
  else
    if a1 = 9 then
      eX5_filter_b17 a1 a2 a3 1 V
    else
      eX5_filter_b17 a1 a2 a3 0 V
set_option maxHeartbeats 4000000 in
set_option maxRecDepth 100000 in
theorem E_X5_filter {a1 : Int32} {a2 : Int32} {a3 : Int32} {V : Mm} {res : Int32 × Mm}  (h : eX5_filter a1 a2 a3 V = some res) : Ev mX5_filter [.ref 0, .int a1, .int a2, .int a3] (hC V) (some (.int res.1)) (hC res.2) := by
  refine Ev.of (n := 1) oX5_filter.1 (Nat.le_of_ble_eq_true rfl) ?_
  unfold eX5_filter at h
  show Go mX5_filter 0 [some (.ref 0), some (.int a1), some (.int a2), some (.int a3), none] [] (hC V) 0 0 (some (.int res.1)) (hC res.2)
  refine go_iload_n (pc := 0) dX5_filter_0 rfl rfl ?_
  refine go_bipush (pc := 1) (v := 8) dX5_filter_1 cb_8 ?_
  refine go_icmp_eq (pc := 3) (tgt := 12) dX5_filter_3 rfl (fun c1 => ?_) (fun c1 => ?_)
  · replace h := ifp h c1
    refine go_iconst (pc := 12) (v := 1) dX5_filter_12 ci_1 ?_
    refine go_goto (pc := 13) (tgt := 17) dX5_filter_13 rfl ?_
    exact gX5_filter_b17  h
  · replace h := ifn h c1
    refine go_iload_n (pc := 6) dX5_filter_6 rfl rfl ?_
    refine go_bipush (pc := 7) (v := 9) dX5_filter_7 cb_9 ?_
    refine go_icmp_ne (pc := 9) (tgt := 16) dX5_filter_9 rfl (fun c31 => ?_) (fun c31 => ?_)
    · replace h := ifn h c31
      refine go_iconst (pc := 16) (v := 0) dX5_filter_16 ci_0 ?_
      exact gX5_filter_b17  h
    · replace h := ifp h c31
      refine go_iconst (pc := 12) (v := 1) dX5_filter_12 ci_1 ?_
      refine go_goto (pc := 13) (tgt := 17) dX5_filter_13 rfl ?_
      exact gX5_filter_b17  h
def eX5_fits (a1 : Int32) (a2 : Int32) (V : Mm) : Option (Int32) :=
  (eX2_isThere 28 a1 V).bind fun r1 =>
  if r1 = 0 then
    some (-1)
  else
    (eX1_isThere a2 V).bind fun r4 =>
    if r4 = 0 then
      some (-1)
    else
      (eX5_passes a1 a2 V).bind fun r7 =>
      if r7 = 0 then
        some 0
      else
        some 1
set_option maxHeartbeats 4000000 in
set_option maxRecDepth 100000 in
theorem E_X5_fits {a1 : Int32} {a2 : Int32} {V : Mm} {res : Int32}  (h : eX5_fits a1 a2 V = some res) : Ev mX5_fits [.ref 0, .int a1, .int a2] (hC V) (some (.int res)) (hC V) := by
  refine Ev.of (n := 0) oX5_fits.1 (Nat.le_of_ble_eq_true rfl) ?_
  unfold eX5_fits at h
  show Go mX5_fits 0 [some (.ref 0), some (.int a1), some (.int a2)] [] (hC V) 0 0 (some (.int res)) (hC V)
  refine go_aload_n (pc := 0) dX5_fits_0 rfl rfl ?_
  refine go_getP (pc := 1) (a := 28) fX5_34 (by decide) (show TC 0 = (5 + 5, 13) from rfl) rfl dX5_fits_1 ?_
  refine go_iload_n (pc := 4) dX5_fits_4 rfl rfl ?_
  obtain ⟨r1, e2, h⟩ := ok_bind h
  refine go_cV (pc := 5) (ci := 2) (As := [.int a1]) (st := []) (E_X2_isThere isK_28 e2) rfl oX2_isThere iX2_isThere sX2_isThere kX5_149 rfl (K_T isK_28) rfl (Nat.le_of_ble_eq_true rfl) ⟨Nat.le_of_ble_eq_true rfl, Nat.le_of_ble_eq_true rfl⟩ ⟨rfl, rfl⟩ dX5_fits_5 (st2 := [.int r1]) rfl ?_
  refine go_if_eq (pc := 8) (tgt := 22) dX5_fits_8 rfl (fun c3 => ?_) (fun c3 => ?_)
  · replace h := ifp h c3
    refine go_iconst (pc := 22) (v := (-1)) dX5_fits_22 ci_m1 ?_
    cases h
    exact go_iret (pc := 23) (Or.inl rfl) ⟨Nat.zero_le _, Nat.zero_le _⟩ dX5_fits_23
  · replace h := ifn h c3
    refine go_aload_n (pc := 11) dX5_fits_11 rfl rfl ?_
    refine go_getP (pc := 12) (a := 84) fX5_50 (by decide) (show TC 0 = (5 + 5, 13) from rfl) rfl dX5_fits_12 ?_
    refine go_iload_n (pc := 15) dX5_fits_15 rfl rfl ?_
    obtain ⟨r4, e5, h⟩ := ok_bind h
    refine go_cV (pc := 16) (ci := 1) (As := [.int a2]) (st := []) (E_X1_isThere e5) rfl oX1_isThere iX1_isThere sX1_isThere kX5_178 rfl (show TC 84 = (1 + 5, 4) from rfl) rfl (Nat.le_of_ble_eq_true rfl) ⟨Nat.le_of_ble_eq_true rfl, Nat.le_of_ble_eq_true rfl⟩ ⟨rfl, rfl⟩ dX5_fits_16 (st2 := [.int r4]) rfl ?_
    refine go_if_ne (pc := 19) (tgt := 24) dX5_fits_19 rfl (fun c6 => ?_) (fun c6 => ?_)
    · replace h := ifn h c6
      refine go_aload_n (pc := 24) dX5_fits_24 rfl rfl ?_
      refine go_iload_n (pc := 25) dX5_fits_25 rfl rfl ?_
      refine go_iload_n (pc := 26) dX5_fits_26 rfl rfl ?_
      obtain ⟨r7, e8, h⟩ := ok_bind h
      refine go_cV (pc := 27) (ci := 5) (As := [.int a1, .int a2]) (st := []) (E_X5_passes e8) rfl oX5_passes iX5_passes sX5_passes kX5_182 rfl (show TC 0 = (5 + 5, 13) from rfl) rfl (Nat.le_of_ble_eq_true rfl) ⟨Nat.le_of_ble_eq_true rfl, Nat.le_of_ble_eq_true rfl⟩ ⟨rfl, rfl⟩ dX5_fits_27 (st2 := [.int r7]) rfl ?_
      refine go_if_eq (pc := 30) (tgt := 37) dX5_fits_30 rfl (fun c9 => ?_) (fun c9 => ?_)
      · replace h := ifp h c9
        refine go_iconst (pc := 37) (v := 0) dX5_fits_37 ci_0 ?_
        cases h
        exact go_iret (pc := 38) (Or.inl rfl) ⟨Nat.zero_le _, Nat.zero_le _⟩ dX5_fits_38
      · replace h := ifn h c9
        refine go_iconst (pc := 33) (v := 1) dX5_fits_33 ci_1 ?_
        refine go_goto (pc := 34) (tgt := 38) dX5_fits_34 rfl ?_
        cases h
        exact go_iret (pc := 38) (Or.inl rfl) ⟨Nat.zero_le _, Nat.zero_le _⟩ dX5_fits_38
    · replace h := ifp h c6
      refine go_iconst (pc := 22) (v := (-1)) dX5_fits_22 ci_m1 ?_
      cases h
      exact go_iret (pc := 23) (Or.inl rfl) ⟨Nat.zero_le _, Nat.zero_le _⟩ dX5_fits_23
def eX6_within (a0 : Int32) (a1 : Int32) (a2 : Int32) (V : Mm) : Option (Int32) :=
  if a0 < a1 then
    some 0
  else
    if a2 < a0 then
      some 0
    else
      some 1
set_option maxHeartbeats 4000000 in
set_option maxRecDepth 100000 in
theorem E_X6_within {a0 : Int32} {a1 : Int32} {a2 : Int32} {V : Mm} {res : Int32}  (h : eX6_within a0 a1 a2 V = some res) : Ev mX6_within [.int a0, .int a1, .int a2] (hM V) (some (.int res)) (hM V) := by
  refine Ev.of (n := 0) oX6_within.1 (Nat.le_of_ble_eq_true rfl) ?_
  unfold eX6_within at h
  show Go mX6_within 0 [some (.int a0), some (.int a1), some (.int a2)] [] (hM V) 0 0 (some (.int res)) (hM V)
  refine go_iload_n (pc := 0) dX6_within_0 rfl rfl ?_
  refine go_iload_n (pc := 1) dX6_within_1 rfl rfl ?_
  refine go_icmp_lt (pc := 2) (tgt := 14) dX6_within_2 rfl (fun c1 => ?_) (fun c1 => ?_)
  · replace h := ifp h c1
    refine go_iconst (pc := 14) (v := 0) dX6_within_14 ci_0 ?_
    cases h
    exact go_iret (pc := 15) (Or.inr ⟨rfl, Or.inl rfl⟩) ⟨Nat.zero_le _, Nat.zero_le _⟩ dX6_within_15
  · replace h := ifn h c1
    refine go_iload_n (pc := 5) dX6_within_5 rfl rfl ?_
    refine go_iload_n (pc := 6) dX6_within_6 rfl rfl ?_
    refine go_icmp_gt (pc := 7) (tgt := 14) dX6_within_7 rfl (fun c2 => ?_) (fun c2 => ?_)
    · replace h := ifp h c2
      refine go_iconst (pc := 14) (v := 0) dX6_within_14 ci_0 ?_
      cases h
      exact go_iret (pc := 15) (Or.inr ⟨rfl, Or.inl rfl⟩) ⟨Nat.zero_le _, Nat.zero_le _⟩ dX6_within_15
    · replace h := ifn h c2
      refine go_iconst (pc := 10) (v := 1) dX6_within_10 ci_1 ?_
      refine go_goto (pc := 11) (tgt := 15) dX6_within_11 rfl ?_
      cases h
      exact go_iret (pc := 15) (Or.inr ⟨rfl, Or.inr rfl⟩) ⟨Nat.zero_le _, Nat.zero_le _⟩ dX6_within_15
def eX6_copy_b2 : Nat → Nat → Nat → Int32 → Mm → Option (Mm)
  | 0, _, _, _, _ => none
  | n + 1, l0, l1, l2, V => 
    if 586 ≤ l2 then
      some V
    else
      if l2 < 0 ∨ 586 ≤ l2.toNatClampNeg then none else
      if l2 < 0 ∨ 586 ≤ l2.toNatClampNeg then none else
      eX6_copy_b2 n l0 l1 (l2 + 1) (wr V l1 l2.toNatClampNeg (V l0 l2.toNatClampNeg))
set_option maxHeartbeats 4000000 in
set_option maxRecDepth 100000 in
theorem gX6_copy_b2 : ∀ (n : Nat) (l0 : Nat) (l1 : Nat) (l2 : Int32) (V : Mm) (res : Mm) (hl0 : isW l0) (hl1 : isW l1), eX6_copy_b2 n l0 l1 l2 V = some res → Go mX6_copy 2 [some (.ref l0), some (.ref l1), some (.int l2)] [] (hM V) 0 0 none (hM res) := by
  intro n
  induction n with
  | zero =>
    intro l0 l1 l2 V res hl0 hl1 h
    cases h
  | succ n ih =>
    intro l0 l1 l2 V res hl0 hl1 h
    rw [eX6_copy_b2] at h
    refine go_iload_n (pc := 2) dX6_copy_2 rfl rfl ?_
    refine go_sipush (pc := 3) (v := 586) dX6_copy_3 cs_586 ?_
    refine go_icmp_ge (pc := 6) (tgt := 21) dX6_copy_6 rfl (fun c1 => ?_) (fun c1 => ?_)
    · replace h := ifp h c1
      cases h
      exact go_vret (pc := 21) rfl ⟨Nat.zero_le _, Nat.zero_le _⟩ dX6_copy_21
    · replace h := ifn h c1
      refine go_aload_n (pc := 9) dX6_copy_9 rfl rfl ?_
      refine go_iload_n (pc := 10) dX6_copy_10 rfl rfl ?_
      refine go_aload_n (pc := 11) dX6_copy_11 rfl rfl ?_
      refine go_iload_n (pc := 12) dX6_copy_12 rfl rfl ?_
      obtain ⟨c2, h⟩ := ok_not h
      refine go_ia (pc := 13) (v := V l0 l2.toNatClampNeg) (W_T hl0) (vin c2) dX6_copy_13 rfl ?_
      obtain ⟨c3, h⟩ := ok_not h
      refine go_iast (pc := 14) (W_T hl1) (vin c3) dX6_copy_14 ?_
      refine go_iinc (pc := 15) (v := (l2 + 1)) dX6_copy_15 rfl (by rw [ci_1]) (Nat.le_of_ble_eq_true rfl) (L2 := [some (.ref l0), some (.ref l1), some (.int (l2 + 1))]) rfl ?_
      refine go_goto (pc := 18) (tgt := 2) dX6_copy_18 rfl ?_
      exact ih _ _ _ _ _ hl0 hl1 h
def eX6_copy (a0 : Nat) (a1 : Nat) (V : Mm) : Option (Mm) :=
  eX6_copy_b2 fu a0 a1 0 V
set_option maxHeartbeats 4000000 in
set_option maxRecDepth 100000 in
theorem E_X6_copy {a0 : Nat} {a1 : Nat} {V : Mm} {res : Mm} (ha0 : isW a0) (ha1 : isW a1) (h : eX6_copy a0 a1 V = some res) : Ev mX6_copy [.ref a0, .ref a1] (hM V) none (hM res) := by
  refine Ev.of (n := 1) oX6_copy.1 (Nat.le_of_ble_eq_true rfl) ?_
  unfold eX6_copy at h
  show Go mX6_copy 0 [some (.ref a0), some (.ref a1), none] [] (hM V) 0 0 none (hM res)
  refine go_iconst (pc := 0) (v := 0) dX6_copy_0 ci_0 ?_
  refine go_istore_n (pc := 1) (i := 2) dX6_copy_1 rfl (Nat.le_of_ble_eq_true rfl) (L2 := [some (.ref a0), some (.ref a1), some (.int 0)]) rfl ?_
  exact gX6_copy_b2 _ _ _ _ _ _ ha0 ha1 h
def eX6_isBox (a1 : Nat) (a2 : Int32) (V : Mm) : Option (Int32) :=
  if a2 < 0 then
    some 0
  else
    if (V a1 580) ≤ a2 then
      some 0
    else
      if (4 * a2) < 0 ∨ 586 ≤ (4 * a2).toNatClampNeg then none else
      if (V a1 ((4 * a2).toNatClampNeg)) = 1 then
        some 1
      else
        some 0
set_option maxHeartbeats 4000000 in
set_option maxRecDepth 100000 in
theorem E_X6_isBox {a1 : Nat} {a2 : Int32} {V : Mm} {res : Int32} (ha1 : isW a1) (h : eX6_isBox a1 a2 V = some res) : Ev mX6_isBox [.ref 0, .ref a1, .int a2] (hM V) (some (.int res)) (hM V) := by
  refine Ev.of (n := 0) oX6_isBox.1 (Nat.le_of_ble_eq_true rfl) ?_
  unfold eX6_isBox at h
  show Go mX6_isBox 0 [some (.ref 0), some (.ref a1), some (.int a2)] [] (hM V) 0 0 (some (.int res)) (hM V)
  refine go_iload_n (pc := 0) dX6_isBox_0 rfl rfl ?_
  refine go_if_lt (pc := 1) (tgt := 26) dX6_isBox_1 rfl (fun c1 => ?_) (fun c1 => ?_)
  · replace h := ifp h c1
    refine go_iconst (pc := 26) (v := 0) dX6_isBox_26 ci_0 ?_
    cases h
    exact go_iret (pc := 27) (Or.inr ⟨rfl, Or.inl rfl⟩) ⟨Nat.zero_le _, Nat.zero_le _⟩ dX6_isBox_27
  · replace h := ifn h c1
    refine go_iload_n (pc := 4) dX6_isBox_4 rfl rfl ?_
    refine go_aload_n (pc := 5) dX6_isBox_5 rfl rfl ?_
    refine go_sipush (pc := 6) (v := 580) dX6_isBox_6 cs_580 ?_
    refine go_ia (pc := 9) (v := V a1 580) (W_T ha1) (vin (by decide)) dX6_isBox_9 rfl ?_
    refine go_icmp_ge (pc := 10) (tgt := 26) dX6_isBox_10 rfl (fun c2 => ?_) (fun c2 => ?_)
    · replace h := ifp h c2
      refine go_iconst (pc := 26) (v := 0) dX6_isBox_26 ci_0 ?_
      cases h
      exact go_iret (pc := 27) (Or.inr ⟨rfl, Or.inl rfl⟩) ⟨Nat.zero_le _, Nat.zero_le _⟩ dX6_isBox_27
    · replace h := ifn h c2
      refine go_aload_n (pc := 13) dX6_isBox_13 rfl rfl ?_
      refine go_iconst (pc := 14) (v := 4) dX6_isBox_14 ci_4 ?_
      refine go_iload_n (pc := 15) dX6_isBox_15 rfl rfl ?_
      refine go_imul (pc := 16) dX6_isBox_16 ?_
      obtain ⟨c3, h⟩ := ok_not h
      refine go_ia (pc := 17) (v := V a1 ((4 * a2).toNatClampNeg)) (W_T ha1) (vin c3) dX6_isBox_17 rfl ?_
      refine go_iconst (pc := 18) (v := 1) dX6_isBox_18 ci_1 ?_
      refine go_icmp_ne (pc := 19) (tgt := 26) dX6_isBox_19 rfl (fun c4 => ?_) (fun c4 => ?_)
      · replace h := ifn h c4
        refine go_iconst (pc := 26) (v := 0) dX6_isBox_26 ci_0 ?_
        cases h
        exact go_iret (pc := 27) (Or.inr ⟨rfl, Or.inl rfl⟩) ⟨Nat.zero_le _, Nat.zero_le _⟩ dX6_isBox_27
      · replace h := ifp h c4
        refine go_iconst (pc := 22) (v := 1) dX6_isBox_22 ci_1 ?_
        refine go_goto (pc := 23) (tgt := 27) dX6_isBox_23 rfl ?_
        cases h
        exact go_iret (pc := 27) (Or.inr ⟨rfl, Or.inr rfl⟩) ⟨Nat.zero_le _, Nat.zero_le _⟩ dX6_isBox_27
def eX6_isMail (a1 : Nat) (a2 : Int32) (V : Mm) : Option (Int32) :=
  if a2 < 0 then
    some 0
  else
    if (V a1 581) ≤ a2 then
      some 0
    else
      if (80 + (10 * a2)) < 0 ∨ 586 ≤ (80 + (10 * a2)).toNatClampNeg then none else
      if (V a1 ((80 + (10 * a2)).toNatClampNeg)) = 1 then
        some 1
      else
        some 0
set_option maxHeartbeats 4000000 in
set_option maxRecDepth 100000 in
theorem E_X6_isMail {a1 : Nat} {a2 : Int32} {V : Mm} {res : Int32} (ha1 : isW a1) (h : eX6_isMail a1 a2 V = some res) : Ev mX6_isMail [.ref 0, .ref a1, .int a2] (hM V) (some (.int res)) (hM V) := by
  refine Ev.of (n := 0) oX6_isMail.1 (Nat.le_of_ble_eq_true rfl) ?_
  unfold eX6_isMail at h
  show Go mX6_isMail 0 [some (.ref 0), some (.ref a1), some (.int a2)] [] (hM V) 0 0 (some (.int res)) (hM V)
  refine go_iload_n (pc := 0) dX6_isMail_0 rfl rfl ?_
  refine go_if_lt (pc := 1) (tgt := 30) dX6_isMail_1 rfl (fun c1 => ?_) (fun c1 => ?_)
  · replace h := ifp h c1
    refine go_iconst (pc := 30) (v := 0) dX6_isMail_30 ci_0 ?_
    cases h
    exact go_iret (pc := 31) (Or.inr ⟨rfl, Or.inl rfl⟩) ⟨Nat.zero_le _, Nat.zero_le _⟩ dX6_isMail_31
  · replace h := ifn h c1
    refine go_iload_n (pc := 4) dX6_isMail_4 rfl rfl ?_
    refine go_aload_n (pc := 5) dX6_isMail_5 rfl rfl ?_
    refine go_sipush (pc := 6) (v := 581) dX6_isMail_6 cs_581 ?_
    refine go_ia (pc := 9) (v := V a1 581) (W_T ha1) (vin (by decide)) dX6_isMail_9 rfl ?_
    refine go_icmp_ge (pc := 10) (tgt := 30) dX6_isMail_10 rfl (fun c2 => ?_) (fun c2 => ?_)
    · replace h := ifp h c2
      refine go_iconst (pc := 30) (v := 0) dX6_isMail_30 ci_0 ?_
      cases h
      exact go_iret (pc := 31) (Or.inr ⟨rfl, Or.inl rfl⟩) ⟨Nat.zero_le _, Nat.zero_le _⟩ dX6_isMail_31
    · replace h := ifn h c2
      refine go_aload_n (pc := 13) dX6_isMail_13 rfl rfl ?_
      refine go_bipush (pc := 14) (v := 80) dX6_isMail_14 cb_80 ?_
      refine go_bipush (pc := 16) (v := 10) dX6_isMail_16 cb_10 ?_
      refine go_iload_n (pc := 18) dX6_isMail_18 rfl rfl ?_
      refine go_imul (pc := 19) dX6_isMail_19 ?_
      refine go_iadd (pc := 20) dX6_isMail_20 ?_
      obtain ⟨c3, h⟩ := ok_not h
      refine go_ia (pc := 21) (v := V a1 ((80 + (10 * a2)).toNatClampNeg)) (W_T ha1) (vin c3) dX6_isMail_21 rfl ?_
      refine go_iconst (pc := 22) (v := 1) dX6_isMail_22 ci_1 ?_
      refine go_icmp_ne (pc := 23) (tgt := 30) dX6_isMail_23 rfl (fun c4 => ?_) (fun c4 => ?_)
      · replace h := ifn h c4
        refine go_iconst (pc := 30) (v := 0) dX6_isMail_30 ci_0 ?_
        cases h
        exact go_iret (pc := 31) (Or.inr ⟨rfl, Or.inl rfl⟩) ⟨Nat.zero_le _, Nat.zero_le _⟩ dX6_isMail_31
      · replace h := ifp h c4
        refine go_iconst (pc := 26) (v := 1) dX6_isMail_26 ci_1 ?_
        refine go_goto (pc := 27) (tgt := 31) dX6_isMail_27 rfl ?_
        cases h
        exact go_iret (pc := 31) (Or.inr ⟨rfl, Or.inr rfl⟩) ⟨Nat.zero_le _, Nat.zero_le _⟩ dX6_isMail_31
def eX6_boxPart (a1 : Nat) (a2 : Int32) (a3 : Int32) (V : Mm) : Option (Int32) :=
  if ((4 * a2) + a3) < 0 ∨ 586 ≤ ((4 * a2) + a3).toNatClampNeg then none else
  some (V a1 (((4 * a2) + a3).toNatClampNeg))
set_option maxHeartbeats 4000000 in
set_option maxRecDepth 100000 in
theorem E_X6_boxPart {a1 : Nat} {a2 : Int32} {a3 : Int32} {V : Mm} {res : Int32} (ha1 : isW a1) (h : eX6_boxPart a1 a2 a3 V = some res) : Ev mX6_boxPart [.ref 0, .ref a1, .int a2, .int a3] (hM V) (some (.int res)) (hM V) := by
  refine Ev.of (n := 0) oX6_boxPart.1 (Nat.le_of_ble_eq_true rfl) ?_
  unfold eX6_boxPart at h
  show Go mX6_boxPart 0 [some (.ref 0), some (.ref a1), some (.int a2), some (.int a3)] [] (hM V) 0 0 (some (.int res)) (hM V)
  refine go_aload_n (pc := 0) dX6_boxPart_0 rfl rfl ?_
  refine go_iconst (pc := 1) (v := 4) dX6_boxPart_1 ci_4 ?_
  refine go_iload_n (pc := 2) dX6_boxPart_2 rfl rfl ?_
  refine go_imul (pc := 3) dX6_boxPart_3 ?_
  refine go_iload_n (pc := 4) dX6_boxPart_4 rfl rfl ?_
  refine go_iadd (pc := 5) dX6_boxPart_5 ?_
  obtain ⟨c1, h⟩ := ok_not h
  refine go_ia (pc := 6) (v := V a1 (((4 * a2) + a3).toNatClampNeg)) (W_T ha1) (vin c1) dX6_boxPart_6 rfl ?_
  cases h
  exact go_iret (pc := 7) (Or.inl rfl) ⟨Nat.zero_le _, Nat.zero_le _⟩ dX6_boxPart_7
def eX6_mailPart (a1 : Nat) (a2 : Int32) (a3 : Int32) (V : Mm) : Option (Int32) :=
  if ((80 + (10 * a2)) + a3) < 0 ∨ 586 ≤ ((80 + (10 * a2)) + a3).toNatClampNeg then none else
  some (V a1 (((80 + (10 * a2)) + a3).toNatClampNeg))
set_option maxHeartbeats 4000000 in
set_option maxRecDepth 100000 in
theorem E_X6_mailPart {a1 : Nat} {a2 : Int32} {a3 : Int32} {V : Mm} {res : Int32} (ha1 : isW a1) (h : eX6_mailPart a1 a2 a3 V = some res) : Ev mX6_mailPart [.ref 0, .ref a1, .int a2, .int a3] (hM V) (some (.int res)) (hM V) := by
  refine Ev.of (n := 0) oX6_mailPart.1 (Nat.le_of_ble_eq_true rfl) ?_
  unfold eX6_mailPart at h
  show Go mX6_mailPart 0 [some (.ref 0), some (.ref a1), some (.int a2), some (.int a3)] [] (hM V) 0 0 (some (.int res)) (hM V)
  refine go_aload_n (pc := 0) dX6_mailPart_0 rfl rfl ?_
  refine go_bipush (pc := 1) (v := 80) dX6_mailPart_1 cb_80 ?_
  refine go_bipush (pc := 3) (v := 10) dX6_mailPart_3 cb_10 ?_
  refine go_iload_n (pc := 5) dX6_mailPart_5 rfl rfl ?_
  refine go_imul (pc := 6) dX6_mailPart_6 ?_
  refine go_iadd (pc := 7) dX6_mailPart_7 ?_
  refine go_iload_n (pc := 8) dX6_mailPart_8 rfl rfl ?_
  refine go_iadd (pc := 9) dX6_mailPart_9 ?_
  obtain ⟨c1, h⟩ := ok_not h
  refine go_ia (pc := 10) (v := V a1 (((80 + (10 * a2)) + a3).toNatClampNeg)) (W_T ha1) (vin c1) dX6_mailPart_10 rfl ?_
  cases h
  exact go_iret (pc := 11) (Or.inl rfl) ⟨Nat.zero_le _, Nat.zero_le _⟩ dX6_mailPart_11
def eX6_mailsOf_b5 : Nat → Nat → Int32 → Int32 → Int32 → Mm → Option (Int32)
  | 0, _, _, _, _, _ => none
  | n + 1, l1, l2, l3, l4, V => 
    if (V l1 581) ≤ l4 then
      some l3
    else
      (eX6_isMail l1 l4 V).bind fun r2 =>
      if r2 = 0 then
        eX6_mailsOf_b5 n l1 l2 (l3 + 0) (l4 + 1) V
      else
        (eX6_mailPart l1 l4 8 V).bind fun r5 =>
        if r5 = l2 then
          eX6_mailsOf_b5 n l1 l2 (l3 + 1) (l4 + 1) V
        else
          eX6_mailsOf_b5 n l1 l2 (l3 + 0) (l4 + 1) V
set_option maxHeartbeats 4000000 in
set_option maxRecDepth 100000 in
theorem gX6_mailsOf_b5 : ∀ (n : Nat) (l1 : Nat) (l2 : Int32) (l3 : Int32) (l4 : Int32) (V : Mm) (res : Int32) (hl1 : isW l1), eX6_mailsOf_b5 n l1 l2 l3 l4 V = some res → Go mX6_mailsOf 5 [some (.ref 0), some (.ref l1), some (.int l2), some (.int l3), some (.int l4)] [] (hM V) 0 0 (some (.int res)) (hM V) := by
  intro n
  induction n with
  | zero =>
    intro l1 l2 l3 l4 V res hl1 h
    cases h
  | succ n ih =>
    intro l1 l2 l3 l4 V res hl1 h
    rw [eX6_mailsOf_b5] at h
    refine go_iload (pc := 5) dX6_mailsOf_5 rfl ?_
    refine go_aload_n (pc := 7) dX6_mailsOf_7 rfl rfl ?_
    refine go_sipush (pc := 8) (v := 581) dX6_mailsOf_8 cs_581 ?_
    refine go_ia (pc := 11) (v := V l1 581) (W_T hl1) (vin (by decide)) dX6_mailsOf_11 rfl ?_
    refine go_icmp_ge (pc := 12) (tgt := 52) dX6_mailsOf_12 rfl (fun c1 => ?_) (fun c1 => ?_)
    · replace h := ifp h c1
      refine go_iload_n (pc := 52) dX6_mailsOf_52 rfl rfl ?_
      cases h
      exact go_iret (pc := 53) (Or.inl rfl) ⟨Nat.zero_le _, Nat.zero_le _⟩ dX6_mailsOf_53
    · replace h := ifn h c1
      refine go_iload_n (pc := 15) dX6_mailsOf_15 rfl rfl ?_
      refine go_aload_n (pc := 16) dX6_mailsOf_16 rfl rfl ?_
      refine go_aload_n (pc := 17) dX6_mailsOf_17 rfl rfl ?_
      refine go_iload (pc := 18) dX6_mailsOf_18 rfl ?_
      obtain ⟨r2, e3, h⟩ := ok_bind h
      refine go_cV (pc := 20) (ci := 6) (As := [.ref l1, .int l4]) (st := [.int l3]) (E_X6_isMail hl1 e3) rfl oX6_isMail iX6_isMail sX6_isMail kX6_81 rfl (show TM 0 = (6 + 5, 29) from rfl) rfl (Nat.le_of_ble_eq_true rfl) ⟨Nat.le_of_ble_eq_true rfl, Nat.le_of_ble_eq_true rfl⟩ ⟨rfl, rfl⟩ dX6_mailsOf_20 (st2 := [.int r2, .int l3]) rfl ?_
      refine go_if_eq (pc := 23) (tgt := 43) dX6_mailsOf_23 rfl (fun c4 => ?_) (fun c4 => ?_)
      · replace h := ifp h c4
        refine go_iconst (pc := 43) (v := 0) dX6_mailsOf_43 ci_0 ?_
        refine go_iadd (pc := 44) dX6_mailsOf_44 ?_
        refine go_istore_n (pc := 45) (i := 3) dX6_mailsOf_45 rfl (Nat.le_of_ble_eq_true rfl) (L2 := [some (.ref 0), some (.ref l1), some (.int l2), some (.int (l3 + 0)), some (.int l4)]) rfl ?_
        refine go_iinc (pc := 46) (v := (l4 + 1)) dX6_mailsOf_46 rfl (by rw [ci_1]) (Nat.le_of_ble_eq_true rfl) (L2 := [some (.ref 0), some (.ref l1), some (.int l2), some (.int (l3 + 0)), some (.int (l4 + 1))]) rfl ?_
        refine go_goto (pc := 49) (tgt := 5) dX6_mailsOf_49 rfl ?_
        exact ih _ _ _ _ _ _ hl1 h
      · replace h := ifn h c4
        refine go_aload_n (pc := 26) dX6_mailsOf_26 rfl rfl ?_
        refine go_aload_n (pc := 27) dX6_mailsOf_27 rfl rfl ?_
        refine go_iload (pc := 28) dX6_mailsOf_28 rfl ?_
        refine go_bipush (pc := 30) (v := 8) dX6_mailsOf_30 cb_8 ?_
        obtain ⟨r5, e6, h⟩ := ok_bind h
        refine go_cV (pc := 32) (ci := 6) (As := [.ref l1, .int l4, .int 8]) (st := [.int l3]) (E_X6_mailPart hl1 e6) rfl oX6_mailPart iX6_mailPart sX6_mailPart kX6_85 rfl (show TM 0 = (6 + 5, 29) from rfl) rfl (Nat.le_of_ble_eq_true rfl) ⟨Nat.le_of_ble_eq_true rfl, Nat.le_of_ble_eq_true rfl⟩ ⟨rfl, rfl⟩ dX6_mailsOf_32 (st2 := [.int r5, .int l3]) rfl ?_
        refine go_iload_n (pc := 35) dX6_mailsOf_35 rfl rfl ?_
        refine go_icmp_ne (pc := 36) (tgt := 43) dX6_mailsOf_36 rfl (fun c7 => ?_) (fun c7 => ?_)
        · replace h := ifn h c7
          refine go_iconst (pc := 43) (v := 0) dX6_mailsOf_43 ci_0 ?_
          refine go_iadd (pc := 44) dX6_mailsOf_44 ?_
          refine go_istore_n (pc := 45) (i := 3) dX6_mailsOf_45 rfl (Nat.le_of_ble_eq_true rfl) (L2 := [some (.ref 0), some (.ref l1), some (.int l2), some (.int (l3 + 0)), some (.int l4)]) rfl ?_
          refine go_iinc (pc := 46) (v := (l4 + 1)) dX6_mailsOf_46 rfl (by rw [ci_1]) (Nat.le_of_ble_eq_true rfl) (L2 := [some (.ref 0), some (.ref l1), some (.int l2), some (.int (l3 + 0)), some (.int (l4 + 1))]) rfl ?_
          refine go_goto (pc := 49) (tgt := 5) dX6_mailsOf_49 rfl ?_
          exact ih _ _ _ _ _ _ hl1 h
        · replace h := ifp h c7
          refine go_iconst (pc := 39) (v := 1) dX6_mailsOf_39 ci_1 ?_
          refine go_goto (pc := 40) (tgt := 44) dX6_mailsOf_40 rfl ?_
          refine go_iadd (pc := 44) dX6_mailsOf_44 ?_
          refine go_istore_n (pc := 45) (i := 3) dX6_mailsOf_45 rfl (Nat.le_of_ble_eq_true rfl) (L2 := [some (.ref 0), some (.ref l1), some (.int l2), some (.int (l3 + 1)), some (.int l4)]) rfl ?_
          refine go_iinc (pc := 46) (v := (l4 + 1)) dX6_mailsOf_46 rfl (by rw [ci_1]) (Nat.le_of_ble_eq_true rfl) (L2 := [some (.ref 0), some (.ref l1), some (.int l2), some (.int (l3 + 1)), some (.int (l4 + 1))]) rfl ?_
          refine go_goto (pc := 49) (tgt := 5) dX6_mailsOf_49 rfl ?_
          exact ih _ _ _ _ _ _ hl1 h
def eX6_mailsOf (a1 : Nat) (a2 : Int32) (V : Mm) : Option (Int32) :=
  eX6_mailsOf_b5 fu a1 a2 0 0 V
set_option maxHeartbeats 4000000 in
set_option maxRecDepth 100000 in
theorem E_X6_mailsOf {a1 : Nat} {a2 : Int32} {V : Mm} {res : Int32} (ha1 : isW a1) (h : eX6_mailsOf a1 a2 V = some res) : Ev mX6_mailsOf [.ref 0, .ref a1, .int a2] (hM V) (some (.int res)) (hM V) := by
  refine Ev.of (n := 2) oX6_mailsOf.1 (Nat.le_of_ble_eq_true rfl) ?_
  unfold eX6_mailsOf at h
  show Go mX6_mailsOf 0 [some (.ref 0), some (.ref a1), some (.int a2), none, none] [] (hM V) 0 0 (some (.int res)) (hM V)
  refine go_iconst (pc := 0) (v := 0) dX6_mailsOf_0 ci_0 ?_
  refine go_istore_n (pc := 1) (i := 3) dX6_mailsOf_1 rfl (Nat.le_of_ble_eq_true rfl) (L2 := [some (.ref 0), some (.ref a1), some (.int a2), some (.int 0), none]) rfl ?_
  refine go_iconst (pc := 2) (v := 0) dX6_mailsOf_2 ci_0 ?_
  refine go_istore (pc := 3) (i := 4) dX6_mailsOf_3 (Nat.le_of_ble_eq_true rfl) (L2 := [some (.ref 0), some (.ref a1), some (.int a2), some (.int 0), some (.int 0)]) rfl ?_
  exact gX6_mailsOf_b5 _ _ _ _ _ _ _ ha1 h
def eX6_isThere (a1 : Nat) (a2 : Int32) (a3 : Int32) (V : Mm) : Option (Int32) :=
  if a2 = 0 then
    (eX6_isBox a1 a3 V).bind fun r11 =>
    if r11 = 0 ∨ r11 = 1 then
      some r11
    else none
  else
    if a2 = 1 then
      (eX6_isMail a1 a3 V).bind fun r8 =>
      if r8 = 0 ∨ r8 = 1 then
        some r8
      else none
    else
      if a3 < 0 then
        some 0
      else
        if (V a1 582) ≤ a3 then
          some 0
        else
          (eX6_mailsOf a1 a3 V).bind fun r5 =>
          if r5 ≤ 0 then
            some 0
          else
            some 1
set_option maxHeartbeats 4000000 in
set_option maxRecDepth 100000 in
theorem E_X6_isThere {a1 : Nat} {a2 : Int32} {a3 : Int32} {V : Mm} {res : Int32} (ha1 : isW a1) (h : eX6_isThere a1 a2 a3 V = some res) : Ev mX6_isThere [.ref 0, .ref a1, .int a2, .int a3] (hM V) (some (.int res)) (hM V) := by
  refine Ev.of (n := 0) oX6_isThere.1 (Nat.le_of_ble_eq_true rfl) ?_
  unfold eX6_isThere at h
  show Go mX6_isThere 0 [some (.ref 0), some (.ref a1), some (.int a2), some (.int a3)] [] (hM V) 0 0 (some (.int res)) (hM V)
  refine go_iload_n (pc := 0) dX6_isThere_0 rfl rfl ?_
  refine go_if_ne (pc := 1) (tgt := 13) dX6_isThere_1 rfl (fun c1 => ?_) (fun c1 => ?_)
  · replace h := ifn h c1
    refine go_iload_n (pc := 13) dX6_isThere_13 rfl rfl ?_
    refine go_iconst (pc := 14) (v := 1) dX6_isThere_14 ci_1 ?_
    refine go_icmp_ne (pc := 15) (tgt := 27) dX6_isThere_15 rfl (fun c2 => ?_) (fun c2 => ?_)
    · replace h := ifn h c2
      refine go_iload_n (pc := 27) dX6_isThere_27 rfl rfl ?_
      refine go_if_lt (pc := 28) (tgt := 53) dX6_isThere_28 rfl (fun c3 => ?_) (fun c3 => ?_)
      · replace h := ifp h c3
        refine go_iconst (pc := 53) (v := 0) dX6_isThere_53 ci_0 ?_
        cases h
        exact go_iret (pc := 54) (Or.inr ⟨rfl, Or.inl rfl⟩) ⟨Nat.zero_le _, Nat.zero_le _⟩ dX6_isThere_54
      · replace h := ifn h c3
        refine go_iload_n (pc := 31) dX6_isThere_31 rfl rfl ?_
        refine go_aload_n (pc := 32) dX6_isThere_32 rfl rfl ?_
        refine go_sipush (pc := 33) (v := 582) dX6_isThere_33 cs_582 ?_
        refine go_ia (pc := 36) (v := V a1 582) (W_T ha1) (vin (by decide)) dX6_isThere_36 rfl ?_
        refine go_icmp_ge (pc := 37) (tgt := 53) dX6_isThere_37 rfl (fun c4 => ?_) (fun c4 => ?_)
        · replace h := ifp h c4
          refine go_iconst (pc := 53) (v := 0) dX6_isThere_53 ci_0 ?_
          cases h
          exact go_iret (pc := 54) (Or.inr ⟨rfl, Or.inl rfl⟩) ⟨Nat.zero_le _, Nat.zero_le _⟩ dX6_isThere_54
        · replace h := ifn h c4
          refine go_aload_n (pc := 40) dX6_isThere_40 rfl rfl ?_
          refine go_aload_n (pc := 41) dX6_isThere_41 rfl rfl ?_
          refine go_iload_n (pc := 42) dX6_isThere_42 rfl rfl ?_
          obtain ⟨r5, e6, h⟩ := ok_bind h
          refine go_cV (pc := 43) (ci := 6) (As := [.ref a1, .int a3]) (st := []) (E_X6_mailsOf ha1 e6) rfl oX6_mailsOf iX6_mailsOf sX6_mailsOf kX6_92 rfl (show TM 0 = (6 + 5, 29) from rfl) rfl (Nat.le_of_ble_eq_true rfl) ⟨Nat.le_of_ble_eq_true rfl, Nat.le_of_ble_eq_true rfl⟩ ⟨rfl, rfl⟩ dX6_isThere_43 (st2 := [.int r5]) rfl ?_
          refine go_if_le (pc := 46) (tgt := 53) dX6_isThere_46 rfl (fun c7 => ?_) (fun c7 => ?_)
          · replace h := ifp h c7
            refine go_iconst (pc := 53) (v := 0) dX6_isThere_53 ci_0 ?_
            cases h
            exact go_iret (pc := 54) (Or.inr ⟨rfl, Or.inl rfl⟩) ⟨Nat.zero_le _, Nat.zero_le _⟩ dX6_isThere_54
          · replace h := ifn h c7
            refine go_iconst (pc := 49) (v := 1) dX6_isThere_49 ci_1 ?_
            refine go_goto (pc := 50) (tgt := 54) dX6_isThere_50 rfl ?_
            cases h
            exact go_iret (pc := 54) (Or.inr ⟨rfl, Or.inr rfl⟩) ⟨Nat.zero_le _, Nat.zero_le _⟩ dX6_isThere_54
    · replace h := ifp h c2
      refine go_aload_n (pc := 18) dX6_isThere_18 rfl rfl ?_
      refine go_aload_n (pc := 19) dX6_isThere_19 rfl rfl ?_
      refine go_iload_n (pc := 20) dX6_isThere_20 rfl rfl ?_
      obtain ⟨r8, e9, h⟩ := ok_bind h
      refine go_cV (pc := 21) (ci := 6) (As := [.ref a1, .int a3]) (st := []) (E_X6_isMail ha1 e9) rfl oX6_isMail iX6_isMail sX6_isMail kX6_81 rfl (show TM 0 = (6 + 5, 29) from rfl) rfl (Nat.le_of_ble_eq_true rfl) ⟨Nat.le_of_ble_eq_true rfl, Nat.le_of_ble_eq_true rfl⟩ ⟨rfl, rfl⟩ dX6_isThere_21 (st2 := [.int r8]) rfl ?_
      refine go_goto (pc := 24) (tgt := 54) dX6_isThere_24 rfl ?_
      obtain ⟨c10, h⟩ := ok_if h
      cases h
      exact go_iret (pc := 54) (Or.inr ⟨rfl, c10⟩) ⟨Nat.zero_le _, Nat.zero_le _⟩ dX6_isThere_54
  · replace h := ifp h c1
    refine go_aload_n (pc := 4) dX6_isThere_4 rfl rfl ?_
    refine go_aload_n (pc := 5) dX6_isThere_5 rfl rfl ?_
    refine go_iload_n (pc := 6) dX6_isThere_6 rfl rfl ?_
    obtain ⟨r11, e12, h⟩ := ok_bind h
    refine go_cV (pc := 7) (ci := 6) (As := [.ref a1, .int a3]) (st := []) (E_X6_isBox ha1 e12) rfl oX6_isBox iX6_isBox sX6_isBox kX6_89 rfl (show TM 0 = (6 + 5, 29) from rfl) rfl (Nat.le_of_ble_eq_true rfl) ⟨Nat.le_of_ble_eq_true rfl, Nat.le_of_ble_eq_true rfl⟩ ⟨rfl, rfl⟩ dX6_isThere_7 (st2 := [.int r11]) rfl ?_
    refine go_goto (pc := 10) (tgt := 54) dX6_isThere_10 rfl ?_
    obtain ⟨c13, h⟩ := ok_if h
    cases h
    exact go_iret (pc := 54) (Or.inr ⟨rfl, c13⟩) ⟨Nat.zero_le _, Nat.zero_le _⟩ dX6_isThere_54
def eX6_deep_b5 : Nat → Nat → Int32 → Int32 → Mm → Option (Int32)
  | 0, _, _, _, _ => none
  | n + 1, l1, l3, l4, V => 
    if l4 = (-9) then
      some l3
    else
      (eX6_boxPart l1 l4 2 V).bind fun r2 =>
      eX6_deep_b5 n l1 (l3 + 1) r2 V
set_option maxHeartbeats 4000000 in
set_option maxRecDepth 100000 in
theorem gX6_deep_b5 : ∀ (n : Nat) (l1 : Nat) (l3 : Int32) (l4 : Int32) (V : Mm) (res : Int32) (hl1 : isW l1), eX6_deep_b5 n l1 l3 l4 V = some res → Go mX6_deep 5 [some (.ref 0), some (.ref l1), none, some (.int l3), some (.int l4)] [] (hM V) 0 0 (some (.int res)) (hM V) := by
  intro n
  induction n with
  | zero =>
    intro l1 l3 l4 V res hl1 h
    cases h
  | succ n ih =>
    intro l1 l3 l4 V res hl1 h
    rw [eX6_deep_b5] at h
    refine go_iload (pc := 5) dX6_deep_5 rfl ?_
    refine go_bipush (pc := 7) (v := (-9)) dX6_deep_7 cb_m9 ?_
    refine go_icmp_eq (pc := 9) (tgt := 28) dX6_deep_9 rfl (fun c1 => ?_) (fun c1 => ?_)
    · replace h := ifp h c1
      refine go_iload_n (pc := 28) dX6_deep_28 rfl rfl ?_
      cases h
      exact go_iret (pc := 29) (Or.inl rfl) ⟨Nat.zero_le _, Nat.zero_le _⟩ dX6_deep_29
    · replace h := ifn h c1
      refine go_iinc (pc := 12) (v := (l3 + 1)) dX6_deep_12 rfl (by rw [ci_1]) (Nat.le_of_ble_eq_true rfl) (L2 := [some (.ref 0), some (.ref l1), none, some (.int (l3 + 1)), some (.int l4)]) rfl ?_
      refine go_aload_n (pc := 15) dX6_deep_15 rfl rfl ?_
      refine go_aload_n (pc := 16) dX6_deep_16 rfl rfl ?_
      refine go_iload (pc := 17) dX6_deep_17 rfl ?_
      refine go_iconst (pc := 19) (v := 2) dX6_deep_19 ci_2 ?_
      obtain ⟨r2, e3, h⟩ := ok_bind h
      refine go_cV (pc := 20) (ci := 6) (As := [.ref l1, .int l4, .int 2]) (st := []) (E_X6_boxPart hl1 e3) rfl oX6_boxPart iX6_boxPart sX6_boxPart kX6_96 rfl (show TM 0 = (6 + 5, 29) from rfl) rfl (Nat.le_of_ble_eq_true rfl) ⟨Nat.le_of_ble_eq_true rfl, Nat.le_of_ble_eq_true rfl⟩ ⟨rfl, rfl⟩ dX6_deep_20 (st2 := [.int r2]) rfl ?_
      refine go_istore (pc := 23) (i := 4) dX6_deep_23 (Nat.le_of_ble_eq_true rfl) (L2 := [some (.ref 0), some (.ref l1), none, some (.int (l3 + 1)), some (.int r2)]) rfl ?_
      refine go_goto (pc := 25) (tgt := 5) dX6_deep_25 rfl ?_
      exact ih _ _ _ _ _ hl1 h
def eX6_deep (a1 : Nat) (a2 : Int32) (V : Mm) : Option (Int32) :=
  eX6_deep_b5 fu a1 0 a2 V
set_option maxHeartbeats 4000000 in
set_option maxRecDepth 100000 in
theorem E_X6_deep {a1 : Nat} {a2 : Int32} {V : Mm} {res : Int32} (ha1 : isW a1) (h : eX6_deep a1 a2 V = some res) : Ev mX6_deep [.ref 0, .ref a1, .int a2] (hM V) (some (.int res)) (hM V) := by
  refine Ev.of (n := 2) oX6_deep.1 (Nat.le_of_ble_eq_true rfl) ?_
  unfold eX6_deep at h
  show Go mX6_deep 0 [some (.ref 0), some (.ref a1), some (.int a2), none, none] [] (hM V) 0 0 (some (.int res)) (hM V)
  refine go_iconst (pc := 0) (v := 0) dX6_deep_0 ci_0 ?_
  refine go_istore_n (pc := 1) (i := 3) dX6_deep_1 rfl (Nat.le_of_ble_eq_true rfl) (L2 := [some (.ref 0), some (.ref a1), some (.int a2), some (.int 0), none]) rfl ?_
  refine go_iload_n (pc := 2) dX6_deep_2 rfl rfl ?_
  refine go_istore (pc := 3) (i := 4) dX6_deep_3 (Nat.le_of_ble_eq_true rfl) (L2 := [some (.ref 0), some (.ref a1), some (.int a2), some (.int 0), some (.int a2)]) rfl ?_
  refine go_le (lle_s (lle_s (lle_n (lle_s (lle_s lle_0))))) ?_
  exact gX6_deep_b5 _ _ _ _ _ _ ha1 h
def eX6_under_b35 (k5 : Nat → Int32 → Int32 → Int32 → Mm → Option (Int32)) : Nat → Nat → Int32 → Int32 → Int32 → Int32 → Int32 → Mm → Option (Int32)
  | 0, _, _, _, _, _, _, _ => none
  | n + 1, l1, l2, l3, l4, l5, l6, V => 
    if l6 = (-9) then
      if l6 = l2 then
        if l5 ≤ l3 then
          k5 l1 l2 l3 (l4 + 1) V
        else
          k5 l1 l2 l5 (l4 + 1) V
      else
        k5 l1 l2 l3 (l4 + 1) V
    else
      if l6 = l2 then
        if l6 = l2 then
          if l5 ≤ l3 then
            k5 l1 l2 l3 (l4 + 1) V
          else
            k5 l1 l2 l5 (l4 + 1) V
        else
          k5 l1 l2 l3 (l4 + 1) V
      else
        (eX6_boxPart l1 l6 2 V).bind fun r11 =>
        eX6_under_b35 k5 n l1 l2 l3 l4 (l5 + 1) r11 V
set_option maxHeartbeats 4000000 in
set_option maxRecDepth 100000 in
theorem gX6_under_b35 {k5 : Nat → Int32 → Int32 → Int32 → Mm → Option (Int32)} (hk5 : ∀ (l1 : Nat) (l2 : Int32) (l3 : Int32) (l4 : Int32) (V : Mm) (res : Int32) (hl1 : isW l1), k5 l1 l2 l3 l4 V = some res → Go mX6_under 5 [some (.ref 0), some (.ref l1), some (.int l2), some (.int l3), some (.int l4), none, none] [] (hM V) 0 0 (some (.int res)) (hM V)) : ∀ (n : Nat) (l1 : Nat) (l2 : Int32) (l3 : Int32) (l4 : Int32) (l5 : Int32) (l6 : Int32) (V : Mm) (res : Int32) (hl1 : isW l1), eX6_under_b35 k5 n l1 l2 l3 l4 l5 l6 V = some res → Go mX6_under 35 [some (.ref 0), some (.ref l1), some (.int l2), some (.int l3), some (.int l4), some (.int l5), some (.int l6)] [] (hM V) 0 0 (some (.int res)) (hM V) := by
  intro n
  induction n with
  | zero =>
    intro l1 l2 l3 l4 l5 l6 V res hl1 h
    cases h
  | succ n ih =>
    intro l1 l2 l3 l4 l5 l6 V res hl1 h
    rw [eX6_under_b35] at h
    refine go_iload (pc := 35) dX6_under_35 rfl ?_
    refine go_bipush (pc := 37) (v := (-9)) dX6_under_37 cb_m9 ?_
    refine go_icmp_eq (pc := 39) (tgt := 64) dX6_under_39 rfl (fun c5 => ?_) (fun c5 => ?_)
    · replace h := ifp h c5
      refine go_iload (pc := 64) dX6_under_64 rfl ?_
      refine go_iload_n (pc := 66) dX6_under_66 rfl rfl ?_
      refine go_icmp_ne (pc := 67) (tgt := 81) dX6_under_67 rfl (fun c6 => ?_) (fun c6 => ?_)
      · replace h := ifn h c6
        refine go_iload_n (pc := 81) dX6_under_81 rfl rfl ?_
        refine go_istore_n (pc := 82) (i := 3) dX6_under_82 rfl (Nat.le_of_ble_eq_true rfl) (L2 := [some (.ref 0), some (.ref l1), some (.int l2), some (.int l3), some (.int l4), some (.int l5), some (.int l6)]) rfl ?_
        refine go_iinc (pc := 83) (v := (l4 + 1)) dX6_under_83 rfl (by rw [ci_1]) (Nat.le_of_ble_eq_true rfl) (L2 := [some (.ref 0), some (.ref l1), some (.int l2), some (.int l3), some (.int (l4 + 1)), some (.int l5), some (.int l6)]) rfl ?_
        refine go_goto (pc := 86) (tgt := 5) dX6_under_86 rfl ?_
        refine go_le (lle_s (lle_s (lle_s (lle_s (lle_s (lle_n (lle_n lle_0))))))) ?_
        exact hk5 _ _ _ _ _ _ hl1 h
      · replace h := ifp h c6
        refine go_iload (pc := 70) dX6_under_70 rfl ?_
        refine go_iload_n (pc := 72) dX6_under_72 rfl rfl ?_
        refine go_icmp_le (pc := 73) (tgt := 81) dX6_under_73 rfl (fun c7 => ?_) (fun c7 => ?_)
        · replace h := ifp h c7
          refine go_iload_n (pc := 81) dX6_under_81 rfl rfl ?_
          refine go_istore_n (pc := 82) (i := 3) dX6_under_82 rfl (Nat.le_of_ble_eq_true rfl) (L2 := [some (.ref 0), some (.ref l1), some (.int l2), some (.int l3), some (.int l4), some (.int l5), some (.int l6)]) rfl ?_
          refine go_iinc (pc := 83) (v := (l4 + 1)) dX6_under_83 rfl (by rw [ci_1]) (Nat.le_of_ble_eq_true rfl) (L2 := [some (.ref 0), some (.ref l1), some (.int l2), some (.int l3), some (.int (l4 + 1)), some (.int l5), some (.int l6)]) rfl ?_
          refine go_goto (pc := 86) (tgt := 5) dX6_under_86 rfl ?_
          refine go_le (lle_s (lle_s (lle_s (lle_s (lle_s (lle_n (lle_n lle_0))))))) ?_
          exact hk5 _ _ _ _ _ _ hl1 h
        · replace h := ifn h c7
          refine go_iload (pc := 76) dX6_under_76 rfl ?_
          refine go_goto (pc := 78) (tgt := 82) dX6_under_78 rfl ?_
          refine go_istore_n (pc := 82) (i := 3) dX6_under_82 rfl (Nat.le_of_ble_eq_true rfl) (L2 := [some (.ref 0), some (.ref l1), some (.int l2), some (.int l5), some (.int l4), some (.int l5), some (.int l6)]) rfl ?_
          refine go_iinc (pc := 83) (v := (l4 + 1)) dX6_under_83 rfl (by rw [ci_1]) (Nat.le_of_ble_eq_true rfl) (L2 := [some (.ref 0), some (.ref l1), some (.int l2), some (.int l5), some (.int (l4 + 1)), some (.int l5), some (.int l6)]) rfl ?_
          refine go_goto (pc := 86) (tgt := 5) dX6_under_86 rfl ?_
          refine go_le (lle_s (lle_s (lle_s (lle_s (lle_s (lle_n (lle_n lle_0))))))) ?_
          exact hk5 _ _ _ _ _ _ hl1 h
    · replace h := ifn h c5
      refine go_iload (pc := 42) dX6_under_42 rfl ?_
      refine go_iload_n (pc := 44) dX6_under_44 rfl rfl ?_
      refine go_icmp_eq (pc := 45) (tgt := 64) dX6_under_45 rfl (fun c8 => ?_) (fun c8 => ?_)
      · replace h := ifp h c8
        refine go_iload (pc := 64) dX6_under_64 rfl ?_
        refine go_iload_n (pc := 66) dX6_under_66 rfl rfl ?_
        refine go_icmp_ne (pc := 67) (tgt := 81) dX6_under_67 rfl (fun c9 => ?_) (fun c9 => ?_)
        · replace h := ifn h c9
          refine go_iload_n (pc := 81) dX6_under_81 rfl rfl ?_
          refine go_istore_n (pc := 82) (i := 3) dX6_under_82 rfl (Nat.le_of_ble_eq_true rfl) (L2 := [some (.ref 0), some (.ref l1), some (.int l2), some (.int l3), some (.int l4), some (.int l5), some (.int l6)]) rfl ?_
          refine go_iinc (pc := 83) (v := (l4 + 1)) dX6_under_83 rfl (by rw [ci_1]) (Nat.le_of_ble_eq_true rfl) (L2 := [some (.ref 0), some (.ref l1), some (.int l2), some (.int l3), some (.int (l4 + 1)), some (.int l5), some (.int l6)]) rfl ?_
          refine go_goto (pc := 86) (tgt := 5) dX6_under_86 rfl ?_
          refine go_le (lle_s (lle_s (lle_s (lle_s (lle_s (lle_n (lle_n lle_0))))))) ?_
          exact hk5 _ _ _ _ _ _ hl1 h
        · replace h := ifp h c9
          refine go_iload (pc := 70) dX6_under_70 rfl ?_
          refine go_iload_n (pc := 72) dX6_under_72 rfl rfl ?_
          refine go_icmp_le (pc := 73) (tgt := 81) dX6_under_73 rfl (fun c10 => ?_) (fun c10 => ?_)
          · replace h := ifp h c10
            refine go_iload_n (pc := 81) dX6_under_81 rfl rfl ?_
            refine go_istore_n (pc := 82) (i := 3) dX6_under_82 rfl (Nat.le_of_ble_eq_true rfl) (L2 := [some (.ref 0), some (.ref l1), some (.int l2), some (.int l3), some (.int l4), some (.int l5), some (.int l6)]) rfl ?_
            refine go_iinc (pc := 83) (v := (l4 + 1)) dX6_under_83 rfl (by rw [ci_1]) (Nat.le_of_ble_eq_true rfl) (L2 := [some (.ref 0), some (.ref l1), some (.int l2), some (.int l3), some (.int (l4 + 1)), some (.int l5), some (.int l6)]) rfl ?_
            refine go_goto (pc := 86) (tgt := 5) dX6_under_86 rfl ?_
            refine go_le (lle_s (lle_s (lle_s (lle_s (lle_s (lle_n (lle_n lle_0))))))) ?_
            exact hk5 _ _ _ _ _ _ hl1 h
          · replace h := ifn h c10
            refine go_iload (pc := 76) dX6_under_76 rfl ?_
            refine go_goto (pc := 78) (tgt := 82) dX6_under_78 rfl ?_
            refine go_istore_n (pc := 82) (i := 3) dX6_under_82 rfl (Nat.le_of_ble_eq_true rfl) (L2 := [some (.ref 0), some (.ref l1), some (.int l2), some (.int l5), some (.int l4), some (.int l5), some (.int l6)]) rfl ?_
            refine go_iinc (pc := 83) (v := (l4 + 1)) dX6_under_83 rfl (by rw [ci_1]) (Nat.le_of_ble_eq_true rfl) (L2 := [some (.ref 0), some (.ref l1), some (.int l2), some (.int l5), some (.int (l4 + 1)), some (.int l5), some (.int l6)]) rfl ?_
            refine go_goto (pc := 86) (tgt := 5) dX6_under_86 rfl ?_
            refine go_le (lle_s (lle_s (lle_s (lle_s (lle_s (lle_n (lle_n lle_0))))))) ?_
            exact hk5 _ _ _ _ _ _ hl1 h
      · replace h := ifn h c8
        refine go_aload_n (pc := 48) dX6_under_48 rfl rfl ?_
        refine go_aload_n (pc := 49) dX6_under_49 rfl rfl ?_
        refine go_iload (pc := 50) dX6_under_50 rfl ?_
        refine go_iconst (pc := 52) (v := 2) dX6_under_52 ci_2 ?_
        obtain ⟨r11, e12, h⟩ := ok_bind h
        refine go_cV (pc := 53) (ci := 6) (As := [.ref l1, .int l6, .int 2]) (st := []) (E_X6_boxPart hl1 e12) rfl oX6_boxPart iX6_boxPart sX6_boxPart kX6_96 rfl (show TM 0 = (6 + 5, 29) from rfl) rfl (Nat.le_of_ble_eq_true rfl) ⟨Nat.le_of_ble_eq_true rfl, Nat.le_of_ble_eq_true rfl⟩ ⟨rfl, rfl⟩ dX6_under_53 (st2 := [.int r11]) rfl ?_
        refine go_istore (pc := 56) (i := 6) dX6_under_56 (Nat.le_of_ble_eq_true rfl) (L2 := [some (.ref 0), some (.ref l1), some (.int l2), some (.int l3), some (.int l4), some (.int l5), some (.int r11)]) rfl ?_
        refine go_iinc (pc := 58) (v := (l5 + 1)) dX6_under_58 rfl (by rw [ci_1]) (Nat.le_of_ble_eq_true rfl) (L2 := [some (.ref 0), some (.ref l1), some (.int l2), some (.int l3), some (.int l4), some (.int (l5 + 1)), some (.int r11)]) rfl ?_
        refine go_goto (pc := 61) (tgt := 35) dX6_under_61 rfl ?_
        exact ih _ _ _ _ _ _ _ _ hl1 h
def eX6_under_b5 : Nat → Nat → Int32 → Int32 → Int32 → Mm → Option (Int32)
  | 0, _, _, _, _, _ => none
  | n + 1, l1, l2, l3, l4, V => 
    if (V l1 580) ≤ l4 then
      some l3
    else
      (eX6_isBox l1 l4 V).bind fun r2 =>
      if r2 = 0 then
        eX6_under_b5 n l1 l2 l3 (l4 + 1) V
      else
        eX6_under_b35 (fun l1 l2 l3 l4 V => eX6_under_b5 n l1 l2 l3 l4 V) fu l1 l2 l3 l4 0 l4 V
set_option maxHeartbeats 4000000 in
set_option maxRecDepth 100000 in
theorem gX6_under_b5 : ∀ (n : Nat) (l1 : Nat) (l2 : Int32) (l3 : Int32) (l4 : Int32) (V : Mm) (res : Int32) (hl1 : isW l1), eX6_under_b5 n l1 l2 l3 l4 V = some res → Go mX6_under 5 [some (.ref 0), some (.ref l1), some (.int l2), some (.int l3), some (.int l4), none, none] [] (hM V) 0 0 (some (.int res)) (hM V) := by
  intro n
  induction n with
  | zero =>
    intro l1 l2 l3 l4 V res hl1 h
    cases h
  | succ n ih =>
    intro l1 l2 l3 l4 V res hl1 h
    rw [eX6_under_b5] at h
    refine go_iload (pc := 5) dX6_under_5 rfl ?_
    refine go_aload_n (pc := 7) dX6_under_7 rfl rfl ?_
    refine go_sipush (pc := 8) (v := 580) dX6_under_8 cs_580 ?_
    refine go_ia (pc := 11) (v := V l1 580) (W_T hl1) (vin (by decide)) dX6_under_11 rfl ?_
    refine go_icmp_ge (pc := 12) (tgt := 89) dX6_under_12 rfl (fun c1 => ?_) (fun c1 => ?_)
    · replace h := ifp h c1
      refine go_iload_n (pc := 89) dX6_under_89 rfl rfl ?_
      cases h
      exact go_iret (pc := 90) (Or.inl rfl) ⟨Nat.zero_le _, Nat.zero_le _⟩ dX6_under_90
    · replace h := ifn h c1
      refine go_aload_n (pc := 15) dX6_under_15 rfl rfl ?_
      refine go_aload_n (pc := 16) dX6_under_16 rfl rfl ?_
      refine go_iload (pc := 17) dX6_under_17 rfl ?_
      obtain ⟨r2, e3, h⟩ := ok_bind h
      refine go_cV (pc := 19) (ci := 6) (As := [.ref l1, .int l4]) (st := []) (E_X6_isBox hl1 e3) rfl oX6_isBox iX6_isBox sX6_isBox kX6_89 rfl (show TM 0 = (6 + 5, 29) from rfl) rfl (Nat.le_of_ble_eq_true rfl) ⟨Nat.le_of_ble_eq_true rfl, Nat.le_of_ble_eq_true rfl⟩ ⟨rfl, rfl⟩ dX6_under_19 (st2 := [.int r2]) rfl ?_
      refine go_if_ne (pc := 22) (tgt := 28) dX6_under_22 rfl (fun c4 => ?_) (fun c4 => ?_)
      · replace h := ifn h c4
        refine go_iconst (pc := 28) (v := 0) dX6_under_28 ci_0 ?_
        refine go_istore (pc := 29) (i := 5) dX6_under_29 (Nat.le_of_ble_eq_true rfl) (L2 := [some (.ref 0), some (.ref l1), some (.int l2), some (.int l3), some (.int l4), some (.int 0), none]) rfl ?_
        refine go_iload (pc := 31) dX6_under_31 rfl ?_
        refine go_istore (pc := 33) (i := 6) dX6_under_33 (Nat.le_of_ble_eq_true rfl) (L2 := [some (.ref 0), some (.ref l1), some (.int l2), some (.int l3), some (.int l4), some (.int 0), some (.int l4)]) rfl ?_
        exact gX6_under_b35 ih _ _ _ _ _ _ _ _ _ hl1 h
      · replace h := ifp h c4
        refine go_goto (pc := 25) (tgt := 83) dX6_under_25 rfl ?_
        refine go_iinc (pc := 83) (v := (l4 + 1)) dX6_under_83 rfl (by rw [ci_1]) (Nat.le_of_ble_eq_true rfl) (L2 := [some (.ref 0), some (.ref l1), some (.int l2), some (.int l3), some (.int (l4 + 1)), none, none]) rfl ?_
        refine go_goto (pc := 86) (tgt := 5) dX6_under_86 rfl ?_
        exact ih _ _ _ _ _ _ hl1 h
def eX6_under (a1 : Nat) (a2 : Int32) (V : Mm) : Option (Int32) :=
  eX6_under_b5 fu a1 a2 0 0 V
set_option maxHeartbeats 4000000 in
set_option maxRecDepth 100000 in
theorem E_X6_under {a1 : Nat} {a2 : Int32} {V : Mm} {res : Int32} (ha1 : isW a1) (h : eX6_under a1 a2 V = some res) : Ev mX6_under [.ref 0, .ref a1, .int a2] (hM V) (some (.int res)) (hM V) := by
  refine Ev.of (n := 4) oX6_under.1 (Nat.le_of_ble_eq_true rfl) ?_
  unfold eX6_under at h
  show Go mX6_under 0 [some (.ref 0), some (.ref a1), some (.int a2), none, none, none, none] [] (hM V) 0 0 (some (.int res)) (hM V)
  refine go_iconst (pc := 0) (v := 0) dX6_under_0 ci_0 ?_
  refine go_istore_n (pc := 1) (i := 3) dX6_under_1 rfl (Nat.le_of_ble_eq_true rfl) (L2 := [some (.ref 0), some (.ref a1), some (.int a2), some (.int 0), none, none, none]) rfl ?_
  refine go_iconst (pc := 2) (v := 0) dX6_under_2 ci_0 ?_
  refine go_istore (pc := 3) (i := 4) dX6_under_3 (Nat.le_of_ble_eq_true rfl) (L2 := [some (.ref 0), some (.ref a1), some (.int a2), some (.int 0), some (.int 0), none, none]) rfl ?_
  exact gX6_under_b5 _ _ _ _ _ _ _ ha1 h
def eX6_isNamed_b6 : Nat → Nat → Int32 → Int32 → Int32 → Int32 → Int32 → Mm → Option (Int32)
  | 0, _, _, _, _, _, _, _ => none
  | n + 1, l1, l2, l3, l4, l5, l6, V => 
    if (V l1 580) ≤ l6 then
      if l5 = 0 ∨ l5 = 1 then
        some l5
      else none
    else
      if l6 = l2 then
        eX6_isNamed_b6 n l1 l2 l3 l4 (l5 ||| 0) (l6 + 1) V
      else
        (eX6_isBox l1 l6 V).bind fun r4 =>
        if r4 = 0 then
          eX6_isNamed_b6 n l1 l2 l3 l4 (l5 ||| 0) (l6 + 1) V
        else
          (eX6_boxPart l1 l6 2 V).bind fun r7 =>
          if r7 = l3 then
            (eX6_boxPart l1 l6 1 V).bind fun r10 =>
            if r10 = l4 then
              eX6_isNamed_b6 n l1 l2 l3 l4 (l5 ||| 1) (l6 + 1) V
            else
              eX6_isNamed_b6 n l1 l2 l3 l4 (l5 ||| 0) (l6 + 1) V
          else
            eX6_isNamed_b6 n l1 l2 l3 l4 (l5 ||| 0) (l6 + 1) V
set_option maxHeartbeats 4000000 in
set_option maxRecDepth 100000 in
theorem gX6_isNamed_b6 : ∀ (n : Nat) (l1 : Nat) (l2 : Int32) (l3 : Int32) (l4 : Int32) (l5 : Int32) (l6 : Int32) (V : Mm) (res : Int32) (hl1 : isW l1), eX6_isNamed_b6 n l1 l2 l3 l4 l5 l6 V = some res → Go mX6_isNamed 6 [some (.ref 0), some (.ref l1), some (.int l2), some (.int l3), some (.int l4), some (.int l5), some (.int l6)] [] (hM V) 0 0 (some (.int res)) (hM V) := by
  intro n
  induction n with
  | zero =>
    intro l1 l2 l3 l4 l5 l6 V res hl1 h
    cases h
  | succ n ih =>
    intro l1 l2 l3 l4 l5 l6 V res hl1 h
    rw [eX6_isNamed_b6] at h
    refine go_iload (pc := 6) dX6_isNamed_6 rfl ?_
    refine go_aload_n (pc := 8) dX6_isNamed_8 rfl rfl ?_
    refine go_sipush (pc := 9) (v := 580) dX6_isNamed_9 cs_580 ?_
    refine go_ia (pc := 12) (v := V l1 580) (W_T hl1) (vin (by decide)) dX6_isNamed_12 rfl ?_
    refine go_icmp_ge (pc := 13) (tgt := 73) dX6_isNamed_13 rfl (fun c1 => ?_) (fun c1 => ?_)
    · replace h := ifp h c1
      refine go_iload (pc := 73) dX6_isNamed_73 rfl ?_
      obtain ⟨c2, h⟩ := ok_if h
      cases h
      exact go_iret (pc := 75) (Or.inr ⟨rfl, c2⟩) ⟨Nat.zero_le _, Nat.zero_le _⟩ dX6_isNamed_75
    · replace h := ifn h c1
      refine go_iload (pc := 16) dX6_isNamed_16 rfl ?_
      refine go_iload (pc := 18) dX6_isNamed_18 rfl ?_
      refine go_iload_n (pc := 20) dX6_isNamed_20 rfl rfl ?_
      refine go_icmp_eq (pc := 21) (tgt := 63) dX6_isNamed_21 rfl (fun c3 => ?_) (fun c3 => ?_)
      · replace h := ifp h c3
        refine go_iconst (pc := 63) (v := 0) dX6_isNamed_63 ci_0 ?_
        refine go_ior (pc := 64) dX6_isNamed_64 ?_
        refine go_istore (pc := 65) (i := 5) dX6_isNamed_65 (Nat.le_of_ble_eq_true rfl) (L2 := [some (.ref 0), some (.ref l1), some (.int l2), some (.int l3), some (.int l4), some (.int (l5 ||| 0)), some (.int l6)]) rfl ?_
        refine go_iinc (pc := 67) (v := (l6 + 1)) dX6_isNamed_67 rfl (by rw [ci_1]) (Nat.le_of_ble_eq_true rfl) (L2 := [some (.ref 0), some (.ref l1), some (.int l2), some (.int l3), some (.int l4), some (.int (l5 ||| 0)), some (.int (l6 + 1))]) rfl ?_
        refine go_goto (pc := 70) (tgt := 6) dX6_isNamed_70 rfl ?_
        exact ih _ _ _ _ _ _ _ _ hl1 h
      · replace h := ifn h c3
        refine go_aload_n (pc := 24) dX6_isNamed_24 rfl rfl ?_
        refine go_aload_n (pc := 25) dX6_isNamed_25 rfl rfl ?_
        refine go_iload (pc := 26) dX6_isNamed_26 rfl ?_
        obtain ⟨r4, e5, h⟩ := ok_bind h
        refine go_cV (pc := 28) (ci := 6) (As := [.ref l1, .int l6]) (st := [.int l5]) (E_X6_isBox hl1 e5) rfl oX6_isBox iX6_isBox sX6_isBox kX6_89 rfl (show TM 0 = (6 + 5, 29) from rfl) rfl (Nat.le_of_ble_eq_true rfl) ⟨Nat.le_of_ble_eq_true rfl, Nat.le_of_ble_eq_true rfl⟩ ⟨rfl, rfl⟩ dX6_isNamed_28 (st2 := [.int r4, .int l5]) rfl ?_
        refine go_if_eq (pc := 31) (tgt := 63) dX6_isNamed_31 rfl (fun c6 => ?_) (fun c6 => ?_)
        · replace h := ifp h c6
          refine go_iconst (pc := 63) (v := 0) dX6_isNamed_63 ci_0 ?_
          refine go_ior (pc := 64) dX6_isNamed_64 ?_
          refine go_istore (pc := 65) (i := 5) dX6_isNamed_65 (Nat.le_of_ble_eq_true rfl) (L2 := [some (.ref 0), some (.ref l1), some (.int l2), some (.int l3), some (.int l4), some (.int (l5 ||| 0)), some (.int l6)]) rfl ?_
          refine go_iinc (pc := 67) (v := (l6 + 1)) dX6_isNamed_67 rfl (by rw [ci_1]) (Nat.le_of_ble_eq_true rfl) (L2 := [some (.ref 0), some (.ref l1), some (.int l2), some (.int l3), some (.int l4), some (.int (l5 ||| 0)), some (.int (l6 + 1))]) rfl ?_
          refine go_goto (pc := 70) (tgt := 6) dX6_isNamed_70 rfl ?_
          exact ih _ _ _ _ _ _ _ _ hl1 h
        · replace h := ifn h c6
          refine go_aload_n (pc := 34) dX6_isNamed_34 rfl rfl ?_
          refine go_aload_n (pc := 35) dX6_isNamed_35 rfl rfl ?_
          refine go_iload (pc := 36) dX6_isNamed_36 rfl ?_
          refine go_iconst (pc := 38) (v := 2) dX6_isNamed_38 ci_2 ?_
          obtain ⟨r7, e8, h⟩ := ok_bind h
          refine go_cV (pc := 39) (ci := 6) (As := [.ref l1, .int l6, .int 2]) (st := [.int l5]) (E_X6_boxPart hl1 e8) rfl oX6_boxPart iX6_boxPart sX6_boxPart kX6_96 rfl (show TM 0 = (6 + 5, 29) from rfl) rfl (Nat.le_of_ble_eq_true rfl) ⟨Nat.le_of_ble_eq_true rfl, Nat.le_of_ble_eq_true rfl⟩ ⟨rfl, rfl⟩ dX6_isNamed_39 (st2 := [.int r7, .int l5]) rfl ?_
          refine go_iload_n (pc := 42) dX6_isNamed_42 rfl rfl ?_
          refine go_icmp_ne (pc := 43) (tgt := 63) dX6_isNamed_43 rfl (fun c9 => ?_) (fun c9 => ?_)
          · replace h := ifn h c9
            refine go_iconst (pc := 63) (v := 0) dX6_isNamed_63 ci_0 ?_
            refine go_ior (pc := 64) dX6_isNamed_64 ?_
            refine go_istore (pc := 65) (i := 5) dX6_isNamed_65 (Nat.le_of_ble_eq_true rfl) (L2 := [some (.ref 0), some (.ref l1), some (.int l2), some (.int l3), some (.int l4), some (.int (l5 ||| 0)), some (.int l6)]) rfl ?_
            refine go_iinc (pc := 67) (v := (l6 + 1)) dX6_isNamed_67 rfl (by rw [ci_1]) (Nat.le_of_ble_eq_true rfl) (L2 := [some (.ref 0), some (.ref l1), some (.int l2), some (.int l3), some (.int l4), some (.int (l5 ||| 0)), some (.int (l6 + 1))]) rfl ?_
            refine go_goto (pc := 70) (tgt := 6) dX6_isNamed_70 rfl ?_
            exact ih _ _ _ _ _ _ _ _ hl1 h
          · replace h := ifp h c9
            refine go_aload_n (pc := 46) dX6_isNamed_46 rfl rfl ?_
            refine go_aload_n (pc := 47) dX6_isNamed_47 rfl rfl ?_
            refine go_iload (pc := 48) dX6_isNamed_48 rfl ?_
            refine go_iconst (pc := 50) (v := 1) dX6_isNamed_50 ci_1 ?_
            obtain ⟨r10, e11, h⟩ := ok_bind h
            refine go_cV (pc := 51) (ci := 6) (As := [.ref l1, .int l6, .int 1]) (st := [.int l5]) (E_X6_boxPart hl1 e11) rfl oX6_boxPart iX6_boxPart sX6_boxPart kX6_96 rfl (show TM 0 = (6 + 5, 29) from rfl) rfl (Nat.le_of_ble_eq_true rfl) ⟨Nat.le_of_ble_eq_true rfl, Nat.le_of_ble_eq_true rfl⟩ ⟨rfl, rfl⟩ dX6_isNamed_51 (st2 := [.int r10, .int l5]) rfl ?_
            refine go_iload (pc := 54) dX6_isNamed_54 rfl ?_
            refine go_icmp_ne (pc := 56) (tgt := 63) dX6_isNamed_56 rfl (fun c12 => ?_) (fun c12 => ?_)
            · replace h := ifn h c12
              refine go_iconst (pc := 63) (v := 0) dX6_isNamed_63 ci_0 ?_
              refine go_ior (pc := 64) dX6_isNamed_64 ?_
              refine go_istore (pc := 65) (i := 5) dX6_isNamed_65 (Nat.le_of_ble_eq_true rfl) (L2 := [some (.ref 0), some (.ref l1), some (.int l2), some (.int l3), some (.int l4), some (.int (l5 ||| 0)), some (.int l6)]) rfl ?_
              refine go_iinc (pc := 67) (v := (l6 + 1)) dX6_isNamed_67 rfl (by rw [ci_1]) (Nat.le_of_ble_eq_true rfl) (L2 := [some (.ref 0), some (.ref l1), some (.int l2), some (.int l3), some (.int l4), some (.int (l5 ||| 0)), some (.int (l6 + 1))]) rfl ?_
              refine go_goto (pc := 70) (tgt := 6) dX6_isNamed_70 rfl ?_
              exact ih _ _ _ _ _ _ _ _ hl1 h
            · replace h := ifp h c12
              refine go_iconst (pc := 59) (v := 1) dX6_isNamed_59 ci_1 ?_
              refine go_goto (pc := 60) (tgt := 64) dX6_isNamed_60 rfl ?_
              refine go_ior (pc := 64) dX6_isNamed_64 ?_
              refine go_istore (pc := 65) (i := 5) dX6_isNamed_65 (Nat.le_of_ble_eq_true rfl) (L2 := [some (.ref 0), some (.ref l1), some (.int l2), some (.int l3), some (.int l4), some (.int (l5 ||| 1)), some (.int l6)]) rfl ?_
              refine go_iinc (pc := 67) (v := (l6 + 1)) dX6_isNamed_67 rfl (by rw [ci_1]) (Nat.le_of_ble_eq_true rfl) (L2 := [some (.ref 0), some (.ref l1), some (.int l2), some (.int l3), some (.int l4), some (.int (l5 ||| 1)), some (.int (l6 + 1))]) rfl ?_
              refine go_goto (pc := 70) (tgt := 6) dX6_isNamed_70 rfl ?_
              exact ih _ _ _ _ _ _ _ _ hl1 h
def eX6_isNamed (a1 : Nat) (a2 : Int32) (a3 : Int32) (a4 : Int32) (V : Mm) : Option (Int32) :=
  eX6_isNamed_b6 fu a1 a2 a3 a4 0 0 V
set_option maxHeartbeats 4000000 in
set_option maxRecDepth 100000 in
theorem E_X6_isNamed {a1 : Nat} {a2 : Int32} {a3 : Int32} {a4 : Int32} {V : Mm} {res : Int32} (ha1 : isW a1) (h : eX6_isNamed a1 a2 a3 a4 V = some res) : Ev mX6_isNamed [.ref 0, .ref a1, .int a2, .int a3, .int a4] (hM V) (some (.int res)) (hM V) := by
  refine Ev.of (n := 2) oX6_isNamed.1 (Nat.le_of_ble_eq_true rfl) ?_
  unfold eX6_isNamed at h
  show Go mX6_isNamed 0 [some (.ref 0), some (.ref a1), some (.int a2), some (.int a3), some (.int a4), none, none] [] (hM V) 0 0 (some (.int res)) (hM V)
  refine go_iconst (pc := 0) (v := 0) dX6_isNamed_0 ci_0 ?_
  refine go_istore (pc := 1) (i := 5) dX6_isNamed_1 (Nat.le_of_ble_eq_true rfl) (L2 := [some (.ref 0), some (.ref a1), some (.int a2), some (.int a3), some (.int a4), some (.int 0), none]) rfl ?_
  refine go_iconst (pc := 3) (v := 0) dX6_isNamed_3 ci_0 ?_
  refine go_istore (pc := 4) (i := 6) dX6_isNamed_4 (Nat.le_of_ble_eq_true rfl) (L2 := [some (.ref 0), some (.ref a1), some (.int a2), some (.int a3), some (.int a4), some (.int 0), some (.int 0)]) rfl ?_
  exact gX6_isNamed_b6 _ _ _ _ _ _ _ _ _ ha1 h
def eX6_draft (a1 : Int32) (a2 : Int32) (V : Mm) : Option (Int32 × Mm) :=
  (eX6_within a1 0 9 V).bind fun r1 =>
  if r1 = 0 then
    some ((-1), V)
  else
    if a1 < 0 ∨ 10 ≤ a1.toNatClampNeg then none else
    if a1 < 0 ∨ 10 ≤ a1.toNatClampNeg then none else
    some (V 4 a1.toNatClampNeg, (wr V 4 a1.toNatClampNeg a2))
set_option maxHeartbeats 4000000 in
set_option maxRecDepth 100000 in
theorem E_X6_draft {a1 : Int32} {a2 : Int32} {V : Mm} {res : Int32 × Mm}  (h : eX6_draft a1 a2 V = some res) : Ev mX6_draft [.ref 0, .int a1, .int a2] (hM V) (some (.int res.1)) (hM res.2) := by
  refine Ev.of (n := 1) oX6_draft.1 (Nat.le_of_ble_eq_true rfl) ?_
  unfold eX6_draft at h
  show Go mX6_draft 0 [some (.ref 0), some (.int a1), some (.int a2), none] [] (hM V) 0 0 (some (.int res.1)) (hM res.2)
  refine go_iload_n (pc := 0) dX6_draft_0 rfl rfl ?_
  refine go_iconst (pc := 1) (v := 0) dX6_draft_1 ci_0 ?_
  refine go_bipush (pc := 2) (v := 9) dX6_draft_2 cb_9 ?_
  obtain ⟨r1, e2, h⟩ := ok_bind h
  refine go_cS (pc := 4) (As := [.int a1, .int 0, .int 9]) (st := []) (E_X6_within e2) rfl oX6_within iX6_within kX6_99 rfl (Nat.le_of_ble_eq_true rfl) ⟨Nat.le_of_ble_eq_true rfl, Nat.le_of_ble_eq_true rfl⟩ ⟨rfl, rfl⟩ dX6_draft_4 (st2 := [.int r1]) rfl ?_
  refine go_if_ne (pc := 7) (tgt := 12) dX6_draft_7 rfl (fun c3 => ?_) (fun c3 => ?_)
  · replace h := ifn h c3
    refine go_aload_n (pc := 12) dX6_draft_12 rfl rfl ?_
    refine go_getP (pc := 13) (a := 4) fX6_19 (by decide) (show TM 0 = (6 + 5, 29) from rfl) rfl dX6_draft_13 ?_
    refine go_iload_n (pc := 16) dX6_draft_16 rfl rfl ?_
    obtain ⟨c4, h⟩ := ok_not h
    refine go_ia (pc := 17) (v := V 4 a1.toNatClampNeg) (show TM 4 = (0, 10) from rfl) (vin c4) dX6_draft_17 rfl ?_
    refine go_istore_n (pc := 18) (i := 3) dX6_draft_18 rfl (Nat.le_of_ble_eq_true rfl) (L2 := [some (.ref 0), some (.int a1), some (.int a2), some (.int (V 4 a1.toNatClampNeg))]) rfl ?_
    refine go_aload_n (pc := 19) dX6_draft_19 rfl rfl ?_
    refine go_getP (pc := 20) (a := 4) fX6_19 (by decide) (show TM 0 = (6 + 5, 29) from rfl) rfl dX6_draft_20 ?_
    refine go_iload_n (pc := 23) dX6_draft_23 rfl rfl ?_
    refine go_iload_n (pc := 24) dX6_draft_24 rfl rfl ?_
    obtain ⟨c5, h⟩ := ok_not h
    refine go_iast (pc := 25) (show TM 4 = (0, 10) from rfl) (vin c5) dX6_draft_25 ?_
    refine go_iload_n (pc := 26) dX6_draft_26 rfl rfl ?_
    cases h
    exact go_iret (pc := 27) (Or.inl rfl) ⟨Nat.zero_le _, Nat.zero_le _⟩ dX6_draft_27
  · replace h := ifp h c3
    refine go_iconst (pc := 10) (v := (-1)) dX6_draft_10 ci_m1 ?_
    cases h
    exact go_iret (pc := 11) (Or.inl rfl) ⟨Nat.zero_le _, Nat.zero_le _⟩ dX6_draft_11
def eX6_comes_b96 : Nat → Int32 → Mm → Option (Int32 × Mm)
  | 0, _, _ => none
  | n + 1, l7, V => 
    if 10 ≤ l7 then
      some ((((V 0 4) + 1) - 1), (wr V 0 4 ((V 0 4) + 1)))
    else
      if l7 < 0 ∨ 10 ≤ l7.toNatClampNeg then none else
      if ((10 * (V 0 4)) + l7) < 0 ∨ 120 ≤ ((10 * (V 0 4)) + l7).toNatClampNeg then none else
      eX6_comes_b96 n (l7 + 1) (wr V 7 (((10 * (V 0 4)) + l7).toNatClampNeg) (V 4 l7.toNatClampNeg))
set_option maxHeartbeats 4000000 in
set_option maxRecDepth 100000 in
theorem gX6_comes_b96 : ∀ (n : Nat) (l7 : Int32) (V : Mm) (res : Int32 × Mm) , eX6_comes_b96 n l7 V = some res → Go mX6_comes 96 [some (.ref 0), none, none, none, none, none, none, some (.int l7)] [] (hM V) 0 0 (some (.int res.1)) (hM res.2) := by
  intro n
  induction n with
  | zero =>
    intro l7 V res  h
    cases h
  | succ n ih =>
    intro l7 V res  h
    rw [eX6_comes_b96] at h
    refine go_iload (pc := 96) dX6_comes_96 rfl ?_
    refine go_bipush (pc := 98) (v := 10) dX6_comes_98 cb_10 ?_
    refine go_icmp_ge (pc := 100) (tgt := 131) dX6_comes_100 rfl (fun c8 => ?_) (fun c8 => ?_)
    · replace h := ifp h c8
      refine go_aload_n (pc := 131) dX6_comes_131 rfl rfl ?_
      refine go_dup (pc := 132) dX6_comes_132 ?_
      refine go_gI (pc := 133) (v := V 0 4) fX6_103 (by decide) (show TM 0 = (6 + 5, 29) from rfl) dX6_comes_133 rfl ?_
      refine go_iconst (pc := 136) (v := 1) dX6_comes_136 ci_1 ?_
      refine go_iadd (pc := 137) dX6_comes_137 ?_
      refine go_putI (pc := 138) (k := 4) fX6_103 (Or.inl rfl) (Or.inl rfl) (show TM 0 = (6 + 5, 29) from rfl) dX6_comes_138 ?_
      refine go_aload_n (pc := 141) dX6_comes_141 rfl rfl ?_
      refine go_gI (pc := 142) (v := ((V 0 4) + 1)) fX6_103 (by decide) (show TM 0 = (6 + 5, 29) from rfl) dX6_comes_142 rfl ?_
      refine go_iconst (pc := 145) (v := 1) dX6_comes_145 ci_1 ?_
      refine go_isub (pc := 146) dX6_comes_146 ?_
      cases h
      exact go_iret (pc := 147) (Or.inl rfl) ⟨Nat.zero_le _, Nat.zero_le _⟩ dX6_comes_147
    · replace h := ifn h c8
      refine go_aload_n (pc := 103) dX6_comes_103 rfl rfl ?_
      refine go_getP (pc := 104) (a := 7) fX6_28 (by decide) (show TM 0 = (6 + 5, 29) from rfl) rfl dX6_comes_104 ?_
      refine go_bipush (pc := 107) (v := 10) dX6_comes_107 cb_10 ?_
      refine go_aload_n (pc := 109) dX6_comes_109 rfl rfl ?_
      refine go_gI (pc := 110) (v := V 0 4) fX6_103 (by decide) (show TM 0 = (6 + 5, 29) from rfl) dX6_comes_110 rfl ?_
      refine go_imul (pc := 113) dX6_comes_113 ?_
      refine go_iload (pc := 114) dX6_comes_114 rfl ?_
      refine go_iadd (pc := 116) dX6_comes_116 ?_
      refine go_aload_n (pc := 117) dX6_comes_117 rfl rfl ?_
      refine go_getP (pc := 118) (a := 4) fX6_19 (by decide) (show TM 0 = (6 + 5, 29) from rfl) rfl dX6_comes_118 ?_
      refine go_iload (pc := 121) dX6_comes_121 rfl ?_
      obtain ⟨c9, h⟩ := ok_not h
      refine go_ia (pc := 123) (v := V 4 l7.toNatClampNeg) (show TM 4 = (0, 10) from rfl) (vin c9) dX6_comes_123 rfl ?_
      obtain ⟨c10, h⟩ := ok_not h
      refine go_iast (pc := 124) (show TM 7 = (0, 120) from rfl) (vin c10) dX6_comes_124 ?_
      refine go_iinc (pc := 125) (v := (l7 + 1)) dX6_comes_125 rfl (by rw [ci_1]) (Nat.le_of_ble_eq_true rfl) (L2 := [some (.ref 0), none, none, none, none, none, none, some (.int (l7 + 1))]) rfl ?_
      refine go_goto (pc := 128) (tgt := 96) dX6_comes_128 rfl ?_
      exact ih _ _ _  h
def eX6_comes (a1 : Int32) (a2 : Int32) (a3 : Int32) (a4 : Int32) (a5 : Int32) (a6 : Int32) (V : Mm) : Option (Int32 × Mm) :=
  if (V 0 4) = 12 then
    some ((-4), V)
  else
    if V 0 4 < 0 ∨ 12 ≤ (V 0 4).toNatClampNeg then none else
    if (5 * (V 0 4)) < 0 ∨ 60 ≤ (5 * (V 0 4)).toNatClampNeg then none else
    if ((5 * (V 0 4)) + 1) < 0 ∨ 60 ≤ ((5 * (V 0 4)) + 1).toNatClampNeg then none else
    if ((5 * (V 0 4)) + 2) < 0 ∨ 60 ≤ ((5 * (V 0 4)) + 2).toNatClampNeg then none else
    if ((5 * (V 0 4)) + 3) < 0 ∨ 60 ≤ ((5 * (V 0 4)) + 3).toNatClampNeg then none else
    if ((5 * (V 0 4)) + 4) < 0 ∨ 60 ≤ ((5 * (V 0 4)) + 4).toNatClampNeg then none else
    eX6_comes_b96 fu 0 (wr (wr (wr (wr (wr (wr V 5 ((V 0 4).toNatClampNeg) a1) 6 ((5 * (V 0 4)).toNatClampNeg) a2) 6 (((5 * (V 0 4)) + 1).toNatClampNeg) a3) 6 (((5 * (V 0 4)) + 2).toNatClampNeg) a4) 6 (((5 * (V 0 4)) + 3).toNatClampNeg) a5) 6 (((5 * (V 0 4)) + 4).toNatClampNeg) a6)
set_option maxHeartbeats 4000000 in
set_option maxRecDepth 100000 in
theorem E_X6_comes {a1 : Int32} {a2 : Int32} {a3 : Int32} {a4 : Int32} {a5 : Int32} {a6 : Int32} {V : Mm} {res : Int32 × Mm}  (h : eX6_comes a1 a2 a3 a4 a5 a6 V = some res) : Ev mX6_comes [.ref 0, .int a1, .int a2, .int a3, .int a4, .int a5, .int a6] (hM V) (some (.int res.1)) (hM res.2) := by
  refine Ev.of (n := 1) oX6_comes.1 (Nat.le_of_ble_eq_true rfl) ?_
  unfold eX6_comes at h
  show Go mX6_comes 0 [some (.ref 0), some (.int a1), some (.int a2), some (.int a3), some (.int a4), some (.int a5), some (.int a6), none] [] (hM V) 0 0 (some (.int res.1)) (hM res.2)
  refine go_aload_n (pc := 0) dX6_comes_0 rfl rfl ?_
  refine go_gI (pc := 1) (v := V 0 4) fX6_103 (by decide) (show TM 0 = (6 + 5, 29) from rfl) dX6_comes_1 rfl ?_
  refine go_bipush (pc := 4) (v := 12) dX6_comes_4 cb_12 ?_
  refine go_icmp_ne (pc := 6) (tgt := 12) dX6_comes_6 rfl (fun c1 => ?_) (fun c1 => ?_)
  · replace h := ifn h c1
    refine go_aload_n (pc := 12) dX6_comes_12 rfl rfl ?_
    refine go_getP (pc := 13) (a := 5) fX6_22 (by decide) (show TM 0 = (6 + 5, 29) from rfl) rfl dX6_comes_13 ?_
    refine go_aload_n (pc := 16) dX6_comes_16 rfl rfl ?_
    refine go_gI (pc := 17) (v := V 0 4) fX6_103 (by decide) (show TM 0 = (6 + 5, 29) from rfl) dX6_comes_17 rfl ?_
    refine go_iload_n (pc := 20) dX6_comes_20 rfl rfl ?_
    obtain ⟨c2, h⟩ := ok_not h
    refine go_iast (pc := 21) (show TM 5 = (0, 12) from rfl) (vin c2) dX6_comes_21 ?_
    refine go_aload_n (pc := 22) dX6_comes_22 rfl rfl ?_
    refine go_getP (pc := 23) (a := 6) fX6_25 (by decide) (show TM 0 = (6 + 5, 29) from rfl) rfl dX6_comes_23 ?_
    refine go_iconst (pc := 26) (v := 5) dX6_comes_26 ci_5 ?_
    refine go_aload_n (pc := 27) dX6_comes_27 rfl rfl ?_
    refine go_gI (pc := 28) (v := V 0 4) fX6_103 (by decide) (show TM 0 = (6 + 5, 29) from rfl) dX6_comes_28 rfl ?_
    refine go_imul (pc := 31) dX6_comes_31 ?_
    refine go_iload_n (pc := 32) dX6_comes_32 rfl rfl ?_
    obtain ⟨c3, h⟩ := ok_not h
    refine go_iast (pc := 33) (show TM 6 = (0, 60) from rfl) (vin c3) dX6_comes_33 ?_
    refine go_aload_n (pc := 34) dX6_comes_34 rfl rfl ?_
    refine go_getP (pc := 35) (a := 6) fX6_25 (by decide) (show TM 0 = (6 + 5, 29) from rfl) rfl dX6_comes_35 ?_
    refine go_iconst (pc := 38) (v := 5) dX6_comes_38 ci_5 ?_
    refine go_aload_n (pc := 39) dX6_comes_39 rfl rfl ?_
    refine go_gI (pc := 40) (v := V 0 4) fX6_103 (by decide) (show TM 0 = (6 + 5, 29) from rfl) dX6_comes_40 rfl ?_
    refine go_imul (pc := 43) dX6_comes_43 ?_
    refine go_iconst (pc := 44) (v := 1) dX6_comes_44 ci_1 ?_
    refine go_iadd (pc := 45) dX6_comes_45 ?_
    refine go_iload_n (pc := 46) dX6_comes_46 rfl rfl ?_
    obtain ⟨c4, h⟩ := ok_not h
    refine go_iast (pc := 47) (show TM 6 = (0, 60) from rfl) (vin c4) dX6_comes_47 ?_
    refine go_aload_n (pc := 48) dX6_comes_48 rfl rfl ?_
    refine go_getP (pc := 49) (a := 6) fX6_25 (by decide) (show TM 0 = (6 + 5, 29) from rfl) rfl dX6_comes_49 ?_
    refine go_iconst (pc := 52) (v := 5) dX6_comes_52 ci_5 ?_
    refine go_aload_n (pc := 53) dX6_comes_53 rfl rfl ?_
    refine go_gI (pc := 54) (v := V 0 4) fX6_103 (by decide) (show TM 0 = (6 + 5, 29) from rfl) dX6_comes_54 rfl ?_
    refine go_imul (pc := 57) dX6_comes_57 ?_
    refine go_iconst (pc := 58) (v := 2) dX6_comes_58 ci_2 ?_
    refine go_iadd (pc := 59) dX6_comes_59 ?_
    refine go_iload (pc := 60) dX6_comes_60 rfl ?_
    obtain ⟨c5, h⟩ := ok_not h
    refine go_iast (pc := 62) (show TM 6 = (0, 60) from rfl) (vin c5) dX6_comes_62 ?_
    refine go_aload_n (pc := 63) dX6_comes_63 rfl rfl ?_
    refine go_getP (pc := 64) (a := 6) fX6_25 (by decide) (show TM 0 = (6 + 5, 29) from rfl) rfl dX6_comes_64 ?_
    refine go_iconst (pc := 67) (v := 5) dX6_comes_67 ci_5 ?_
    refine go_aload_n (pc := 68) dX6_comes_68 rfl rfl ?_
    refine go_gI (pc := 69) (v := V 0 4) fX6_103 (by decide) (show TM 0 = (6 + 5, 29) from rfl) dX6_comes_69 rfl ?_
    refine go_imul (pc := 72) dX6_comes_72 ?_
    refine go_iconst (pc := 73) (v := 3) dX6_comes_73 ci_3 ?_
    refine go_iadd (pc := 74) dX6_comes_74 ?_
    refine go_iload (pc := 75) dX6_comes_75 rfl ?_
    obtain ⟨c6, h⟩ := ok_not h
    refine go_iast (pc := 77) (show TM 6 = (0, 60) from rfl) (vin c6) dX6_comes_77 ?_
    refine go_aload_n (pc := 78) dX6_comes_78 rfl rfl ?_
    refine go_getP (pc := 79) (a := 6) fX6_25 (by decide) (show TM 0 = (6 + 5, 29) from rfl) rfl dX6_comes_79 ?_
    refine go_iconst (pc := 82) (v := 5) dX6_comes_82 ci_5 ?_
    refine go_aload_n (pc := 83) dX6_comes_83 rfl rfl ?_
    refine go_gI (pc := 84) (v := V 0 4) fX6_103 (by decide) (show TM 0 = (6 + 5, 29) from rfl) dX6_comes_84 rfl ?_
    refine go_imul (pc := 87) dX6_comes_87 ?_
    refine go_iconst (pc := 88) (v := 4) dX6_comes_88 ci_4 ?_
    refine go_iadd (pc := 89) dX6_comes_89 ?_
    refine go_iload (pc := 90) dX6_comes_90 rfl ?_
    obtain ⟨c7, h⟩ := ok_not h
    refine go_iast (pc := 92) (show TM 6 = (0, 60) from rfl) (vin c7) dX6_comes_92 ?_
    refine go_iconst (pc := 93) (v := 0) dX6_comes_93 ci_0 ?_
    refine go_istore (pc := 94) (i := 7) dX6_comes_94 (Nat.le_of_ble_eq_true rfl) (L2 := [some (.ref 0), some (.int a1), some (.int a2), some (.int a3), some (.int a4), some (.int a5), some (.int a6), some (.int 0)]) rfl ?_
    refine go_le (lle_s (lle_n (lle_n (lle_n (lle_n (lle_n (lle_n (lle_s lle_0)))))))) ?_
    exact gX6_comes_b96 _ _ _ _  h
  · replace h := ifp h c1
    refine go_bipush (pc := 9) (v := (-4)) dX6_comes_9 cb_m4 ?_
    cases h
    exact go_iret (pc := 11) (Or.inl rfl) ⟨Nat.zero_le _, Nat.zero_le _⟩ dX6_comes_11
def eX6_get (a1 : Int32) (a2 : Int32) (a3 : Int32) (V : Mm) : Option (Int32 × Mm) :=
  (eX6_comes 0 a1 a2 a3 0 0 V).bind fun r1 =>
  some (r1.1, r1.2)
set_option maxHeartbeats 4000000 in
set_option maxRecDepth 100000 in
theorem E_X6_get {a1 : Int32} {a2 : Int32} {a3 : Int32} {V : Mm} {res : Int32 × Mm}  (h : eX6_get a1 a2 a3 V = some res) : Ev mX6_get [.ref 0, .int a1, .int a2, .int a3] (hM V) (some (.int res.1)) (hM res.2) := by
  refine Ev.of (n := 0) oX6_get.1 (Nat.le_of_ble_eq_true rfl) ?_
  unfold eX6_get at h
  show Go mX6_get 0 [some (.ref 0), some (.int a1), some (.int a2), some (.int a3)] [] (hM V) 0 0 (some (.int res.1)) (hM res.2)
  refine go_aload_n (pc := 0) dX6_get_0 rfl rfl ?_
  refine go_iconst (pc := 1) (v := 0) dX6_get_1 ci_0 ?_
  refine go_iload_n (pc := 2) dX6_get_2 rfl rfl ?_
  refine go_iload_n (pc := 3) dX6_get_3 rfl rfl ?_
  refine go_iload_n (pc := 4) dX6_get_4 rfl rfl ?_
  refine go_iconst (pc := 5) (v := 0) dX6_get_5 ci_0 ?_
  refine go_iconst (pc := 6) (v := 0) dX6_get_6 ci_0 ?_
  obtain ⟨r1, e2, h⟩ := ok_bind h
  refine go_cV (pc := 7) (ci := 6) (As := [.int 0, .int a1, .int a2, .int a3, .int 0, .int 0]) (st := []) (E_X6_comes e2) rfl oX6_comes iX6_comes sX6_comes kX6_106 rfl (show TM 0 = (6 + 5, 29) from rfl) rfl (Nat.le_of_ble_eq_true rfl) ⟨Nat.le_of_ble_eq_true rfl, Nat.le_of_ble_eq_true rfl⟩ ⟨rfl, rfl⟩ dX6_get_7 (st2 := [.int r1.1]) rfl ?_
  cases h
  exact go_iret (pc := 10) (Or.inl rfl) ⟨Nat.zero_le _, Nat.zero_le _⟩ dX6_get_10
def eX6_query (a1 : Int32) (a2 : Int32) (a3 : Int32) (a4 : Int32) (V : Mm) : Option (Int32 × Mm) :=
  (eX6_comes 1 a1 a2 a3 a4 0 V).bind fun r1 =>
  some (r1.1, r1.2)
set_option maxHeartbeats 4000000 in
set_option maxRecDepth 100000 in
theorem E_X6_query {a1 : Int32} {a2 : Int32} {a3 : Int32} {a4 : Int32} {V : Mm} {res : Int32 × Mm}  (h : eX6_query a1 a2 a3 a4 V = some res) : Ev mX6_query [.ref 0, .int a1, .int a2, .int a3, .int a4] (hM V) (some (.int res.1)) (hM res.2) := by
  refine Ev.of (n := 0) oX6_query.1 (Nat.le_of_ble_eq_true rfl) ?_
  unfold eX6_query at h
  show Go mX6_query 0 [some (.ref 0), some (.int a1), some (.int a2), some (.int a3), some (.int a4)] [] (hM V) 0 0 (some (.int res.1)) (hM res.2)
  refine go_aload_n (pc := 0) dX6_query_0 rfl rfl ?_
  refine go_iconst (pc := 1) (v := 1) dX6_query_1 ci_1 ?_
  refine go_iload_n (pc := 2) dX6_query_2 rfl rfl ?_
  refine go_iload_n (pc := 3) dX6_query_3 rfl rfl ?_
  refine go_iload_n (pc := 4) dX6_query_4 rfl rfl ?_
  refine go_iload (pc := 5) dX6_query_5 rfl ?_
  refine go_iconst (pc := 7) (v := 0) dX6_query_7 ci_0 ?_
  obtain ⟨r1, e2, h⟩ := ok_bind h
  refine go_cV (pc := 8) (ci := 6) (As := [.int 1, .int a1, .int a2, .int a3, .int a4, .int 0]) (st := []) (E_X6_comes e2) rfl oX6_comes iX6_comes sX6_comes kX6_106 rfl (show TM 0 = (6 + 5, 29) from rfl) rfl (Nat.le_of_ble_eq_true rfl) ⟨Nat.le_of_ble_eq_true rfl, Nat.le_of_ble_eq_true rfl⟩ ⟨rfl, rfl⟩ dX6_query_8 (st2 := [.int r1.1]) rfl ?_
  cases h
  exact go_iret (pc := 11) (Or.inl rfl) ⟨Nat.zero_le _, Nat.zero_le _⟩ dX6_query_11
def eX6_changes (a1 : Int32) (a2 : Int32) (a3 : Int32) (V : Mm) : Option (Int32 × Mm) :=
  (eX6_comes 2 a1 a2 a3 0 0 V).bind fun r1 =>
  some (r1.1, r1.2)
set_option maxHeartbeats 4000000 in
set_option maxRecDepth 100000 in
theorem E_X6_changes {a1 : Int32} {a2 : Int32} {a3 : Int32} {V : Mm} {res : Int32 × Mm}  (h : eX6_changes a1 a2 a3 V = some res) : Ev mX6_changes [.ref 0, .int a1, .int a2, .int a3] (hM V) (some (.int res.1)) (hM res.2) := by
  refine Ev.of (n := 0) oX6_changes.1 (Nat.le_of_ble_eq_true rfl) ?_
  unfold eX6_changes at h
  show Go mX6_changes 0 [some (.ref 0), some (.int a1), some (.int a2), some (.int a3)] [] (hM V) 0 0 (some (.int res.1)) (hM res.2)
  refine go_aload_n (pc := 0) dX6_changes_0 rfl rfl ?_
  refine go_iconst (pc := 1) (v := 2) dX6_changes_1 ci_2 ?_
  refine go_iload_n (pc := 2) dX6_changes_2 rfl rfl ?_
  refine go_iload_n (pc := 3) dX6_changes_3 rfl rfl ?_
  refine go_iload_n (pc := 4) dX6_changes_4 rfl rfl ?_
  refine go_iconst (pc := 5) (v := 0) dX6_changes_5 ci_0 ?_
  refine go_iconst (pc := 6) (v := 0) dX6_changes_6 ci_0 ?_
  obtain ⟨r1, e2, h⟩ := ok_bind h
  refine go_cV (pc := 7) (ci := 6) (As := [.int 2, .int a1, .int a2, .int a3, .int 0, .int 0]) (st := []) (E_X6_comes e2) rfl oX6_comes iX6_comes sX6_comes kX6_106 rfl (show TM 0 = (6 + 5, 29) from rfl) rfl (Nat.le_of_ble_eq_true rfl) ⟨Nat.le_of_ble_eq_true rfl, Nat.le_of_ble_eq_true rfl⟩ ⟨rfl, rfl⟩ dX6_changes_7 (st2 := [.int r1.1]) rfl ?_
  cases h
  exact go_iret (pc := 10) (Or.inl rfl) ⟨Nat.zero_le _, Nat.zero_le _⟩ dX6_changes_10
def eX6_make (a1 : Int32) (a2 : Int32) (V : Mm) : Option (Int32 × Mm) :=
  (eX6_comes 3 a1 a2 0 0 0 V).bind fun r1 =>
  some (r1.1, r1.2)
set_option maxHeartbeats 4000000 in
set_option maxRecDepth 100000 in
theorem E_X6_make {a1 : Int32} {a2 : Int32} {V : Mm} {res : Int32 × Mm}  (h : eX6_make a1 a2 V = some res) : Ev mX6_make [.ref 0, .int a1, .int a2] (hM V) (some (.int res.1)) (hM res.2) := by
  refine Ev.of (n := 0) oX6_make.1 (Nat.le_of_ble_eq_true rfl) ?_
  unfold eX6_make at h
  show Go mX6_make 0 [some (.ref 0), some (.int a1), some (.int a2)] [] (hM V) 0 0 (some (.int res.1)) (hM res.2)
  refine go_aload_n (pc := 0) dX6_make_0 rfl rfl ?_
  refine go_iconst (pc := 1) (v := 3) dX6_make_1 ci_3 ?_
  refine go_iload_n (pc := 2) dX6_make_2 rfl rfl ?_
  refine go_iload_n (pc := 3) dX6_make_3 rfl rfl ?_
  refine go_iconst (pc := 4) (v := 0) dX6_make_4 ci_0 ?_
  refine go_iconst (pc := 5) (v := 0) dX6_make_5 ci_0 ?_
  refine go_iconst (pc := 6) (v := 0) dX6_make_6 ci_0 ?_
  obtain ⟨r1, e2, h⟩ := ok_bind h
  refine go_cV (pc := 7) (ci := 6) (As := [.int 3, .int a1, .int a2, .int 0, .int 0, .int 0]) (st := []) (E_X6_comes e2) rfl oX6_comes iX6_comes sX6_comes kX6_106 rfl (show TM 0 = (6 + 5, 29) from rfl) rfl (Nat.le_of_ble_eq_true rfl) ⟨Nat.le_of_ble_eq_true rfl, Nat.le_of_ble_eq_true rfl⟩ ⟨rfl, rfl⟩ dX6_make_7 (st2 := [.int r1.1]) rfl ?_
  cases h
  exact go_iret (pc := 10) (Or.inl rfl) ⟨Nat.zero_le _, Nat.zero_le _⟩ dX6_make_10
def eX6_change (a1 : Int32) (a2 : Int32) (a3 : Int32) (a4 : Int32) (a5 : Int32) (V : Mm) : Option (Int32 × Mm) :=
  (eX6_comes 4 a1 a2 a3 a4 a5 V).bind fun r1 =>
  some (r1.1, r1.2)
set_option maxHeartbeats 4000000 in
set_option maxRecDepth 100000 in
theorem E_X6_change {a1 : Int32} {a2 : Int32} {a3 : Int32} {a4 : Int32} {a5 : Int32} {V : Mm} {res : Int32 × Mm}  (h : eX6_change a1 a2 a3 a4 a5 V = some res) : Ev mX6_change [.ref 0, .int a1, .int a2, .int a3, .int a4, .int a5] (hM V) (some (.int res.1)) (hM res.2) := by
  refine Ev.of (n := 0) oX6_change.1 (Nat.le_of_ble_eq_true rfl) ?_
  unfold eX6_change at h
  show Go mX6_change 0 [some (.ref 0), some (.int a1), some (.int a2), some (.int a3), some (.int a4), some (.int a5)] [] (hM V) 0 0 (some (.int res.1)) (hM res.2)
  refine go_aload_n (pc := 0) dX6_change_0 rfl rfl ?_
  refine go_iconst (pc := 1) (v := 4) dX6_change_1 ci_4 ?_
  refine go_iload_n (pc := 2) dX6_change_2 rfl rfl ?_
  refine go_iload_n (pc := 3) dX6_change_3 rfl rfl ?_
  refine go_iload_n (pc := 4) dX6_change_4 rfl rfl ?_
  refine go_iload (pc := 5) dX6_change_5 rfl ?_
  refine go_iload (pc := 7) dX6_change_7 rfl ?_
  obtain ⟨r1, e2, h⟩ := ok_bind h
  refine go_cV (pc := 9) (ci := 6) (As := [.int 4, .int a1, .int a2, .int a3, .int a4, .int a5]) (st := []) (E_X6_comes e2) rfl oX6_comes iX6_comes sX6_comes kX6_106 rfl (show TM 0 = (6 + 5, 29) from rfl) rfl (Nat.le_of_ble_eq_true rfl) ⟨Nat.le_of_ble_eq_true rfl, Nat.le_of_ble_eq_true rfl⟩ ⟨rfl, rfl⟩ dX6_change_9 (st2 := [.int r1.1]) rfl ?_
  cases h
  exact go_iret (pc := 12) (Or.inl rfl) ⟨Nat.zero_le _, Nat.zero_le _⟩ dX6_change_12
def eX6_destroy (a1 : Int32) (a2 : Int32) (a3 : Int32) (V : Mm) : Option (Int32 × Mm) :=
  (eX6_comes 5 a1 a2 a3 0 0 V).bind fun r1 =>
  some (r1.1, r1.2)
set_option maxHeartbeats 4000000 in
set_option maxRecDepth 100000 in
theorem E_X6_destroy {a1 : Int32} {a2 : Int32} {a3 : Int32} {V : Mm} {res : Int32 × Mm}  (h : eX6_destroy a1 a2 a3 V = some res) : Ev mX6_destroy [.ref 0, .int a1, .int a2, .int a3] (hM V) (some (.int res.1)) (hM res.2) := by
  refine Ev.of (n := 0) oX6_destroy.1 (Nat.le_of_ble_eq_true rfl) ?_
  unfold eX6_destroy at h
  show Go mX6_destroy 0 [some (.ref 0), some (.int a1), some (.int a2), some (.int a3)] [] (hM V) 0 0 (some (.int res.1)) (hM res.2)
  refine go_aload_n (pc := 0) dX6_destroy_0 rfl rfl ?_
  refine go_iconst (pc := 1) (v := 5) dX6_destroy_1 ci_5 ?_
  refine go_iload_n (pc := 2) dX6_destroy_2 rfl rfl ?_
  refine go_iload_n (pc := 3) dX6_destroy_3 rfl rfl ?_
  refine go_iload_n (pc := 4) dX6_destroy_4 rfl rfl ?_
  refine go_iconst (pc := 5) (v := 0) dX6_destroy_5 ci_0 ?_
  refine go_iconst (pc := 6) (v := 0) dX6_destroy_6 ci_0 ?_
  obtain ⟨r1, e2, h⟩ := ok_bind h
  refine go_cV (pc := 7) (ci := 6) (As := [.int 5, .int a1, .int a2, .int a3, .int 0, .int 0]) (st := []) (E_X6_comes e2) rfl oX6_comes iX6_comes sX6_comes kX6_106 rfl (show TM 0 = (6 + 5, 29) from rfl) rfl (Nat.le_of_ble_eq_true rfl) ⟨Nat.le_of_ble_eq_true rfl, Nat.le_of_ble_eq_true rfl⟩ ⟨rfl, rfl⟩ dX6_destroy_7 (st2 := [.int r1.1]) rfl ?_
  cases h
  exact go_iret (pc := 10) (Or.inl rfl) ⟨Nat.zero_le _, Nat.zero_le _⟩ dX6_destroy_10
def eX6_crash (a1 : Int32) (V : Mm) : Option (Int32 × Mm) :=
  (eX6_within a1 0 12 V).bind fun r1 =>
  if r1 = 0 then
    some ((-2), V)
  else
    some (1, (wr V 0 8 a1))
set_option maxHeartbeats 4000000 in
set_option maxRecDepth 100000 in
theorem E_X6_crash {a1 : Int32} {V : Mm} {res : Int32 × Mm}  (h : eX6_crash a1 V = some res) : Ev mX6_crash [.ref 0, .int a1] (hM V) (some (.int res.1)) (hM res.2) := by
  refine Ev.of (n := 0) oX6_crash.1 (Nat.le_of_ble_eq_true rfl) ?_
  unfold eX6_crash at h
  show Go mX6_crash 0 [some (.ref 0), some (.int a1)] [] (hM V) 0 0 (some (.int res.1)) (hM res.2)
  refine go_iload_n (pc := 0) dX6_crash_0 rfl rfl ?_
  refine go_iconst (pc := 1) (v := 0) dX6_crash_1 ci_0 ?_
  refine go_bipush (pc := 2) (v := 12) dX6_crash_2 cb_12 ?_
  obtain ⟨r1, e2, h⟩ := ok_bind h
  refine go_cS (pc := 4) (As := [.int a1, .int 0, .int 12]) (st := []) (E_X6_within e2) rfl oX6_within iX6_within kX6_99 rfl (Nat.le_of_ble_eq_true rfl) ⟨Nat.le_of_ble_eq_true rfl, Nat.le_of_ble_eq_true rfl⟩ ⟨rfl, rfl⟩ dX6_crash_4 (st2 := [.int r1]) rfl ?_
  refine go_if_ne (pc := 7) (tgt := 13) dX6_crash_7 rfl (fun c3 => ?_) (fun c3 => ?_)
  · replace h := ifn h c3
    refine go_aload_n (pc := 13) dX6_crash_13 rfl rfl ?_
    refine go_iload_n (pc := 14) dX6_crash_14 rfl rfl ?_
    refine go_putI (pc := 15) (k := 8) fX6_31 (Or.inl rfl) (Or.inl rfl) (show TM 0 = (6 + 5, 29) from rfl) dX6_crash_15 ?_
    refine go_iconst (pc := 18) (v := 1) dX6_crash_18 ci_1 ?_
    cases h
    exact go_iret (pc := 19) (Or.inl rfl) ⟨Nat.zero_le _, Nat.zero_le _⟩ dX6_crash_19
  · replace h := ifp h c3
    refine go_bipush (pc := 10) (v := (-2)) dX6_crash_10 cb_m2 ?_
    cases h
    exact go_iret (pc := 12) (Or.inl rfl) ⟨Nat.zero_le _, Nat.zero_le _⟩ dX6_crash_12
def eX6_drop  (V : Mm) : Option (Int32 × Mm) :=
  some (V 0 4, (wr V 0 4 0))
set_option maxHeartbeats 4000000 in
set_option maxRecDepth 100000 in
theorem E_X6_drop  {V : Mm} {res : Int32 × Mm}  (h : eX6_drop V = some res) : Ev mX6_drop [.ref 0] (hM V) (some (.int res.1)) (hM res.2) := by
  refine Ev.of (n := 1) oX6_drop.1 (Nat.le_of_ble_eq_true rfl) ?_
  unfold eX6_drop at h
  show Go mX6_drop 0 [some (.ref 0), none] [] (hM V) 0 0 (some (.int res.1)) (hM res.2)
  refine go_aload_n (pc := 0) dX6_drop_0 rfl rfl ?_
  refine go_gI (pc := 1) (v := V 0 4) fX6_103 (by decide) (show TM 0 = (6 + 5, 29) from rfl) dX6_drop_1 rfl ?_
  refine go_istore_n (pc := 4) (i := 1) dX6_drop_4 rfl (Nat.le_of_ble_eq_true rfl) (L2 := [some (.ref 0), some (.int (V 0 4))]) rfl ?_
  refine go_aload_n (pc := 5) dX6_drop_5 rfl rfl ?_
  refine go_iconst (pc := 6) (v := 0) dX6_drop_6 ci_0 ?_
  refine go_putI (pc := 7) (k := 4) fX6_103 (Or.inl rfl) (Or.inl rfl) (show TM 0 = (6 + 5, 29) from rfl) dX6_drop_7 ?_
  refine go_iload_n (pc := 10) dX6_drop_10 rfl rfl ?_
  cases h
  exact go_iret (pc := 11) (Or.inl rfl) ⟨Nat.zero_le _, Nat.zero_le _⟩ dX6_drop_11
def eX6_give (a1 : Int32) (a2 : Int32) (a3 : Int32) (V : Mm) : Option (Mm) :=
  if ((4 * a1) + a2) < 0 ∨ 48 ≤ ((4 * a1) + a2).toNatClampNeg then none else
  if ((50 * ((4 * a1) + a2)) + (V 9 (((4 * a1) + a2).toNatClampNeg))) < 0 ∨ 2400 ≤ ((50 * ((4 * a1) + a2)) + (V 9 (((4 * a1) + a2).toNatClampNeg))).toNatClampNeg then none else
  if ((4 * a1) + a2) < 0 ∨ 48 ≤ ((4 * a1) + a2).toNatClampNeg then none else
  if ((4 * a1) + a2) < 0 ∨ 48 ≤ ((4 * a1) + a2).toNatClampNeg then none else
  some (wr (wr V 10 (((50 * ((4 * a1) + a2)) + (V 9 (((4 * a1) + a2).toNatClampNeg))).toNatClampNeg) a3) 9 (((4 * a1) + a2).toNatClampNeg) ((V 9 (((4 * a1) + a2).toNatClampNeg)) + 1))
set_option maxHeartbeats 4000000 in
set_option maxRecDepth 100000 in
theorem E_X6_give {a1 : Int32} {a2 : Int32} {a3 : Int32} {V : Mm} {res : Mm}  (h : eX6_give a1 a2 a3 V = some res) : Ev mX6_give [.ref 0, .int a1, .int a2, .int a3] (hM V) none (hM res) := by
  refine Ev.of (n := 1) oX6_give.1 (Nat.le_of_ble_eq_true rfl) ?_
  unfold eX6_give at h
  show Go mX6_give 0 [some (.ref 0), some (.int a1), some (.int a2), some (.int a3), none] [] (hM V) 0 0 none (hM res)
  refine go_iconst (pc := 0) (v := 4) dX6_give_0 ci_4 ?_
  refine go_iload_n (pc := 1) dX6_give_1 rfl rfl ?_
  refine go_imul (pc := 2) dX6_give_2 ?_
  refine go_iload_n (pc := 3) dX6_give_3 rfl rfl ?_
  refine go_iadd (pc := 4) dX6_give_4 ?_
  refine go_istore (pc := 5) (i := 4) dX6_give_5 (Nat.le_of_ble_eq_true rfl) (L2 := [some (.ref 0), some (.int a1), some (.int a2), some (.int a3), some (.int ((4 * a1) + a2))]) rfl ?_
  refine go_aload_n (pc := 7) dX6_give_7 rfl rfl ?_
  refine go_getP (pc := 8) (a := 10) fX6_41 (by decide) (show TM 0 = (6 + 5, 29) from rfl) rfl dX6_give_8 ?_
  refine go_bipush (pc := 11) (v := 50) dX6_give_11 cb_50 ?_
  refine go_iload (pc := 13) dX6_give_13 rfl ?_
  refine go_imul (pc := 15) dX6_give_15 ?_
  refine go_aload_n (pc := 16) dX6_give_16 rfl rfl ?_
  refine go_getP (pc := 17) (a := 9) fX6_38 (by decide) (show TM 0 = (6 + 5, 29) from rfl) rfl dX6_give_17 ?_
  refine go_iload (pc := 20) dX6_give_20 rfl ?_
  obtain ⟨c1, h⟩ := ok_not h
  refine go_ia (pc := 22) (v := V 9 (((4 * a1) + a2).toNatClampNeg)) (show TM 9 = (0, 48) from rfl) (vin c1) dX6_give_22 rfl ?_
  refine go_iadd (pc := 23) dX6_give_23 ?_
  refine go_iload_n (pc := 24) dX6_give_24 rfl rfl ?_
  obtain ⟨c2, h⟩ := ok_not h
  refine go_iast (pc := 25) (show TM 10 = (0, 2400) from rfl) (vin c2) dX6_give_25 ?_
  refine go_aload_n (pc := 26) dX6_give_26 rfl rfl ?_
  refine go_getP (pc := 27) (a := 9) fX6_38 (by decide) (show TM 0 = (6 + 5, 29) from rfl) rfl dX6_give_27 ?_
  refine go_iload (pc := 30) dX6_give_30 rfl ?_
  refine go_dup2 (pc := 32) dX6_give_32 ?_
  obtain ⟨c3, h⟩ := ok_not h
  refine go_ia (pc := 33) (v := V 9 (((4 * a1) + a2).toNatClampNeg)) (show TM 9 = (0, 48) from rfl) (vin c3) dX6_give_33 rfl ?_
  refine go_iconst (pc := 34) (v := 1) dX6_give_34 ci_1 ?_
  refine go_iadd (pc := 35) dX6_give_35 ?_
  obtain ⟨c4, h⟩ := ok_not h
  refine go_iast (pc := 36) (show TM 9 = (0, 48) from rfl) (vin c4) dX6_give_36 ?_
  cases h
  exact go_vret (pc := 37) rfl ⟨Nat.zero_le _, Nat.zero_le _⟩ dX6_give_37
def eX6_isGiven_b6 : Nat → Int32 → Int32 → Int32 → Int32 → Int32 → Mm → Option (Int32)
  | 0, _, _, _, _, _, _ => none
  | n + 1, l1, l2, l3, l4, l5, V => 
    if ((4 * l1) + l2) < 0 ∨ 48 ≤ ((4 * l1) + l2).toNatClampNeg then none else
    if (V 9 (((4 * l1) + l2).toNatClampNeg)) ≤ l5 then
      if l4 = 0 ∨ l4 = 1 then
        some l4
      else none
    else
      if ((50 * ((4 * l1) + l2)) + l5) < 0 ∨ 2400 ≤ ((50 * ((4 * l1) + l2)) + l5).toNatClampNeg then none else
      if (V 10 (((50 * ((4 * l1) + l2)) + l5).toNatClampNeg)) = l3 then
        eX6_isGiven_b6 n l1 l2 l3 (l4 ||| 1) (l5 + 1) V
      else
        eX6_isGiven_b6 n l1 l2 l3 (l4 ||| 0) (l5 + 1) V
set_option maxHeartbeats 4000000 in
set_option maxRecDepth 100000 in
theorem gX6_isGiven_b6 : ∀ (n : Nat) (l1 : Int32) (l2 : Int32) (l3 : Int32) (l4 : Int32) (l5 : Int32) (V : Mm) (res : Int32) , eX6_isGiven_b6 n l1 l2 l3 l4 l5 V = some res → Go mX6_isGiven 6 [some (.ref 0), some (.int l1), some (.int l2), some (.int l3), some (.int l4), some (.int l5)] [] (hM V) 0 0 (some (.int res)) (hM V) := by
  intro n
  induction n with
  | zero =>
    intro l1 l2 l3 l4 l5 V res  h
    cases h
  | succ n ih =>
    intro l1 l2 l3 l4 l5 V res  h
    rw [eX6_isGiven_b6] at h
    refine go_iload (pc := 6) dX6_isGiven_6 rfl ?_
    refine go_aload_n (pc := 8) dX6_isGiven_8 rfl rfl ?_
    refine go_getP (pc := 9) (a := 9) fX6_38 (by decide) (show TM 0 = (6 + 5, 29) from rfl) rfl dX6_isGiven_9 ?_
    refine go_iconst (pc := 12) (v := 4) dX6_isGiven_12 ci_4 ?_
    refine go_iload_n (pc := 13) dX6_isGiven_13 rfl rfl ?_
    refine go_imul (pc := 14) dX6_isGiven_14 ?_
    refine go_iload_n (pc := 15) dX6_isGiven_15 rfl rfl ?_
    refine go_iadd (pc := 16) dX6_isGiven_16 ?_
    obtain ⟨c1, h⟩ := ok_not h
    refine go_ia (pc := 17) (v := V 9 (((4 * l1) + l2).toNatClampNeg)) (show TM 9 = (0, 48) from rfl) (vin c1) dX6_isGiven_17 rfl ?_
    refine go_icmp_ge (pc := 18) (tgt := 57) dX6_isGiven_18 rfl (fun c2 => ?_) (fun c2 => ?_)
    · replace h := ifp h c2
      refine go_iload (pc := 57) dX6_isGiven_57 rfl ?_
      obtain ⟨c3, h⟩ := ok_if h
      cases h
      exact go_iret (pc := 59) (Or.inr ⟨rfl, c3⟩) ⟨Nat.zero_le _, Nat.zero_le _⟩ dX6_isGiven_59
    · replace h := ifn h c2
      refine go_iload (pc := 21) dX6_isGiven_21 rfl ?_
      refine go_aload_n (pc := 23) dX6_isGiven_23 rfl rfl ?_
      refine go_getP (pc := 24) (a := 10) fX6_41 (by decide) (show TM 0 = (6 + 5, 29) from rfl) rfl dX6_isGiven_24 ?_
      refine go_bipush (pc := 27) (v := 50) dX6_isGiven_27 cb_50 ?_
      refine go_iconst (pc := 29) (v := 4) dX6_isGiven_29 ci_4 ?_
      refine go_iload_n (pc := 30) dX6_isGiven_30 rfl rfl ?_
      refine go_imul (pc := 31) dX6_isGiven_31 ?_
      refine go_iload_n (pc := 32) dX6_isGiven_32 rfl rfl ?_
      refine go_iadd (pc := 33) dX6_isGiven_33 ?_
      refine go_imul (pc := 34) dX6_isGiven_34 ?_
      refine go_iload (pc := 35) dX6_isGiven_35 rfl ?_
      refine go_iadd (pc := 37) dX6_isGiven_37 ?_
      obtain ⟨c4, h⟩ := ok_not h
      refine go_ia (pc := 38) (v := V 10 (((50 * ((4 * l1) + l2)) + l5).toNatClampNeg)) (show TM 10 = (0, 2400) from rfl) (vin c4) dX6_isGiven_38 rfl ?_
      refine go_iload_n (pc := 39) dX6_isGiven_39 rfl rfl ?_
      refine go_icmp_ne (pc := 40) (tgt := 47) dX6_isGiven_40 rfl (fun c5 => ?_) (fun c5 => ?_)
      · replace h := ifn h c5
        refine go_iconst (pc := 47) (v := 0) dX6_isGiven_47 ci_0 ?_
        refine go_ior (pc := 48) dX6_isGiven_48 ?_
        refine go_istore (pc := 49) (i := 4) dX6_isGiven_49 (Nat.le_of_ble_eq_true rfl) (L2 := [some (.ref 0), some (.int l1), some (.int l2), some (.int l3), some (.int (l4 ||| 0)), some (.int l5)]) rfl ?_
        refine go_iinc (pc := 51) (v := (l5 + 1)) dX6_isGiven_51 rfl (by rw [ci_1]) (Nat.le_of_ble_eq_true rfl) (L2 := [some (.ref 0), some (.int l1), some (.int l2), some (.int l3), some (.int (l4 ||| 0)), some (.int (l5 + 1))]) rfl ?_
        refine go_goto (pc := 54) (tgt := 6) dX6_isGiven_54 rfl ?_
        exact ih _ _ _ _ _ _ _  h
      · replace h := ifp h c5
        refine go_iconst (pc := 43) (v := 1) dX6_isGiven_43 ci_1 ?_
        refine go_goto (pc := 44) (tgt := 48) dX6_isGiven_44 rfl ?_
        refine go_ior (pc := 48) dX6_isGiven_48 ?_
        refine go_istore (pc := 49) (i := 4) dX6_isGiven_49 (Nat.le_of_ble_eq_true rfl) (L2 := [some (.ref 0), some (.int l1), some (.int l2), some (.int l3), some (.int (l4 ||| 1)), some (.int l5)]) rfl ?_
        refine go_iinc (pc := 51) (v := (l5 + 1)) dX6_isGiven_51 rfl (by rw [ci_1]) (Nat.le_of_ble_eq_true rfl) (L2 := [some (.ref 0), some (.int l1), some (.int l2), some (.int l3), some (.int (l4 ||| 1)), some (.int (l5 + 1))]) rfl ?_
        refine go_goto (pc := 54) (tgt := 6) dX6_isGiven_54 rfl ?_
        exact ih _ _ _ _ _ _ _  h
def eX6_isGiven (a1 : Int32) (a2 : Int32) (a3 : Int32) (V : Mm) : Option (Int32) :=
  eX6_isGiven_b6 fu a1 a2 a3 0 0 V
set_option maxHeartbeats 4000000 in
set_option maxRecDepth 100000 in
theorem E_X6_isGiven {a1 : Int32} {a2 : Int32} {a3 : Int32} {V : Mm} {res : Int32}  (h : eX6_isGiven a1 a2 a3 V = some res) : Ev mX6_isGiven [.ref 0, .int a1, .int a2, .int a3] (hM V) (some (.int res)) (hM V) := by
  refine Ev.of (n := 2) oX6_isGiven.1 (Nat.le_of_ble_eq_true rfl) ?_
  unfold eX6_isGiven at h
  show Go mX6_isGiven 0 [some (.ref 0), some (.int a1), some (.int a2), some (.int a3), none, none] [] (hM V) 0 0 (some (.int res)) (hM V)
  refine go_iconst (pc := 0) (v := 0) dX6_isGiven_0 ci_0 ?_
  refine go_istore (pc := 1) (i := 4) dX6_isGiven_1 (Nat.le_of_ble_eq_true rfl) (L2 := [some (.ref 0), some (.int a1), some (.int a2), some (.int a3), some (.int 0), none]) rfl ?_
  refine go_iconst (pc := 3) (v := 0) dX6_isGiven_3 ci_0 ?_
  refine go_istore (pc := 4) (i := 5) dX6_isGiven_4 (Nat.le_of_ble_eq_true rfl) (L2 := [some (.ref 0), some (.int a1), some (.int a2), some (.int a3), some (.int 0), some (.int 0)]) rfl ?_
  exact gX6_isGiven_b6 _ _ _ _ _ _ _ _  h
def eX6_clearRows_b2 : Nat → Int32 → Int32 → Mm → Option (Mm)
  | 0, _, _, _ => none
  | n + 1, l1, l2, V => 
    if 4 ≤ l2 then
      some V
    else
      if ((4 * l1) + l2) < 0 ∨ 48 ≤ ((4 * l1) + l2).toNatClampNeg then none else
      eX6_clearRows_b2 n l1 (l2 + 1) (wr V 9 (((4 * l1) + l2).toNatClampNeg) 0)
set_option maxHeartbeats 4000000 in
set_option maxRecDepth 100000 in
theorem gX6_clearRows_b2 : ∀ (n : Nat) (l1 : Int32) (l2 : Int32) (V : Mm) (res : Mm) , eX6_clearRows_b2 n l1 l2 V = some res → Go mX6_clearRows 2 [some (.ref 0), some (.int l1), some (.int l2)] [] (hM V) 0 0 none (hM res) := by
  intro n
  induction n with
  | zero =>
    intro l1 l2 V res  h
    cases h
  | succ n ih =>
    intro l1 l2 V res  h
    rw [eX6_clearRows_b2] at h
    refine go_iload_n (pc := 2) dX6_clearRows_2 rfl rfl ?_
    refine go_iconst (pc := 3) (v := 4) dX6_clearRows_3 ci_4 ?_
    refine go_icmp_ge (pc := 4) (tgt := 24) dX6_clearRows_4 rfl (fun c1 => ?_) (fun c1 => ?_)
    · replace h := ifp h c1
      cases h
      exact go_vret (pc := 24) rfl ⟨Nat.zero_le _, Nat.zero_le _⟩ dX6_clearRows_24
    · replace h := ifn h c1
      refine go_aload_n (pc := 7) dX6_clearRows_7 rfl rfl ?_
      refine go_getP (pc := 8) (a := 9) fX6_38 (by decide) (show TM 0 = (6 + 5, 29) from rfl) rfl dX6_clearRows_8 ?_
      refine go_iconst (pc := 11) (v := 4) dX6_clearRows_11 ci_4 ?_
      refine go_iload_n (pc := 12) dX6_clearRows_12 rfl rfl ?_
      refine go_imul (pc := 13) dX6_clearRows_13 ?_
      refine go_iload_n (pc := 14) dX6_clearRows_14 rfl rfl ?_
      refine go_iadd (pc := 15) dX6_clearRows_15 ?_
      refine go_iconst (pc := 16) (v := 0) dX6_clearRows_16 ci_0 ?_
      obtain ⟨c2, h⟩ := ok_not h
      refine go_iast (pc := 17) (show TM 9 = (0, 48) from rfl) (vin c2) dX6_clearRows_17 ?_
      refine go_iinc (pc := 18) (v := (l2 + 1)) dX6_clearRows_18 rfl (by rw [ci_1]) (Nat.le_of_ble_eq_true rfl) (L2 := [some (.ref 0), some (.int l1), some (.int (l2 + 1))]) rfl ?_
      refine go_goto (pc := 21) (tgt := 2) dX6_clearRows_21 rfl ?_
      exact ih _ _ _ _  h
def eX6_clearRows (a1 : Int32) (V : Mm) : Option (Mm) :=
  eX6_clearRows_b2 fu a1 0 V
set_option maxHeartbeats 4000000 in
set_option maxRecDepth 100000 in
theorem E_X6_clearRows {a1 : Int32} {V : Mm} {res : Mm}  (h : eX6_clearRows a1 V = some res) : Ev mX6_clearRows [.ref 0, .int a1] (hM V) none (hM res) := by
  refine Ev.of (n := 1) oX6_clearRows.1 (Nat.le_of_ble_eq_true rfl) ?_
  unfold eX6_clearRows at h
  show Go mX6_clearRows 0 [some (.ref 0), some (.int a1), none] [] (hM V) 0 0 none (hM res)
  refine go_iconst (pc := 0) (v := 0) dX6_clearRows_0 ci_0 ?_
  refine go_istore_n (pc := 1) (i := 2) dX6_clearRows_1 rfl (Nat.le_of_ble_eq_true rfl) (L2 := [some (.ref 0), some (.int a1), some (.int 0)]) rfl ?_
  exact gX6_clearRows_b2 _ _ _ _ _  h
def eX6_note_b148 (l1 : Int32) (l2 : Int32) (l3 : Int32) (l4 : Int32) (V : Mm) : Option (Mm) :=
  if V 0 13 < 0 ∨ 60 ≤ (V 0 13).toNatClampNeg then none else
  if V 0 13 < 0 ∨ 60 ≤ (V 0 13).toNatClampNeg then none else
  if V 0 13 < 0 ∨ 60 ≤ (V 0 13).toNatClampNeg then none else
  if V 0 13 < 0 ∨ 60 ≤ (V 0 13).toNatClampNeg then none else
  some (wr (wr (wr (wr (wr V 11 ((V 0 13).toNatClampNeg) l1) 12 ((V 0 13).toNatClampNeg) l2) 13 ((V 0 13).toNatClampNeg) l3) 14 ((V 0 13).toNatClampNeg) l4) 0 13 ((V 0 13) + 1))
set_option maxHeartbeats 4000000 in
set_option maxRecDepth 100000 in
theorem gX6_note_b148 {l1 : Int32} {l2 : Int32} {l3 : Int32} {l4 : Int32} {V : Mm} {res : Mm}  (h : eX6_note_b148 l1 l2 l3 l4 V = some res) : Go mX6_note 148 [some (.ref 0), some (.int l1), some (.int l2), some (.int l3), some (.int l4), none, none] [] (hM V) 0 0 none (hM res) := by
  unfold eX6_note_b148 at h
  refine go_aload_n (pc := 148) dX6_note_148 rfl rfl ?_
  refine go_getP (pc := 149) (a := 11) fX6_44 (by decide) (show TM 0 = (6 + 5, 29) from rfl) rfl dX6_note_149 ?_
  refine go_aload_n (pc := 152) dX6_note_152 rfl rfl ?_
  refine go_gI (pc := 153) (v := V 0 13) fX6_110 (by decide) (show TM 0 = (6 + 5, 29) from rfl) dX6_note_153 rfl ?_
  refine go_iload_n (pc := 156) dX6_note_156 rfl rfl ?_
  obtain ⟨c2, h⟩ := ok_not h
  refine go_iast (pc := 157) (show TM 11 = (0, 60) from rfl) (vin c2) dX6_note_157 ?_
  refine go_aload_n (pc := 158) dX6_note_158 rfl rfl ?_
  refine go_getP (pc := 159) (a := 12) fX6_47 (by decide) (show TM 0 = (6 + 5, 29) from rfl) rfl dX6_note_159 ?_
  refine go_aload_n (pc := 162) dX6_note_162 rfl rfl ?_
  refine go_gI (pc := 163) (v := V 0 13) fX6_110 (by decide) (show TM 0 = (6 + 5, 29) from rfl) dX6_note_163 rfl ?_
  refine go_iload_n (pc := 166) dX6_note_166 rfl rfl ?_
  obtain ⟨c3, h⟩ := ok_not h
  refine go_iast (pc := 167) (show TM 12 = (0, 60) from rfl) (vin c3) dX6_note_167 ?_
  refine go_aload_n (pc := 168) dX6_note_168 rfl rfl ?_
  refine go_getP (pc := 169) (a := 13) fX6_50 (by decide) (show TM 0 = (6 + 5, 29) from rfl) rfl dX6_note_169 ?_
  refine go_aload_n (pc := 172) dX6_note_172 rfl rfl ?_
  refine go_gI (pc := 173) (v := V 0 13) fX6_110 (by decide) (show TM 0 = (6 + 5, 29) from rfl) dX6_note_173 rfl ?_
  refine go_iload_n (pc := 176) dX6_note_176 rfl rfl ?_
  obtain ⟨c4, h⟩ := ok_not h
  refine go_iast (pc := 177) (show TM 13 = (0, 60) from rfl) (vin c4) dX6_note_177 ?_
  refine go_aload_n (pc := 178) dX6_note_178 rfl rfl ?_
  refine go_getP (pc := 179) (a := 14) fX6_53 (by decide) (show TM 0 = (6 + 5, 29) from rfl) rfl dX6_note_179 ?_
  refine go_aload_n (pc := 182) dX6_note_182 rfl rfl ?_
  refine go_gI (pc := 183) (v := V 0 13) fX6_110 (by decide) (show TM 0 = (6 + 5, 29) from rfl) dX6_note_183 rfl ?_
  refine go_iload (pc := 186) dX6_note_186 rfl ?_
  obtain ⟨c5, h⟩ := ok_not h
  refine go_iast (pc := 188) (show TM 14 = (0, 60) from rfl) (vin c5) dX6_note_188 ?_
  refine go_aload_n (pc := 189) dX6_note_189 rfl rfl ?_
  refine go_dup (pc := 190) dX6_note_190 ?_
  refine go_gI (pc := 191) (v := V 0 13) fX6_110 (by decide) (show TM 0 = (6 + 5, 29) from rfl) dX6_note_191 rfl ?_
  refine go_iconst (pc := 194) (v := 1) dX6_note_194 ci_1 ?_
  refine go_iadd (pc := 195) dX6_note_195 ?_
  refine go_putI (pc := 196) (k := 13) fX6_110 (Or.inl rfl) (Or.inl rfl) (show TM 0 = (6 + 5, 29) from rfl) dX6_note_196 ?_
  cases h
  exact go_vret (pc := 199) rfl ⟨Nat.zero_le _, Nat.zero_le _⟩ dX6_note_199
def eX6_note_b59 : Nat → Int32 → Int32 → Int32 → Int32 → Int32 → Mm → Option (Mm)
  | 0, _, _, _, _, _, _ => none
  | n + 1, l1, l2, l3, l4, l6, V => 
    if 60 ≤ (l6 + 1) then
      eX6_note_b148 l1 l2 l3 l4 (wr V 0 13 ((V 0 13) - 1))
    else
      if (l6 + 1) < 0 ∨ 60 ≤ (l6 + 1).toNatClampNeg then none else
      if l6 < 0 ∨ 60 ≤ l6.toNatClampNeg then none else
      if (l6 + 1) < 0 ∨ 60 ≤ (l6 + 1).toNatClampNeg then none else
      if l6 < 0 ∨ 60 ≤ l6.toNatClampNeg then none else
      if (l6 + 1) < 0 ∨ 60 ≤ (l6 + 1).toNatClampNeg then none else
      if l6 < 0 ∨ 60 ≤ l6.toNatClampNeg then none else
      if (l6 + 1) < 0 ∨ 60 ≤ (l6 + 1).toNatClampNeg then none else
      if l6 < 0 ∨ 60 ≤ l6.toNatClampNeg then none else
      eX6_note_b59 n l1 l2 l3 l4 (l6 + 1) (wr (wr (wr (wr V 11 l6.toNatClampNeg (V 11 ((l6 + 1).toNatClampNeg))) 12 l6.toNatClampNeg (V 12 ((l6 + 1).toNatClampNeg))) 13 l6.toNatClampNeg (V 13 ((l6 + 1).toNatClampNeg))) 14 l6.toNatClampNeg (V 14 ((l6 + 1).toNatClampNeg)))
set_option maxHeartbeats 4000000 in
set_option maxRecDepth 100000 in
theorem gX6_note_b59 : ∀ (n : Nat) (l1 : Int32) (l2 : Int32) (l3 : Int32) (l4 : Int32) (l6 : Int32) (V : Mm) (res : Mm) , eX6_note_b59 n l1 l2 l3 l4 l6 V = some res → Go mX6_note 59 [some (.ref 0), some (.int l1), some (.int l2), some (.int l3), some (.int l4), none, some (.int l6)] [] (hM V) 0 0 none (hM res) := by
  intro n
  induction n with
  | zero =>
    intro l1 l2 l3 l4 l6 V res  h
    cases h
  | succ n ih =>
    intro l1 l2 l3 l4 l6 V res  h
    rw [eX6_note_b59] at h
    refine go_iload (pc := 59) dX6_note_59 rfl ?_
    refine go_iconst (pc := 61) (v := 1) dX6_note_61 ci_1 ?_
    refine go_iadd (pc := 62) dX6_note_62 ?_
    refine go_bipush (pc := 63) (v := 60) dX6_note_63 cb_60 ?_
    refine go_icmp_ge (pc := 65) (tgt := 138) dX6_note_65 rfl (fun c10 => ?_) (fun c10 => ?_)
    · replace h := ifp h c10
      refine go_aload_n (pc := 138) dX6_note_138 rfl rfl ?_
      refine go_dup (pc := 139) dX6_note_139 ?_
      refine go_gI (pc := 140) (v := V 0 13) fX6_110 (by decide) (show TM 0 = (6 + 5, 29) from rfl) dX6_note_140 rfl ?_
      refine go_iconst (pc := 143) (v := 1) dX6_note_143 ci_1 ?_
      refine go_isub (pc := 144) dX6_note_144 ?_
      refine go_putI (pc := 145) (k := 13) fX6_110 (Or.inl rfl) (Or.inl rfl) (show TM 0 = (6 + 5, 29) from rfl) dX6_note_145 ?_
      refine go_le (lle_s (lle_s (lle_s (lle_s (lle_s (lle_n (lle_n lle_0))))))) ?_
      exact gX6_note_b148  h
    · replace h := ifn h c10
      refine go_aload_n (pc := 68) dX6_note_68 rfl rfl ?_
      refine go_getP (pc := 69) (a := 11) fX6_44 (by decide) (show TM 0 = (6 + 5, 29) from rfl) rfl dX6_note_69 ?_
      refine go_iload (pc := 72) dX6_note_72 rfl ?_
      refine go_aload_n (pc := 74) dX6_note_74 rfl rfl ?_
      refine go_getP (pc := 75) (a := 11) fX6_44 (by decide) (show TM 0 = (6 + 5, 29) from rfl) rfl dX6_note_75 ?_
      refine go_iload (pc := 78) dX6_note_78 rfl ?_
      refine go_iconst (pc := 80) (v := 1) dX6_note_80 ci_1 ?_
      refine go_iadd (pc := 81) dX6_note_81 ?_
      obtain ⟨c11, h⟩ := ok_not h
      refine go_ia (pc := 82) (v := V 11 ((l6 + 1).toNatClampNeg)) (show TM 11 = (0, 60) from rfl) (vin c11) dX6_note_82 rfl ?_
      obtain ⟨c12, h⟩ := ok_not h
      refine go_iast (pc := 83) (show TM 11 = (0, 60) from rfl) (vin c12) dX6_note_83 ?_
      refine go_aload_n (pc := 84) dX6_note_84 rfl rfl ?_
      refine go_getP (pc := 85) (a := 12) fX6_47 (by decide) (show TM 0 = (6 + 5, 29) from rfl) rfl dX6_note_85 ?_
      refine go_iload (pc := 88) dX6_note_88 rfl ?_
      refine go_aload_n (pc := 90) dX6_note_90 rfl rfl ?_
      refine go_getP (pc := 91) (a := 12) fX6_47 (by decide) (show TM 0 = (6 + 5, 29) from rfl) rfl dX6_note_91 ?_
      refine go_iload (pc := 94) dX6_note_94 rfl ?_
      refine go_iconst (pc := 96) (v := 1) dX6_note_96 ci_1 ?_
      refine go_iadd (pc := 97) dX6_note_97 ?_
      obtain ⟨c13, h⟩ := ok_not h
      refine go_ia (pc := 98) (v := V 12 ((l6 + 1).toNatClampNeg)) (show TM 12 = (0, 60) from rfl) (vin c13) dX6_note_98 rfl ?_
      obtain ⟨c14, h⟩ := ok_not h
      refine go_iast (pc := 99) (show TM 12 = (0, 60) from rfl) (vin c14) dX6_note_99 ?_
      refine go_aload_n (pc := 100) dX6_note_100 rfl rfl ?_
      refine go_getP (pc := 101) (a := 13) fX6_50 (by decide) (show TM 0 = (6 + 5, 29) from rfl) rfl dX6_note_101 ?_
      refine go_iload (pc := 104) dX6_note_104 rfl ?_
      refine go_aload_n (pc := 106) dX6_note_106 rfl rfl ?_
      refine go_getP (pc := 107) (a := 13) fX6_50 (by decide) (show TM 0 = (6 + 5, 29) from rfl) rfl dX6_note_107 ?_
      refine go_iload (pc := 110) dX6_note_110 rfl ?_
      refine go_iconst (pc := 112) (v := 1) dX6_note_112 ci_1 ?_
      refine go_iadd (pc := 113) dX6_note_113 ?_
      obtain ⟨c15, h⟩ := ok_not h
      refine go_ia (pc := 114) (v := V 13 ((l6 + 1).toNatClampNeg)) (show TM 13 = (0, 60) from rfl) (vin c15) dX6_note_114 rfl ?_
      obtain ⟨c16, h⟩ := ok_not h
      refine go_iast (pc := 115) (show TM 13 = (0, 60) from rfl) (vin c16) dX6_note_115 ?_
      refine go_aload_n (pc := 116) dX6_note_116 rfl rfl ?_
      refine go_getP (pc := 117) (a := 14) fX6_53 (by decide) (show TM 0 = (6 + 5, 29) from rfl) rfl dX6_note_117 ?_
      refine go_iload (pc := 120) dX6_note_120 rfl ?_
      refine go_aload_n (pc := 122) dX6_note_122 rfl rfl ?_
      refine go_getP (pc := 123) (a := 14) fX6_53 (by decide) (show TM 0 = (6 + 5, 29) from rfl) rfl dX6_note_123 ?_
      refine go_iload (pc := 126) dX6_note_126 rfl ?_
      refine go_iconst (pc := 128) (v := 1) dX6_note_128 ci_1 ?_
      refine go_iadd (pc := 129) dX6_note_129 ?_
      obtain ⟨c17, h⟩ := ok_not h
      refine go_ia (pc := 130) (v := V 14 ((l6 + 1).toNatClampNeg)) (show TM 14 = (0, 60) from rfl) (vin c17) dX6_note_130 rfl ?_
      obtain ⟨c18, h⟩ := ok_not h
      refine go_iast (pc := 131) (show TM 14 = (0, 60) from rfl) (vin c18) dX6_note_131 ?_
      refine go_iinc (pc := 132) (v := (l6 + 1)) dX6_note_132 rfl (by rw [ci_1]) (Nat.le_of_ble_eq_true rfl) (L2 := [some (.ref 0), some (.int l1), some (.int l2), some (.int l3), some (.int l4), none, some (.int (l6 + 1))]) rfl ?_
      refine go_goto (pc := 135) (tgt := 59) dX6_note_135 rfl ?_
      exact ih _ _ _ _ _ _ _  h
def eX6_note (a1 : Int32) (a2 : Int32) (a3 : Int32) (a4 : Int32) (V : Mm) : Option (Mm) :=
  if (V 0 13) = 60 then
    if V 11 0 < 0 ∨ 3 ≤ (V 11 0).toNatClampNeg then none else
    if (V 12 0) ≤ (V 15 ((V 11 0).toNatClampNeg)) then
      if V 11 0 < 0 ∨ 3 ≤ (V 11 0).toNatClampNeg then none else
      if V 11 0 < 0 ∨ 3 ≤ (V 11 0).toNatClampNeg then none else
      eX6_note_b59 fu a1 a2 a3 a4 0 (wr V 15 ((V 11 0).toNatClampNeg) (V 15 ((V 11 0).toNatClampNeg)))
    else
      if V 11 0 < 0 ∨ 3 ≤ (V 11 0).toNatClampNeg then none else
      eX6_note_b59 fu a1 a2 a3 a4 0 (wr V 15 ((V 11 0).toNatClampNeg) (V 12 0))
  else
    eX6_note_b148 a1 a2 a3 a4 V
set_option maxHeartbeats 4000000 in
set_option maxRecDepth 100000 in
theorem E_X6_note {a1 : Int32} {a2 : Int32} {a3 : Int32} {a4 : Int32} {V : Mm} {res : Mm}  (h : eX6_note a1 a2 a3 a4 V = some res) : Ev mX6_note [.ref 0, .int a1, .int a2, .int a3, .int a4] (hM V) none (hM res) := by
  refine Ev.of (n := 2) oX6_note.1 (Nat.le_of_ble_eq_true rfl) ?_
  unfold eX6_note at h
  show Go mX6_note 0 [some (.ref 0), some (.int a1), some (.int a2), some (.int a3), some (.int a4), none, none] [] (hM V) 0 0 none (hM res)
  refine go_aload_n (pc := 0) dX6_note_0 rfl rfl ?_
  refine go_gI (pc := 1) (v := V 0 13) fX6_110 (by decide) (show TM 0 = (6 + 5, 29) from rfl) dX6_note_1 rfl ?_
  refine go_bipush (pc := 4) (v := 60) dX6_note_4 cb_60 ?_
  refine go_icmp_ne (pc := 6) (tgt := 148) dX6_note_6 rfl (fun c1 => ?_) (fun c1 => ?_)
  · replace h := ifn h c1
    exact gX6_note_b148  h
  · replace h := ifp h c1
    refine go_aload_n (pc := 9) dX6_note_9 rfl rfl ?_
    refine go_getP (pc := 10) (a := 11) fX6_44 (by decide) (show TM 0 = (6 + 5, 29) from rfl) rfl dX6_note_10 ?_
    refine go_iconst (pc := 13) (v := 0) dX6_note_13 ci_0 ?_
    refine go_ia (pc := 14) (v := V 11 0) (show TM 11 = (0, 60) from rfl) (vin (by decide)) dX6_note_14 rfl ?_
    refine go_istore (pc := 15) (i := 5) dX6_note_15 (Nat.le_of_ble_eq_true rfl) (L2 := [some (.ref 0), some (.int a1), some (.int a2), some (.int a3), some (.int a4), some (.int (V 11 0)), none]) rfl ?_
    refine go_aload_n (pc := 17) dX6_note_17 rfl rfl ?_
    refine go_getP (pc := 18) (a := 15) fX6_56 (by decide) (show TM 0 = (6 + 5, 29) from rfl) rfl dX6_note_18 ?_
    refine go_iload (pc := 21) dX6_note_21 rfl ?_
    refine go_aload_n (pc := 23) dX6_note_23 rfl rfl ?_
    refine go_getP (pc := 24) (a := 12) fX6_47 (by decide) (show TM 0 = (6 + 5, 29) from rfl) rfl dX6_note_24 ?_
    refine go_iconst (pc := 27) (v := 0) dX6_note_27 ci_0 ?_
    refine go_ia (pc := 28) (v := V 12 0) (show TM 12 = (0, 60) from rfl) (vin (by decide)) dX6_note_28 rfl ?_
    refine go_aload_n (pc := 29) dX6_note_29 rfl rfl ?_
    refine go_getP (pc := 30) (a := 15) fX6_56 (by decide) (show TM 0 = (6 + 5, 29) from rfl) rfl dX6_note_30 ?_
    refine go_iload (pc := 33) dX6_note_33 rfl ?_
    obtain ⟨c6, h⟩ := ok_not h
    refine go_ia (pc := 35) (v := V 15 ((V 11 0).toNatClampNeg)) (show TM 15 = (0, 3) from rfl) (vin c6) dX6_note_35 rfl ?_
    refine go_icmp_le (pc := 36) (tgt := 48) dX6_note_36 rfl (fun c7 => ?_) (fun c7 => ?_)
    · replace h := ifp h c7
      refine go_aload_n (pc := 48) dX6_note_48 rfl rfl ?_
      refine go_getP (pc := 49) (a := 15) fX6_56 (by decide) (show TM 0 = (6 + 5, 29) from rfl) rfl dX6_note_49 ?_
      refine go_iload (pc := 52) dX6_note_52 rfl ?_
      obtain ⟨c8, h⟩ := ok_not h
      refine go_ia (pc := 54) (v := V 15 ((V 11 0).toNatClampNeg)) (show TM 15 = (0, 3) from rfl) (vin c8) dX6_note_54 rfl ?_
      obtain ⟨c9, h⟩ := ok_not h
      refine go_iast (pc := 55) (show TM 15 = (0, 3) from rfl) (vin c9) dX6_note_55 ?_
      refine go_iconst (pc := 56) (v := 0) dX6_note_56 ci_0 ?_
      refine go_istore (pc := 57) (i := 6) dX6_note_57 (Nat.le_of_ble_eq_true rfl) (L2 := [some (.ref 0), some (.int a1), some (.int a2), some (.int a3), some (.int a4), some (.int (V 11 0)), some (.int 0)]) rfl ?_
      refine go_le (lle_s (lle_s (lle_s (lle_s (lle_s (lle_n (lle_s lle_0))))))) ?_
      exact gX6_note_b59 _ _ _ _ _ _ _ _  h
    · replace h := ifn h c7
      refine go_aload_n (pc := 39) dX6_note_39 rfl rfl ?_
      refine go_getP (pc := 40) (a := 12) fX6_47 (by decide) (show TM 0 = (6 + 5, 29) from rfl) rfl dX6_note_40 ?_
      refine go_iconst (pc := 43) (v := 0) dX6_note_43 ci_0 ?_
      refine go_ia (pc := 44) (v := V 12 0) (show TM 12 = (0, 60) from rfl) (vin (by decide)) dX6_note_44 rfl ?_
      refine go_goto (pc := 45) (tgt := 55) dX6_note_45 rfl ?_
      obtain ⟨c19, h⟩ := ok_not h
      refine go_iast (pc := 55) (show TM 15 = (0, 3) from rfl) (vin c19) dX6_note_55 ?_
      refine go_iconst (pc := 56) (v := 0) dX6_note_56 ci_0 ?_
      refine go_istore (pc := 57) (i := 6) dX6_note_57 (Nat.le_of_ble_eq_true rfl) (L2 := [some (.ref 0), some (.int a1), some (.int a2), some (.int a3), some (.int a4), some (.int (V 11 0)), some (.int 0)]) rfl ?_
      refine go_le (lle_s (lle_s (lle_s (lle_s (lle_s (lle_n (lle_s lle_0))))))) ?_
      exact gX6_note_b59 _ _ _ _ _ _ _ _  h
def eX6_isOther_b164 (k117 : Int32 → Int32 → Int32 → Mm → Option (Int32)) (l2 : Int32) (l3 : Int32) (l4 : Int32) (s0 : Int32) (V : Mm) : Option (Int32) :=
  (eX6_isMail 2 l4 V).bind fun r8 =>
  if r8 = 0 then
    if s0 = 0 then
      k117 l2 (l3 ||| 0) (l4 + 1) V
    else
      k117 l2 (l3 ||| 1) (l4 + 1) V
  else
    (eX6_mailPart 2 l4 8 V).bind fun r12 =>
    if r12 = l2 then
      if s0 = 1 then
        k117 l2 (l3 ||| 0) (l4 + 1) V
      else
        k117 l2 (l3 ||| 1) (l4 + 1) V
    else
      if s0 = 0 then
        k117 l2 (l3 ||| 0) (l4 + 1) V
      else
        k117 l2 (l3 ||| 1) (l4 + 1) V
set_option maxHeartbeats 4000000 in
set_option maxRecDepth 100000 in
theorem gX6_isOther_b164 {k117 : Int32 → Int32 → Int32 → Mm → Option (Int32)} (hk117 : ∀ (l2 : Int32) (l3 : Int32) (l4 : Int32) (V : Mm) (res : Int32) , k117 l2 l3 l4 V = some res → Go mX6_isOther 117 [some (.ref 0), none, some (.int l2), some (.int l3), some (.int l4), none, none] [] (hM V) 0 0 (some (.int res)) (hM V)) {l2 : Int32} {l3 : Int32} {l4 : Int32} {s0 : Int32} {V : Mm} {res : Int32}  (h : eX6_isOther_b164 k117 l2 l3 l4 s0 V = some res) : Go mX6_isOther 164 [some (.ref 0), none, some (.int l2), some (.int l3), some (.int l4), none, none] [.int s0] (hM V) 0 0 (some (.int res)) (hM V) := by
  unfold eX6_isOther_b164 at h
  refine go_istore (pc := 164) (i := 5) dX6_isOther_164 (Nat.le_of_ble_eq_true rfl) (L2 := [some (.ref 0), none, some (.int l2), some (.int l3), some (.int l4), some (.int s0), none]) rfl ?_
  refine go_aload_n (pc := 166) dX6_isOther_166 rfl rfl ?_
  refine go_aload_n (pc := 167) dX6_isOther_167 rfl rfl ?_
  refine go_getP (pc := 168) (a := 2) fX6_13 (by decide) (show TM 0 = (6 + 5, 29) from rfl) rfl dX6_isOther_168 ?_
  refine go_iload (pc := 171) dX6_isOther_171 rfl ?_
  obtain ⟨r8, e9, h⟩ := ok_bind h
  refine go_cV (pc := 173) (ci := 6) (As := [.ref 2, .int l4]) (st := []) (E_X6_isMail isW_2 e9) rfl oX6_isMail iX6_isMail sX6_isMail kX6_81 rfl (show TM 0 = (6 + 5, 29) from rfl) rfl (Nat.le_of_ble_eq_true rfl) ⟨Nat.le_of_ble_eq_true rfl, Nat.le_of_ble_eq_true rfl⟩ ⟨rfl, rfl⟩ dX6_isOther_173 (st2 := [.int r8]) rfl ?_
  refine go_if_eq (pc := 176) (tgt := 199) dX6_isOther_176 rfl (fun c10 => ?_) (fun c10 => ?_)
  · replace h := ifp h c10
    refine go_iconst (pc := 199) (v := 0) dX6_isOther_199 ci_0 ?_
    refine go_istore (pc := 200) (i := 6) dX6_isOther_200 (Nat.le_of_ble_eq_true rfl) (L2 := [some (.ref 0), none, some (.int l2), some (.int l3), some (.int l4), some (.int s0), some (.int 0)]) rfl ?_
    refine go_iload_n (pc := 202) dX6_isOther_202 rfl rfl ?_
    refine go_iload (pc := 203) dX6_isOther_203 rfl ?_
    refine go_iload (pc := 205) dX6_isOther_205 rfl ?_
    refine go_icmp_eq (pc := 207) (tgt := 214) dX6_isOther_207 rfl (fun c11 => ?_) (fun c11 => ?_)
    · replace h := ifp h c11
      refine go_iconst (pc := 214) (v := 0) dX6_isOther_214 ci_0 ?_
      refine go_ior (pc := 215) dX6_isOther_215 ?_
      refine go_istore_n (pc := 216) (i := 3) dX6_isOther_216 rfl (Nat.le_of_ble_eq_true rfl) (L2 := [some (.ref 0), none, some (.int l2), some (.int (l3 ||| 0)), some (.int l4), some (.int s0), some (.int 0)]) rfl ?_
      refine go_iinc (pc := 217) (v := (l4 + 1)) dX6_isOther_217 rfl (by rw [ci_1]) (Nat.le_of_ble_eq_true rfl) (L2 := [some (.ref 0), none, some (.int l2), some (.int (l3 ||| 0)), some (.int (l4 + 1)), some (.int s0), some (.int 0)]) rfl ?_
      refine go_goto (pc := 220) (tgt := 117) dX6_isOther_220 rfl ?_
      refine go_le (lle_s (lle_n (lle_s (lle_s (lle_s (lle_n (lle_n lle_0))))))) ?_
      exact hk117 _ _ _ _ _  h
    · replace h := ifn h c11
      refine go_iconst (pc := 210) (v := 1) dX6_isOther_210 ci_1 ?_
      refine go_goto (pc := 211) (tgt := 215) dX6_isOther_211 rfl ?_
      refine go_ior (pc := 215) dX6_isOther_215 ?_
      refine go_istore_n (pc := 216) (i := 3) dX6_isOther_216 rfl (Nat.le_of_ble_eq_true rfl) (L2 := [some (.ref 0), none, some (.int l2), some (.int (l3 ||| 1)), some (.int l4), some (.int s0), some (.int 0)]) rfl ?_
      refine go_iinc (pc := 217) (v := (l4 + 1)) dX6_isOther_217 rfl (by rw [ci_1]) (Nat.le_of_ble_eq_true rfl) (L2 := [some (.ref 0), none, some (.int l2), some (.int (l3 ||| 1)), some (.int (l4 + 1)), some (.int s0), some (.int 0)]) rfl ?_
      refine go_goto (pc := 220) (tgt := 117) dX6_isOther_220 rfl ?_
      refine go_le (lle_s (lle_n (lle_s (lle_s (lle_s (lle_n (lle_n lle_0))))))) ?_
      exact hk117 _ _ _ _ _  h
  · replace h := ifn h c10
    refine go_aload_n (pc := 179) dX6_isOther_179 rfl rfl ?_
    refine go_aload_n (pc := 180) dX6_isOther_180 rfl rfl ?_
    refine go_getP (pc := 181) (a := 2) fX6_13 (by decide) (show TM 0 = (6 + 5, 29) from rfl) rfl dX6_isOther_181 ?_
    refine go_iload (pc := 184) dX6_isOther_184 rfl ?_
    refine go_bipush (pc := 186) (v := 8) dX6_isOther_186 cb_8 ?_
    obtain ⟨r12, e13, h⟩ := ok_bind h
    refine go_cV (pc := 188) (ci := 6) (As := [.ref 2, .int l4, .int 8]) (st := []) (E_X6_mailPart isW_2 e13) rfl oX6_mailPart iX6_mailPart sX6_mailPart kX6_85 rfl (show TM 0 = (6 + 5, 29) from rfl) rfl (Nat.le_of_ble_eq_true rfl) ⟨Nat.le_of_ble_eq_true rfl, Nat.le_of_ble_eq_true rfl⟩ ⟨rfl, rfl⟩ dX6_isOther_188 (st2 := [.int r12]) rfl ?_
    refine go_iload_n (pc := 191) dX6_isOther_191 rfl rfl ?_
    refine go_icmp_ne (pc := 192) (tgt := 199) dX6_isOther_192 rfl (fun c14 => ?_) (fun c14 => ?_)
    · replace h := ifn h c14
      refine go_iconst (pc := 199) (v := 0) dX6_isOther_199 ci_0 ?_
      refine go_istore (pc := 200) (i := 6) dX6_isOther_200 (Nat.le_of_ble_eq_true rfl) (L2 := [some (.ref 0), none, some (.int l2), some (.int l3), some (.int l4), some (.int s0), some (.int 0)]) rfl ?_
      refine go_iload_n (pc := 202) dX6_isOther_202 rfl rfl ?_
      refine go_iload (pc := 203) dX6_isOther_203 rfl ?_
      refine go_iload (pc := 205) dX6_isOther_205 rfl ?_
      refine go_icmp_eq (pc := 207) (tgt := 214) dX6_isOther_207 rfl (fun c15 => ?_) (fun c15 => ?_)
      · replace h := ifp h c15
        refine go_iconst (pc := 214) (v := 0) dX6_isOther_214 ci_0 ?_
        refine go_ior (pc := 215) dX6_isOther_215 ?_
        refine go_istore_n (pc := 216) (i := 3) dX6_isOther_216 rfl (Nat.le_of_ble_eq_true rfl) (L2 := [some (.ref 0), none, some (.int l2), some (.int (l3 ||| 0)), some (.int l4), some (.int s0), some (.int 0)]) rfl ?_
        refine go_iinc (pc := 217) (v := (l4 + 1)) dX6_isOther_217 rfl (by rw [ci_1]) (Nat.le_of_ble_eq_true rfl) (L2 := [some (.ref 0), none, some (.int l2), some (.int (l3 ||| 0)), some (.int (l4 + 1)), some (.int s0), some (.int 0)]) rfl ?_
        refine go_goto (pc := 220) (tgt := 117) dX6_isOther_220 rfl ?_
        refine go_le (lle_s (lle_n (lle_s (lle_s (lle_s (lle_n (lle_n lle_0))))))) ?_
        exact hk117 _ _ _ _ _  h
      · replace h := ifn h c15
        refine go_iconst (pc := 210) (v := 1) dX6_isOther_210 ci_1 ?_
        refine go_goto (pc := 211) (tgt := 215) dX6_isOther_211 rfl ?_
        refine go_ior (pc := 215) dX6_isOther_215 ?_
        refine go_istore_n (pc := 216) (i := 3) dX6_isOther_216 rfl (Nat.le_of_ble_eq_true rfl) (L2 := [some (.ref 0), none, some (.int l2), some (.int (l3 ||| 1)), some (.int l4), some (.int s0), some (.int 0)]) rfl ?_
        refine go_iinc (pc := 217) (v := (l4 + 1)) dX6_isOther_217 rfl (by rw [ci_1]) (Nat.le_of_ble_eq_true rfl) (L2 := [some (.ref 0), none, some (.int l2), some (.int (l3 ||| 1)), some (.int (l4 + 1)), some (.int s0), some (.int 0)]) rfl ?_
        refine go_goto (pc := 220) (tgt := 117) dX6_isOther_220 rfl ?_
        refine go_le (lle_s (lle_n (lle_s (lle_s (lle_s (lle_n (lle_n lle_0))))))) ?_
        exact hk117 _ _ _ _ _  h
    · replace h := ifp h c14
      refine go_iconst (pc := 195) (v := 1) dX6_isOther_195 ci_1 ?_
      refine go_goto (pc := 196) (tgt := 200) dX6_isOther_196 rfl ?_
      refine go_istore (pc := 200) (i := 6) dX6_isOther_200 (Nat.le_of_ble_eq_true rfl) (L2 := [some (.ref 0), none, some (.int l2), some (.int l3), some (.int l4), some (.int s0), some (.int 1)]) rfl ?_
      refine go_iload_n (pc := 202) dX6_isOther_202 rfl rfl ?_
      refine go_iload (pc := 203) dX6_isOther_203 rfl ?_
      refine go_iload (pc := 205) dX6_isOther_205 rfl ?_
      refine go_icmp_eq (pc := 207) (tgt := 214) dX6_isOther_207 rfl (fun c16 => ?_) (fun c16 => ?_)
      · replace h := ifp h c16
        refine go_iconst (pc := 214) (v := 0) dX6_isOther_214 ci_0 ?_
        refine go_ior (pc := 215) dX6_isOther_215 ?_
        refine go_istore_n (pc := 216) (i := 3) dX6_isOther_216 rfl (Nat.le_of_ble_eq_true rfl) (L2 := [some (.ref 0), none, some (.int l2), some (.int (l3 ||| 0)), some (.int l4), some (.int s0), some (.int 1)]) rfl ?_
        refine go_iinc (pc := 217) (v := (l4 + 1)) dX6_isOther_217 rfl (by rw [ci_1]) (Nat.le_of_ble_eq_true rfl) (L2 := [some (.ref 0), none, some (.int l2), some (.int (l3 ||| 0)), some (.int (l4 + 1)), some (.int s0), some (.int 1)]) rfl ?_
        refine go_goto (pc := 220) (tgt := 117) dX6_isOther_220 rfl ?_
        refine go_le (lle_s (lle_n (lle_s (lle_s (lle_s (lle_n (lle_n lle_0))))))) ?_
        exact hk117 _ _ _ _ _  h
      · replace h := ifn h c16
        refine go_iconst (pc := 210) (v := 1) dX6_isOther_210 ci_1 ?_
        refine go_goto (pc := 211) (tgt := 215) dX6_isOther_211 rfl ?_
        refine go_ior (pc := 215) dX6_isOther_215 ?_
        refine go_istore_n (pc := 216) (i := 3) dX6_isOther_216 rfl (Nat.le_of_ble_eq_true rfl) (L2 := [some (.ref 0), none, some (.int l2), some (.int (l3 ||| 1)), some (.int l4), some (.int s0), some (.int 1)]) rfl ?_
        refine go_iinc (pc := 217) (v := (l4 + 1)) dX6_isOther_217 rfl (by rw [ci_1]) (Nat.le_of_ble_eq_true rfl) (L2 := [some (.ref 0), none, some (.int l2), some (.int (l3 ||| 1)), some (.int (l4 + 1)), some (.int s0), some (.int 1)]) rfl ?_
        refine go_goto (pc := 220) (tgt := 117) dX6_isOther_220 rfl ?_
        refine go_le (lle_s (lle_n (lle_s (lle_s (lle_s (lle_n (lle_n lle_0))))))) ?_
        exact hk117 _ _ _ _ _  h
def eX6_isOther_b117 : Nat → Int32 → Int32 → Int32 → Mm → Option (Int32)
  | 0, _, _, _, _ => none
  | n + 1, l2, l3, l4, V => 
    if (V 1 581) ≤ l4 then
      if l3 = 0 ∨ l3 = 1 then
        some l3
      else none
    else
      (eX6_isMail 1 l4 V).bind fun r5 =>
      if r5 = 0 then
        eX6_isOther_b164 (fun l2 l3 l4 V => eX6_isOther_b117 n l2 l3 l4 V) l2 l3 l4 0 V
      else
        (eX6_mailPart 1 l4 8 V).bind fun r17 =>
        if r17 = l2 then
          eX6_isOther_b164 (fun l2 l3 l4 V => eX6_isOther_b117 n l2 l3 l4 V) l2 l3 l4 1 V
        else
          eX6_isOther_b164 (fun l2 l3 l4 V => eX6_isOther_b117 n l2 l3 l4 V) l2 l3 l4 0 V
set_option maxHeartbeats 4000000 in
set_option maxRecDepth 100000 in
theorem gX6_isOther_b117 : ∀ (n : Nat) (l2 : Int32) (l3 : Int32) (l4 : Int32) (V : Mm) (res : Int32) , eX6_isOther_b117 n l2 l3 l4 V = some res → Go mX6_isOther 117 [some (.ref 0), none, some (.int l2), some (.int l3), some (.int l4), none, none] [] (hM V) 0 0 (some (.int res)) (hM V) := by
  intro n
  induction n with
  | zero =>
    intro l2 l3 l4 V res  h
    cases h
  | succ n ih =>
    intro l2 l3 l4 V res  h
    rw [eX6_isOther_b117] at h
    refine go_iload (pc := 117) dX6_isOther_117 rfl ?_
    refine go_aload_n (pc := 119) dX6_isOther_119 rfl rfl ?_
    refine go_getP (pc := 120) (a := 1) fX6_7 (by decide) (show TM 0 = (6 + 5, 29) from rfl) rfl dX6_isOther_120 ?_
    refine go_sipush (pc := 123) (v := 581) dX6_isOther_123 cs_581 ?_
    refine go_ia (pc := 126) (v := V 1 581) (show TM 1 = (0, 586) from rfl) (vin (by decide)) dX6_isOther_126 rfl ?_
    refine go_icmp_ge (pc := 127) (tgt := 223) dX6_isOther_127 rfl (fun c3 => ?_) (fun c3 => ?_)
    · replace h := ifp h c3
      refine go_iload_n (pc := 223) dX6_isOther_223 rfl rfl ?_
      obtain ⟨c4, h⟩ := ok_if h
      cases h
      exact go_iret (pc := 224) (Or.inr ⟨rfl, c4⟩) ⟨Nat.zero_le _, Nat.zero_le _⟩ dX6_isOther_224
    · replace h := ifn h c3
      refine go_aload_n (pc := 130) dX6_isOther_130 rfl rfl ?_
      refine go_aload_n (pc := 131) dX6_isOther_131 rfl rfl ?_
      refine go_getP (pc := 132) (a := 1) fX6_7 (by decide) (show TM 0 = (6 + 5, 29) from rfl) rfl dX6_isOther_132 ?_
      refine go_iload (pc := 135) dX6_isOther_135 rfl ?_
      obtain ⟨r5, e6, h⟩ := ok_bind h
      refine go_cV (pc := 137) (ci := 6) (As := [.ref 1, .int l4]) (st := []) (E_X6_isMail isW_1 e6) rfl oX6_isMail iX6_isMail sX6_isMail kX6_81 rfl (show TM 0 = (6 + 5, 29) from rfl) rfl (Nat.le_of_ble_eq_true rfl) ⟨Nat.le_of_ble_eq_true rfl, Nat.le_of_ble_eq_true rfl⟩ ⟨rfl, rfl⟩ dX6_isOther_137 (st2 := [.int r5]) rfl ?_
      refine go_if_eq (pc := 140) (tgt := 163) dX6_isOther_140 rfl (fun c7 => ?_) (fun c7 => ?_)
      · replace h := ifp h c7
        refine go_iconst (pc := 163) (v := 0) dX6_isOther_163 ci_0 ?_
        exact gX6_isOther_b164 ih  h
      · replace h := ifn h c7
        refine go_aload_n (pc := 143) dX6_isOther_143 rfl rfl ?_
        refine go_aload_n (pc := 144) dX6_isOther_144 rfl rfl ?_
        refine go_getP (pc := 145) (a := 1) fX6_7 (by decide) (show TM 0 = (6 + 5, 29) from rfl) rfl dX6_isOther_145 ?_
        refine go_iload (pc := 148) dX6_isOther_148 rfl ?_
        refine go_bipush (pc := 150) (v := 8) dX6_isOther_150 cb_8 ?_
        obtain ⟨r17, e18, h⟩ := ok_bind h
        refine go_cV (pc := 152) (ci := 6) (As := [.ref 1, .int l4, .int 8]) (st := []) (E_X6_mailPart isW_1 e18) rfl oX6_mailPart iX6_mailPart sX6_mailPart kX6_85 rfl (show TM 0 = (6 + 5, 29) from rfl) rfl (Nat.le_of_ble_eq_true rfl) ⟨Nat.le_of_ble_eq_true rfl, Nat.le_of_ble_eq_true rfl⟩ ⟨rfl, rfl⟩ dX6_isOther_152 (st2 := [.int r17]) rfl ?_
        refine go_iload_n (pc := 155) dX6_isOther_155 rfl rfl ?_
        refine go_icmp_ne (pc := 156) (tgt := 163) dX6_isOther_156 rfl (fun c19 => ?_) (fun c19 => ?_)
        · replace h := ifn h c19
          refine go_iconst (pc := 163) (v := 0) dX6_isOther_163 ci_0 ?_
          exact gX6_isOther_b164 ih  h
        · replace h := ifp h c19
          refine go_iconst (pc := 159) (v := 1) dX6_isOther_159 ci_1 ?_
          refine go_goto (pc := 160) (tgt := 164) dX6_isOther_160 rfl ?_
          exact gX6_isOther_b164 ih  h
def eX6_isOther_b65 : Nat → Int32 → Int32 → Int32 → Mm → Option (Int32)
  | 0, _, _, _, _ => none
  | n + 1, l2, l3, l4, V => 
    if 10 ≤ l4 then
      if l3 = 0 ∨ l3 = 1 then
        some l3
      else none
    else
      (eX6_mailPart 1 l2 l4 V).bind fun r22 =>
      (eX6_mailPart 2 l2 l4 V).bind fun r24 =>
      if r22 = r24 then
        eX6_isOther_b65 n l2 (l3 ||| 0) (l4 + 1) V
      else
        eX6_isOther_b65 n l2 (l3 ||| 1) (l4 + 1) V
set_option maxHeartbeats 4000000 in
set_option maxRecDepth 100000 in
theorem gX6_isOther_b65 : ∀ (n : Nat) (l2 : Int32) (l3 : Int32) (l4 : Int32) (V : Mm) (res : Int32) , eX6_isOther_b65 n l2 l3 l4 V = some res → Go mX6_isOther 65 [some (.ref 0), none, some (.int l2), some (.int l3), some (.int l4), none, none] [] (hM V) 0 0 (some (.int res)) (hM V) := by
  intro n
  induction n with
  | zero =>
    intro l2 l3 l4 V res  h
    cases h
  | succ n ih =>
    intro l2 l3 l4 V res  h
    rw [eX6_isOther_b65] at h
    refine go_iload (pc := 65) dX6_isOther_65 rfl ?_
    refine go_bipush (pc := 67) (v := 10) dX6_isOther_67 cb_10 ?_
    refine go_icmp_ge (pc := 69) (tgt := 111) dX6_isOther_69 rfl (fun c20 => ?_) (fun c20 => ?_)
    · replace h := ifp h c20
      refine go_goto (pc := 111) (tgt := 223) dX6_isOther_111 rfl ?_
      refine go_iload_n (pc := 223) dX6_isOther_223 rfl rfl ?_
      obtain ⟨c21, h⟩ := ok_if h
      cases h
      exact go_iret (pc := 224) (Or.inr ⟨rfl, c21⟩) ⟨Nat.zero_le _, Nat.zero_le _⟩ dX6_isOther_224
    · replace h := ifn h c20
      refine go_iload_n (pc := 72) dX6_isOther_72 rfl rfl ?_
      refine go_aload_n (pc := 73) dX6_isOther_73 rfl rfl ?_
      refine go_aload_n (pc := 74) dX6_isOther_74 rfl rfl ?_
      refine go_getP (pc := 75) (a := 1) fX6_7 (by decide) (show TM 0 = (6 + 5, 29) from rfl) rfl dX6_isOther_75 ?_
      refine go_iload_n (pc := 78) dX6_isOther_78 rfl rfl ?_
      refine go_iload (pc := 79) dX6_isOther_79 rfl ?_
      obtain ⟨r22, e23, h⟩ := ok_bind h
      refine go_cV (pc := 81) (ci := 6) (As := [.ref 1, .int l2, .int l4]) (st := [.int l3]) (E_X6_mailPart isW_1 e23) rfl oX6_mailPart iX6_mailPart sX6_mailPart kX6_85 rfl (show TM 0 = (6 + 5, 29) from rfl) rfl (Nat.le_of_ble_eq_true rfl) ⟨Nat.le_of_ble_eq_true rfl, Nat.le_of_ble_eq_true rfl⟩ ⟨rfl, rfl⟩ dX6_isOther_81 (st2 := [.int r22, .int l3]) rfl ?_
      refine go_aload_n (pc := 84) dX6_isOther_84 rfl rfl ?_
      refine go_aload_n (pc := 85) dX6_isOther_85 rfl rfl ?_
      refine go_getP (pc := 86) (a := 2) fX6_13 (by decide) (show TM 0 = (6 + 5, 29) from rfl) rfl dX6_isOther_86 ?_
      refine go_iload_n (pc := 89) dX6_isOther_89 rfl rfl ?_
      refine go_iload (pc := 90) dX6_isOther_90 rfl ?_
      obtain ⟨r24, e25, h⟩ := ok_bind h
      refine go_cV (pc := 92) (ci := 6) (As := [.ref 2, .int l2, .int l4]) (st := [.int r22, .int l3]) (E_X6_mailPart isW_2 e25) rfl oX6_mailPart iX6_mailPart sX6_mailPart kX6_85 rfl (show TM 0 = (6 + 5, 29) from rfl) rfl (Nat.le_of_ble_eq_true rfl) ⟨Nat.le_of_ble_eq_true rfl, Nat.le_of_ble_eq_true rfl⟩ ⟨rfl, rfl⟩ dX6_isOther_92 (st2 := [.int r24, .int r22, .int l3]) rfl ?_
      refine go_icmp_eq (pc := 95) (tgt := 102) dX6_isOther_95 rfl (fun c26 => ?_) (fun c26 => ?_)
      · replace h := ifp h c26
        refine go_iconst (pc := 102) (v := 0) dX6_isOther_102 ci_0 ?_
        refine go_ior (pc := 103) dX6_isOther_103 ?_
        refine go_istore_n (pc := 104) (i := 3) dX6_isOther_104 rfl (Nat.le_of_ble_eq_true rfl) (L2 := [some (.ref 0), none, some (.int l2), some (.int (l3 ||| 0)), some (.int l4), none, none]) rfl ?_
        refine go_iinc (pc := 105) (v := (l4 + 1)) dX6_isOther_105 rfl (by rw [ci_1]) (Nat.le_of_ble_eq_true rfl) (L2 := [some (.ref 0), none, some (.int l2), some (.int (l3 ||| 0)), some (.int (l4 + 1)), none, none]) rfl ?_
        refine go_goto (pc := 108) (tgt := 65) dX6_isOther_108 rfl ?_
        exact ih _ _ _ _ _  h
      · replace h := ifn h c26
        refine go_iconst (pc := 98) (v := 1) dX6_isOther_98 ci_1 ?_
        refine go_goto (pc := 99) (tgt := 103) dX6_isOther_99 rfl ?_
        refine go_ior (pc := 103) dX6_isOther_103 ?_
        refine go_istore_n (pc := 104) (i := 3) dX6_isOther_104 rfl (Nat.le_of_ble_eq_true rfl) (L2 := [some (.ref 0), none, some (.int l2), some (.int (l3 ||| 1)), some (.int l4), none, none]) rfl ?_
        refine go_iinc (pc := 105) (v := (l4 + 1)) dX6_isOther_105 rfl (by rw [ci_1]) (Nat.le_of_ble_eq_true rfl) (L2 := [some (.ref 0), none, some (.int l2), some (.int (l3 ||| 1)), some (.int (l4 + 1)), none, none]) rfl ?_
        refine go_goto (pc := 108) (tgt := 65) dX6_isOther_108 rfl ?_
        exact ih _ _ _ _ _  h
def eX6_isOther_b9 : Nat → Int32 → Int32 → Int32 → Mm → Option (Int32)
  | 0, _, _, _, _ => none
  | n + 1, l2, l3, l4, V => 
    if 4 ≤ l4 then
      if l3 = 0 ∨ l3 = 1 then
        some l3
      else none
    else
      (eX6_boxPart 1 l2 l4 V).bind fun r29 =>
      (eX6_boxPart 2 l2 l4 V).bind fun r31 =>
      if r29 = r31 then
        eX6_isOther_b9 n l2 (l3 ||| 0) (l4 + 1) V
      else
        eX6_isOther_b9 n l2 (l3 ||| 1) (l4 + 1) V
set_option maxHeartbeats 4000000 in
set_option maxRecDepth 100000 in
theorem gX6_isOther_b9 : ∀ (n : Nat) (l2 : Int32) (l3 : Int32) (l4 : Int32) (V : Mm) (res : Int32) , eX6_isOther_b9 n l2 l3 l4 V = some res → Go mX6_isOther 9 [some (.ref 0), none, some (.int l2), some (.int l3), some (.int l4), none, none] [] (hM V) 0 0 (some (.int res)) (hM V) := by
  intro n
  induction n with
  | zero =>
    intro l2 l3 l4 V res  h
    cases h
  | succ n ih =>
    intro l2 l3 l4 V res  h
    rw [eX6_isOther_b9] at h
    refine go_iload (pc := 9) dX6_isOther_9 rfl ?_
    refine go_iconst (pc := 11) (v := 4) dX6_isOther_11 ci_4 ?_
    refine go_icmp_ge (pc := 12) (tgt := 54) dX6_isOther_12 rfl (fun c27 => ?_) (fun c27 => ?_)
    · replace h := ifp h c27
      refine go_goto (pc := 54) (tgt := 223) dX6_isOther_54 rfl ?_
      refine go_iload_n (pc := 223) dX6_isOther_223 rfl rfl ?_
      obtain ⟨c28, h⟩ := ok_if h
      cases h
      exact go_iret (pc := 224) (Or.inr ⟨rfl, c28⟩) ⟨Nat.zero_le _, Nat.zero_le _⟩ dX6_isOther_224
    · replace h := ifn h c27
      refine go_iload_n (pc := 15) dX6_isOther_15 rfl rfl ?_
      refine go_aload_n (pc := 16) dX6_isOther_16 rfl rfl ?_
      refine go_aload_n (pc := 17) dX6_isOther_17 rfl rfl ?_
      refine go_getP (pc := 18) (a := 1) fX6_7 (by decide) (show TM 0 = (6 + 5, 29) from rfl) rfl dX6_isOther_18 ?_
      refine go_iload_n (pc := 21) dX6_isOther_21 rfl rfl ?_
      refine go_iload (pc := 22) dX6_isOther_22 rfl ?_
      obtain ⟨r29, e30, h⟩ := ok_bind h
      refine go_cV (pc := 24) (ci := 6) (As := [.ref 1, .int l2, .int l4]) (st := [.int l3]) (E_X6_boxPart isW_1 e30) rfl oX6_boxPart iX6_boxPart sX6_boxPart kX6_96 rfl (show TM 0 = (6 + 5, 29) from rfl) rfl (Nat.le_of_ble_eq_true rfl) ⟨Nat.le_of_ble_eq_true rfl, Nat.le_of_ble_eq_true rfl⟩ ⟨rfl, rfl⟩ dX6_isOther_24 (st2 := [.int r29, .int l3]) rfl ?_
      refine go_aload_n (pc := 27) dX6_isOther_27 rfl rfl ?_
      refine go_aload_n (pc := 28) dX6_isOther_28 rfl rfl ?_
      refine go_getP (pc := 29) (a := 2) fX6_13 (by decide) (show TM 0 = (6 + 5, 29) from rfl) rfl dX6_isOther_29 ?_
      refine go_iload_n (pc := 32) dX6_isOther_32 rfl rfl ?_
      refine go_iload (pc := 33) dX6_isOther_33 rfl ?_
      obtain ⟨r31, e32, h⟩ := ok_bind h
      refine go_cV (pc := 35) (ci := 6) (As := [.ref 2, .int l2, .int l4]) (st := [.int r29, .int l3]) (E_X6_boxPart isW_2 e32) rfl oX6_boxPart iX6_boxPart sX6_boxPart kX6_96 rfl (show TM 0 = (6 + 5, 29) from rfl) rfl (Nat.le_of_ble_eq_true rfl) ⟨Nat.le_of_ble_eq_true rfl, Nat.le_of_ble_eq_true rfl⟩ ⟨rfl, rfl⟩ dX6_isOther_35 (st2 := [.int r31, .int r29, .int l3]) rfl ?_
      refine go_icmp_eq (pc := 38) (tgt := 45) dX6_isOther_38 rfl (fun c33 => ?_) (fun c33 => ?_)
      · replace h := ifp h c33
        refine go_iconst (pc := 45) (v := 0) dX6_isOther_45 ci_0 ?_
        refine go_ior (pc := 46) dX6_isOther_46 ?_
        refine go_istore_n (pc := 47) (i := 3) dX6_isOther_47 rfl (Nat.le_of_ble_eq_true rfl) (L2 := [some (.ref 0), none, some (.int l2), some (.int (l3 ||| 0)), some (.int l4), none, none]) rfl ?_
        refine go_iinc (pc := 48) (v := (l4 + 1)) dX6_isOther_48 rfl (by rw [ci_1]) (Nat.le_of_ble_eq_true rfl) (L2 := [some (.ref 0), none, some (.int l2), some (.int (l3 ||| 0)), some (.int (l4 + 1)), none, none]) rfl ?_
        refine go_goto (pc := 51) (tgt := 9) dX6_isOther_51 rfl ?_
        exact ih _ _ _ _ _  h
      · replace h := ifn h c33
        refine go_iconst (pc := 41) (v := 1) dX6_isOther_41 ci_1 ?_
        refine go_goto (pc := 42) (tgt := 46) dX6_isOther_42 rfl ?_
        refine go_ior (pc := 46) dX6_isOther_46 ?_
        refine go_istore_n (pc := 47) (i := 3) dX6_isOther_47 rfl (Nat.le_of_ble_eq_true rfl) (L2 := [some (.ref 0), none, some (.int l2), some (.int (l3 ||| 1)), some (.int l4), none, none]) rfl ?_
        refine go_iinc (pc := 48) (v := (l4 + 1)) dX6_isOther_48 rfl (by rw [ci_1]) (Nat.le_of_ble_eq_true rfl) (L2 := [some (.ref 0), none, some (.int l2), some (.int (l3 ||| 1)), some (.int (l4 + 1)), none, none]) rfl ?_
        refine go_goto (pc := 51) (tgt := 9) dX6_isOther_51 rfl ?_
        exact ih _ _ _ _ _  h
def eX6_isOther (a1 : Int32) (a2 : Int32) (V : Mm) : Option (Int32) :=
  if a1 = 0 then
    eX6_isOther_b9 fu a2 0 1 V
  else
    if a1 = 1 then
      eX6_isOther_b65 fu a2 0 1 V
    else
      eX6_isOther_b117 fu a2 0 0 V
set_option maxHeartbeats 4000000 in
set_option maxRecDepth 100000 in
theorem E_X6_isOther {a1 : Int32} {a2 : Int32} {V : Mm} {res : Int32}  (h : eX6_isOther a1 a2 V = some res) : Ev mX6_isOther [.ref 0, .int a1, .int a2] (hM V) (some (.int res)) (hM V) := by
  refine Ev.of (n := 4) oX6_isOther.1 (Nat.le_of_ble_eq_true rfl) ?_
  unfold eX6_isOther at h
  show Go mX6_isOther 0 [some (.ref 0), some (.int a1), some (.int a2), none, none, none, none] [] (hM V) 0 0 (some (.int res)) (hM V)
  refine go_iconst (pc := 0) (v := 0) dX6_isOther_0 ci_0 ?_
  refine go_istore_n (pc := 1) (i := 3) dX6_isOther_1 rfl (Nat.le_of_ble_eq_true rfl) (L2 := [some (.ref 0), some (.int a1), some (.int a2), some (.int 0), none, none, none]) rfl ?_
  refine go_iload_n (pc := 2) dX6_isOther_2 rfl rfl ?_
  refine go_if_ne (pc := 3) (tgt := 57) dX6_isOther_3 rfl (fun c1 => ?_) (fun c1 => ?_)
  · replace h := ifn h c1
    refine go_iload_n (pc := 57) dX6_isOther_57 rfl rfl ?_
    refine go_iconst (pc := 58) (v := 1) dX6_isOther_58 ci_1 ?_
    refine go_icmp_ne (pc := 59) (tgt := 114) dX6_isOther_59 rfl (fun c2 => ?_) (fun c2 => ?_)
    · replace h := ifn h c2
      refine go_iconst (pc := 114) (v := 0) dX6_isOther_114 ci_0 ?_
      refine go_istore (pc := 115) (i := 4) dX6_isOther_115 (Nat.le_of_ble_eq_true rfl) (L2 := [some (.ref 0), some (.int a1), some (.int a2), some (.int 0), some (.int 0), none, none]) rfl ?_
      refine go_le (lle_s (lle_n (lle_s (lle_s (lle_s (lle_n (lle_n lle_0))))))) ?_
      exact gX6_isOther_b117 _ _ _ _ _ _  h
    · replace h := ifp h c2
      refine go_iconst (pc := 62) (v := 1) dX6_isOther_62 ci_1 ?_
      refine go_istore (pc := 63) (i := 4) dX6_isOther_63 (Nat.le_of_ble_eq_true rfl) (L2 := [some (.ref 0), some (.int a1), some (.int a2), some (.int 0), some (.int 1), none, none]) rfl ?_
      refine go_le (lle_s (lle_n (lle_s (lle_s (lle_s (lle_n (lle_n lle_0))))))) ?_
      exact gX6_isOther_b65 _ _ _ _ _ _  h
  · replace h := ifp h c1
    refine go_iconst (pc := 6) (v := 1) dX6_isOther_6 ci_1 ?_
    refine go_istore (pc := 7) (i := 4) dX6_isOther_7 (Nat.le_of_ble_eq_true rfl) (L2 := [some (.ref 0), some (.int a1), some (.int a2), some (.int 0), some (.int 1), none, none]) rfl ?_
    refine go_le (lle_s (lle_n (lle_s (lle_s (lle_s (lle_n (lle_n lle_0))))))) ?_
    exact gX6_isOther_b9 _ _ _ _ _ _  h
