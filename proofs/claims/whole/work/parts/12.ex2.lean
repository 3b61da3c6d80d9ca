def eX5_passes_b5 : Nat → Int32 → Int32 → Int32 → Int32 → Mm → Option (Int32)
  | 0, _, _, _, _, _ => none
  | n + 1, l1, l2, l3, l4, V => 
    if l2 < l4 then
      (eX5_hasBit l3 l2 V).bind fun r2 =>
      if r2 = 0 ∨ r2 = 1 then
        some r2
      else none
    else
      if (V 84 3) ≤ l4 then
        (eX5_hasBit l3 l2 V).bind fun r6 =>
        if r6 = 0 ∨ r6 = 1 then
          some r6
        else none
      else
        (eX5_passesOne l1 l4 l3 V).bind fun r9 =>
        if r9 = 0 then
          eX5_passes_b5 n l1 l2 l3 (l4 + 1) V
        else
          eX5_passes_b5 n l1 l2 (l3 ||| (1 <<< (l4 &&& 31))) (l4 + 1) V
set_option maxHeartbeats 4000000 in
set_option maxRecDepth 100000 in
theorem gX5_passes_b5 : ∀ (n : Nat) (l1 : Int32) (l2 : Int32) (l3 : Int32) (l4 : Int32) (V : Mm) (res : Int32) , eX5_passes_b5 n l1 l2 l3 l4 V = some res → Go mX5_passes 5 [some (.ref 0), some (.int l1), some (.int l2), some (.int l3), some (.int l4)] [] (hC V) 0 0 (some (.int res)) (hC V) := by
  intro n
  induction n with
  | zero =>
    intro l1 l2 l3 l4 V res  h
    cases h
  | succ n ih =>
    intro l1 l2 l3 l4 V res  h
    rw [eX5_passes_b5] at h
    refine go_iload (pc := 5) dX5_passes_5 rfl ?_
    refine go_iload_n (pc := 7) dX5_passes_7 rfl rfl ?_
    refine go_icmp_gt (pc := 8) (tgt := 47) dX5_passes_8 rfl (fun c1 => ?_) (fun c1 => ?_)
    · replace h := ifp h c1
      refine go_iload_n (pc := 47) dX5_passes_47 rfl rfl ?_
      refine go_iload_n (pc := 48) dX5_passes_48 rfl rfl ?_
      obtain ⟨r2, e3, h⟩ := ok_bind h
      refine go_cS (pc := 49) (As := [.int l3, .int l2]) (st := []) (E_X5_hasBit e3) rfl oX5_hasBit iX5_hasBit kX5_369 rfl (Nat.le_of_ble_eq_true rfl) ⟨Nat.le_of_ble_eq_true rfl, Nat.le_of_ble_eq_true rfl⟩ ⟨rfl, rfl⟩ dX5_passes_49 (st2 := [.int r2]) rfl ?_
      obtain ⟨c4, h⟩ := ok_if h
      cases h
      exact go_iret (pc := 52) (Or.inr ⟨rfl, c4⟩) ⟨Nat.zero_le _, Nat.zero_le _⟩ dX5_passes_52
    · replace h := ifn h c1
      refine go_iload (pc := 11) dX5_passes_11 rfl ?_
      refine go_aload_n (pc := 13) dX5_passes_13 rfl rfl ?_
      refine go_getP (pc := 14) (a := 84) fX5_50 (by decide) (show TC 0 = (5 + 5, 13) from rfl) rfl dX5_passes_14 ?_
      refine go_gI (pc := 17) (v := V 84 3) fX5_145 (by decide) (show TC 84 = (1 + 5, 4) from rfl) dX5_passes_17 rfl ?_
      refine go_icmp_ge (pc := 20) (tgt := 47) dX5_passes_20 rfl (fun c5 => ?_) (fun c5 => ?_)
      · replace h := ifp h c5
        refine go_iload_n (pc := 47) dX5_passes_47 rfl rfl ?_
        refine go_iload_n (pc := 48) dX5_passes_48 rfl rfl ?_
        obtain ⟨r6, e7, h⟩ := ok_bind h
        refine go_cS (pc := 49) (As := [.int l3, .int l2]) (st := []) (E_X5_hasBit e7) rfl oX5_hasBit iX5_hasBit kX5_369 rfl (Nat.le_of_ble_eq_true rfl) ⟨Nat.le_of_ble_eq_true rfl, Nat.le_of_ble_eq_true rfl⟩ ⟨rfl, rfl⟩ dX5_passes_49 (st2 := [.int r6]) rfl ?_
        obtain ⟨c8, h⟩ := ok_if h
        cases h
        exact go_iret (pc := 52) (Or.inr ⟨rfl, c8⟩) ⟨Nat.zero_le _, Nat.zero_le _⟩ dX5_passes_52
      · replace h := ifn h c5
        refine go_aload_n (pc := 23) dX5_passes_23 rfl rfl ?_
        refine go_iload_n (pc := 24) dX5_passes_24 rfl rfl ?_
        refine go_iload (pc := 25) dX5_passes_25 rfl ?_
        refine go_iload_n (pc := 27) dX5_passes_27 rfl rfl ?_
        obtain ⟨r9, e10, h⟩ := ok_bind h
        refine go_cV (pc := 28) (ci := 5) (As := [.int l1, .int l4, .int l3]) (st := []) (E_X5_passesOne e10) rfl oX5_passesOne iX5_passesOne sX5_passesOne kX5_366 rfl (show TC 0 = (5 + 5, 13) from rfl) rfl (Nat.le_of_ble_eq_true rfl) ⟨Nat.le_of_ble_eq_true rfl, Nat.le_of_ble_eq_true rfl⟩ ⟨rfl, rfl⟩ dX5_passes_28 (st2 := [.int r9]) rfl ?_
        refine go_if_eq (pc := 31) (tgt := 41) dX5_passes_31 rfl (fun c11 => ?_) (fun c11 => ?_)
        · replace h := ifp h c11
          refine go_iinc (pc := 41) (v := (l4 + 1)) dX5_passes_41 rfl (by rw [ci_1]) (Nat.le_of_ble_eq_true rfl) (L2 := [some (.ref 0), some (.int l1), some (.int l2), some (.int l3), some (.int (l4 + 1))]) rfl ?_
          refine go_goto (pc := 44) (tgt := 5) dX5_passes_44 rfl ?_
          exact ih _ _ _ _ _ _  h
        · replace h := ifn h c11
          refine go_iload_n (pc := 34) dX5_passes_34 rfl rfl ?_
          refine go_iconst (pc := 35) (v := 1) dX5_passes_35 ci_1 ?_
          refine go_iload (pc := 36) dX5_passes_36 rfl ?_
          refine go_ishl (pc := 38) dX5_passes_38 ?_
          refine go_ior (pc := 39) dX5_passes_39 ?_
          refine go_istore_n (pc := 40) (i := 3) dX5_passes_40 rfl (Nat.le_of_ble_eq_true rfl) (L2 := [some (.ref 0), some (.int l1), some (.int l2), some (.int (l3 ||| (1 <<< (l4 &&& 31)))), some (.int l4)]) rfl ?_
          refine go_iinc (pc := 41) (v := (l4 + 1)) dX5_passes_41 rfl (by rw [ci_1]) (Nat.le_of_ble_eq_true rfl) (L2 := [some (.ref 0), some (.int l1), some (.int l2), some (.int (l3 ||| (1 <<< (l4 &&& 31)))), some (.int (l4 + 1))]) rfl ?_
          refine go_goto (pc := 44) (tgt := 5) dX5_passes_44 rfl ?_
          exact ih _ _ _ _ _ _  h
def eX5_passes (a1 : Int32) (a2 : Int32) (V : Mm) : Option (Int32) :=
  eX5_passes_b5 fu a1 a2 0 0 V
set_option maxHeartbeats 4000000 in
set_option maxRecDepth 100000 in
theorem E_X5_passes {a1 : Int32} {a2 : Int32} {V : Mm} {res : Int32}  (h : eX5_passes a1 a2 V = some res) : Ev mX5_passes [.ref 0, .int a1, .int a2] (hC V) (some (.int res)) (hC V) := by
  refine Ev.of (n := 2) oX5_passes.1 (Nat.le_of_ble_eq_true rfl) ?_
  unfold eX5_passes at h
  show Go mX5_passes 0 [some (.ref 0), some (.int a1), some (.int a2), none, none] [] (hC V) 0 0 (some (.int res)) (hC V)
  refine go_iconst (pc := 0) (v := 0) dX5_passes_0 ci_0 ?_
  refine go_istore_n (pc := 1) (i := 3) dX5_passes_1 rfl (Nat.le_of_ble_eq_true rfl) (L2 := [some (.ref 0), some (.int a1), some (.int a2), some (.int 0), none]) rfl ?_
  refine go_iconst (pc := 2) (v := 0) dX5_passes_2 ci_0 ?_
  refine go_istore (pc := 3) (i := 4) dX5_passes_3 (Nat.le_of_ble_eq_true rfl) (L2 := [some (.ref 0), some (.int a1), some (.int a2), some (.int 0), some (.int 0)]) rfl ?_
  exact gX5_passes_b5 _ _ _ _ _ _ _  h
def eX5_weightOf_b64 (l2 : Int32) (s0 : Int32) (V : Mm) : Option (Int32) :=
  if 4 ≤ l2 then
    some (-s0)
  else
    some s0
set_option maxHeartbeats 4000000 in
set_option maxRecDepth 100000 in
theorem gX5_weightOf_b64 {l2 : Int32} {s0 : Int32} {V : Mm} {res : Int32}  (h : eX5_weightOf_b64 l2 s0 V = some res) : Go mX5_weightOf 64 [none, none, some (.int l2), none, none] [.int s0] (hC V) 0 0 (some (.int res)) (hC V) := by
  unfold eX5_weightOf_b64 at h
  refine go_istore (pc := 64) (i := 4) dX5_weightOf_64 (Nat.le_of_ble_eq_true rfl) (L2 := [none, none, some (.int l2), none, some (.int s0)]) rfl ?_
  refine go_iload_n (pc := 66) dX5_weightOf_66 rfl rfl ?_
  refine go_iconst (pc := 67) (v := 4) dX5_weightOf_67 ci_4 ?_
  refine go_icmp_ge (pc := 68) (tgt := 76) dX5_weightOf_68 rfl (fun c5 => ?_) (fun c5 => ?_)
  · replace h := ifp h c5
    refine go_iload (pc := 76) dX5_weightOf_76 rfl ?_
    refine go_ineg (pc := 78) dX5_weightOf_78 ?_
    cases h
    exact go_iret (pc := 79) (Or.inl rfl) ⟨Nat.zero_le _, Nat.zero_le _⟩ dX5_weightOf_79
  · replace h := ifn h c5
    refine go_iload (pc := 71) dX5_weightOf_71 rfl ?_
    refine go_goto (pc := 73) (tgt := 79) dX5_weightOf_73 rfl ?_
    cases h
    exact go_iret (pc := 79) (Or.inl rfl) ⟨Nat.zero_le _, Nat.zero_le _⟩ dX5_weightOf_79
def eX5_weightOf_b12 (l1 : Int32) (l2 : Int32) (s0 : Int32) (V : Mm) : Option (Int32) :=
  if s0 = 0 then
    (eX2_value 28 l1 5 V).bind fun r10 =>
    eX5_weightOf_b64 l2 r10 V
  else
    if s0 = 1 then
      (eX2_value 28 l1 4 V).bind fun r8 =>
      eX5_weightOf_b64 l2 r8 V
    else
      if s0 = 2 then
        (eX2_value 28 l1 0 V).bind fun r6 =>
        eX5_weightOf_b64 l2 r6 V
      else
        eX5_weightOf_b64 l2 l1 V
set_option maxHeartbeats 4000000 in
set_option maxRecDepth 100000 in
theorem gX5_weightOf_b12 {l1 : Int32} {l2 : Int32} {s0 : Int32} {V : Mm} {res : Int32}  (h : eX5_weightOf_b12 l1 l2 s0 V = some res) : Go mX5_weightOf 12 [some (.ref 0), some (.int l1), some (.int l2), none, none] [.int s0] (hC V) 0 0 (some (.int res)) (hC V) := by
  unfold eX5_weightOf_b12 at h
  refine go_istore_n (pc := 12) (i := 3) dX5_weightOf_12 rfl (Nat.le_of_ble_eq_true rfl) (L2 := [some (.ref 0), some (.int l1), some (.int l2), some (.int s0), none]) rfl ?_
  refine go_iload_n (pc := 13) dX5_weightOf_13 rfl rfl ?_
  refine go_if_ne (pc := 14) (tgt := 29) dX5_weightOf_14 rfl (fun c2 => ?_) (fun c2 => ?_)
  · replace h := ifn h c2
    refine go_iload_n (pc := 29) dX5_weightOf_29 rfl rfl ?_
    refine go_iconst (pc := 30) (v := 1) dX5_weightOf_30 ci_1 ?_
    refine go_icmp_ne (pc := 31) (tgt := 46) dX5_weightOf_31 rfl (fun c3 => ?_) (fun c3 => ?_)
    · replace h := ifn h c3
      refine go_iload_n (pc := 46) dX5_weightOf_46 rfl rfl ?_
      refine go_iconst (pc := 47) (v := 2) dX5_weightOf_47 ci_2 ?_
      refine go_icmp_ne (pc := 48) (tgt := 63) dX5_weightOf_48 rfl (fun c4 => ?_) (fun c4 => ?_)
      · replace h := ifn h c4
        refine go_iload_n (pc := 63) dX5_weightOf_63 rfl rfl ?_
        refine go_le (lle_n (lle_n (lle_s (lle_n (lle_n lle_0))))) ?_
        exact gX5_weightOf_b64  h
      · replace h := ifp h c4
        refine go_aload_n (pc := 51) dX5_weightOf_51 rfl rfl ?_
        refine go_getP (pc := 52) (a := 28) fX5_34 (by decide) (show TC 0 = (5 + 5, 13) from rfl) rfl dX5_weightOf_52 ?_
        refine go_iload_n (pc := 55) dX5_weightOf_55 rfl rfl ?_
        refine go_iconst (pc := 56) (v := 0) dX5_weightOf_56 ci_0 ?_
        obtain ⟨r6, e7, h⟩ := ok_bind h
        refine go_cV (pc := 57) (ci := 2) (As := [.int l1, .int 0]) (st := []) (E_X2_value isK_28 e7) rfl oX2_value iX2_value sX2_value kX5_152 rfl (K_T isK_28) rfl (Nat.le_of_ble_eq_true rfl) ⟨Nat.le_of_ble_eq_true rfl, Nat.le_of_ble_eq_true rfl⟩ ⟨rfl, rfl⟩ dX5_weightOf_57 (st2 := [.int r6]) rfl ?_
        refine go_goto (pc := 60) (tgt := 64) dX5_weightOf_60 rfl ?_
        refine go_le (lle_n (lle_n (lle_s (lle_n (lle_n lle_0))))) ?_
        exact gX5_weightOf_b64  h
    · replace h := ifp h c3
      refine go_aload_n (pc := 34) dX5_weightOf_34 rfl rfl ?_
      refine go_getP (pc := 35) (a := 28) fX5_34 (by decide) (show TC 0 = (5 + 5, 13) from rfl) rfl dX5_weightOf_35 ?_
      refine go_iload_n (pc := 38) dX5_weightOf_38 rfl rfl ?_
      refine go_iconst (pc := 39) (v := 4) dX5_weightOf_39 ci_4 ?_
      obtain ⟨r8, e9, h⟩ := ok_bind h
      refine go_cV (pc := 40) (ci := 2) (As := [.int l1, .int 4]) (st := []) (E_X2_value isK_28 e9) rfl oX2_value iX2_value sX2_value kX5_152 rfl (K_T isK_28) rfl (Nat.le_of_ble_eq_true rfl) ⟨Nat.le_of_ble_eq_true rfl, Nat.le_of_ble_eq_true rfl⟩ ⟨rfl, rfl⟩ dX5_weightOf_40 (st2 := [.int r8]) rfl ?_
      refine go_goto (pc := 43) (tgt := 64) dX5_weightOf_43 rfl ?_
      refine go_le (lle_n (lle_n (lle_s (lle_n (lle_n lle_0))))) ?_
      exact gX5_weightOf_b64  h
  · replace h := ifp h c2
    refine go_aload_n (pc := 17) dX5_weightOf_17 rfl rfl ?_
    refine go_getP (pc := 18) (a := 28) fX5_34 (by decide) (show TC 0 = (5 + 5, 13) from rfl) rfl dX5_weightOf_18 ?_
    refine go_iload_n (pc := 21) dX5_weightOf_21 rfl rfl ?_
    refine go_iconst (pc := 22) (v := 5) dX5_weightOf_22 ci_5 ?_
    obtain ⟨r10, e11, h⟩ := ok_bind h
    refine go_cV (pc := 23) (ci := 2) (As := [.int l1, .int 5]) (st := []) (E_X2_value isK_28 e11) rfl oX2_value iX2_value sX2_value kX5_152 rfl (K_T isK_28) rfl (Nat.le_of_ble_eq_true rfl) ⟨Nat.le_of_ble_eq_true rfl, Nat.le_of_ble_eq_true rfl⟩ ⟨rfl, rfl⟩ dX5_weightOf_23 (st2 := [.int r10]) rfl ?_
    refine go_goto (pc := 26) (tgt := 64) dX5_weightOf_26 rfl ?_
    refine go_le (lle_n (lle_n (lle_s (lle_n (lle_n lle_0))))) ?_
    exact gX5_weightOf_b64  h
def eX5_weightOf (a1 : Int32) (a2 : Int32) (V : Mm) : Option (Int32) :=
  if 4 ≤ a2 then
    eX5_weightOf_b12 a1 a2 (a2 - 4) V
  else
    eX5_weightOf_b12 a1 a2 a2 V
set_option maxHeartbeats 4000000 in
set_option maxRecDepth 100000 in
theorem E_X5_weightOf {a1 : Int32} {a2 : Int32} {V : Mm} {res : Int32}  (h : eX5_weightOf a1 a2 V = some res) : Ev mX5_weightOf [.ref 0, .int a1, .int a2] (hC V) (some (.int res)) (hC V) := by
  refine Ev.of (n := 2) oX5_weightOf.1 (Nat.le_of_ble_eq_true rfl) ?_
  unfold eX5_weightOf at h
  show Go mX5_weightOf 0 [some (.ref 0), some (.int a1), some (.int a2), none, none] [] (hC V) 0 0 (some (.int res)) (hC V)
  refine go_iload_n (pc := 0) dX5_weightOf_0 rfl rfl ?_
  refine go_iconst (pc := 1) (v := 4) dX5_weightOf_1 ci_4 ?_
  refine go_icmp_ge (pc := 2) (tgt := 9) dX5_weightOf_2 rfl (fun c1 => ?_) (fun c1 => ?_)
  · replace h := ifp h c1
    refine go_iload_n (pc := 9) dX5_weightOf_9 rfl rfl ?_
    refine go_iconst (pc := 10) (v := 4) dX5_weightOf_10 ci_4 ?_
    refine go_isub (pc := 11) dX5_weightOf_11 ?_
    exact gX5_weightOf_b12  h
  · replace h := ifn h c1
    refine go_iload_n (pc := 5) dX5_weightOf_5 rfl rfl ?_
    refine go_goto (pc := 6) (tgt := 12) dX5_weightOf_6 rfl ?_
    exact gX5_weightOf_b12  h
def eX5_sortIds_b28 (k2 : Int32 → Int32 → Mm → Option (Mm)) : Nat → Int32 → Int32 → Int32 → Int32 → Int32 → Mm → Option (Mm)
  | 0, _, _, _, _, _, _ => none
  | n + 1, l1, l2, l3, l4, l5, V => 
    if l5 ≤ 0 then
      if l5 < 0 ∨ 50 ≤ l5.toNatClampNeg then none else
      k2 l1 (l2 + 1) (wr V 88 l5.toNatClampNeg l3)
    else
      if (l5 - 1) < 0 ∨ 50 ≤ (l5 - 1).toNatClampNeg then none else
      (eX5_weightOf (V 88 ((l5 - 1).toNatClampNeg)) l1 V).bind fun r8 =>
      if r8 ≤ l4 then
        if l5 < 0 ∨ 50 ≤ l5.toNatClampNeg then none else
        k2 l1 (l2 + 1) (wr V 88 l5.toNatClampNeg l3)
      else
        if (l5 - 1) < 0 ∨ 50 ≤ (l5 - 1).toNatClampNeg then none else
        if l5 < 0 ∨ 50 ≤ l5.toNatClampNeg then none else
        eX5_sortIds_b28 k2 n l1 l2 l3 l4 (l5 + (-1)) (wr V 88 l5.toNatClampNeg (V 88 ((l5 - 1).toNatClampNeg)))
set_option maxHeartbeats 4000000 in
set_option maxRecDepth 100000 in
theorem gX5_sortIds_b28 {k2 : Int32 → Int32 → Mm → Option (Mm)} (hk2 : ∀ (l1 : Int32) (l2 : Int32) (V : Mm) (res : Mm) , k2 l1 l2 V = some res → Go mX5_sortIds 2 [some (.ref 0), some (.int l1), some (.int l2), none, none, none] [] (hC V) 0 0 none (hC res)) : ∀ (n : Nat) (l1 : Int32) (l2 : Int32) (l3 : Int32) (l4 : Int32) (l5 : Int32) (V : Mm) (res : Mm) , eX5_sortIds_b28 k2 n l1 l2 l3 l4 l5 V = some res → Go mX5_sortIds 28 [some (.ref 0), some (.int l1), some (.int l2), some (.int l3), some (.int l4), some (.int l5)] [] (hC V) 0 0 none (hC res) := by
  intro n
  induction n with
  | zero =>
    intro l1 l2 l3 l4 l5 V res  h
    cases h
  | succ n ih =>
    intro l1 l2 l3 l4 l5 V res  h
    rw [eX5_sortIds_b28] at h
    refine go_iload (pc := 28) dX5_sortIds_28 rfl ?_
    refine go_if_le (pc := 30) (tgt := 74) dX5_sortIds_30 rfl (fun c5 => ?_) (fun c5 => ?_)
    · replace h := ifp h c5
      refine go_aload_n (pc := 74) dX5_sortIds_74 rfl rfl ?_
      refine go_getP (pc := 75) (a := 88) fX5_54 (by decide) (show TC 0 = (5 + 5, 13) from rfl) rfl dX5_sortIds_75 ?_
      refine go_iload (pc := 78) dX5_sortIds_78 rfl ?_
      refine go_iload_n (pc := 80) dX5_sortIds_80 rfl rfl ?_
      obtain ⟨c6, h⟩ := ok_not h
      refine go_iast (pc := 81) (show TC 88 = (0, 50) from rfl) (vin c6) dX5_sortIds_81 ?_
      refine go_iinc (pc := 82) (v := (l2 + 1)) dX5_sortIds_82 rfl (by rw [ci_1]) (Nat.le_of_ble_eq_true rfl) (L2 := [some (.ref 0), some (.int l1), some (.int (l2 + 1)), some (.int l3), some (.int l4), some (.int l5)]) rfl ?_
      refine go_goto (pc := 85) (tgt := 2) dX5_sortIds_85 rfl ?_
      refine go_le (lle_s (lle_s (lle_s (lle_n (lle_n (lle_n lle_0)))))) ?_
      exact hk2 _ _ _ _  h
    · replace h := ifn h c5
      refine go_aload_n (pc := 33) dX5_sortIds_33 rfl rfl ?_
      refine go_aload_n (pc := 34) dX5_sortIds_34 rfl rfl ?_
      refine go_getP (pc := 35) (a := 88) fX5_54 (by decide) (show TC 0 = (5 + 5, 13) from rfl) rfl dX5_sortIds_35 ?_
      refine go_iload (pc := 38) dX5_sortIds_38 rfl ?_
      refine go_iconst (pc := 40) (v := 1) dX5_sortIds_40 ci_1 ?_
      refine go_isub (pc := 41) dX5_sortIds_41 ?_
      obtain ⟨c7, h⟩ := ok_not h
      refine go_ia (pc := 42) (v := V 88 ((l5 - 1).toNatClampNeg)) (show TC 88 = (0, 50) from rfl) (vin c7) dX5_sortIds_42 rfl ?_
      refine go_iload_n (pc := 43) dX5_sortIds_43 rfl rfl ?_
      obtain ⟨r8, e9, h⟩ := ok_bind h
      refine go_cV (pc := 44) (ci := 5) (As := [.int (V 88 ((l5 - 1).toNatClampNeg)), .int l1]) (st := []) (E_X5_weightOf e9) rfl oX5_weightOf iX5_weightOf sX5_weightOf kX5_301 rfl (show TC 0 = (5 + 5, 13) from rfl) rfl (Nat.le_of_ble_eq_true rfl) ⟨Nat.le_of_ble_eq_true rfl, Nat.le_of_ble_eq_true rfl⟩ ⟨rfl, rfl⟩ dX5_sortIds_44 (st2 := [.int r8]) rfl ?_
      refine go_iload (pc := 47) dX5_sortIds_47 rfl ?_
      refine go_icmp_le (pc := 49) (tgt := 74) dX5_sortIds_49 rfl (fun c10 => ?_) (fun c10 => ?_)
      · replace h := ifp h c10
        refine go_aload_n (pc := 74) dX5_sortIds_74 rfl rfl ?_
        refine go_getP (pc := 75) (a := 88) fX5_54 (by decide) (show TC 0 = (5 + 5, 13) from rfl) rfl dX5_sortIds_75 ?_
        refine go_iload (pc := 78) dX5_sortIds_78 rfl ?_
        refine go_iload_n (pc := 80) dX5_sortIds_80 rfl rfl ?_
        obtain ⟨c11, h⟩ := ok_not h
        refine go_iast (pc := 81) (show TC 88 = (0, 50) from rfl) (vin c11) dX5_sortIds_81 ?_
        refine go_iinc (pc := 82) (v := (l2 + 1)) dX5_sortIds_82 rfl (by rw [ci_1]) (Nat.le_of_ble_eq_true rfl) (L2 := [some (.ref 0), some (.int l1), some (.int (l2 + 1)), some (.int l3), some (.int l4), some (.int l5)]) rfl ?_
        refine go_goto (pc := 85) (tgt := 2) dX5_sortIds_85 rfl ?_
        refine go_le (lle_s (lle_s (lle_s (lle_n (lle_n (lle_n lle_0)))))) ?_
        exact hk2 _ _ _ _  h
      · replace h := ifn h c10
        refine go_aload_n (pc := 52) dX5_sortIds_52 rfl rfl ?_
        refine go_getP (pc := 53) (a := 88) fX5_54 (by decide) (show TC 0 = (5 + 5, 13) from rfl) rfl dX5_sortIds_53 ?_
        refine go_iload (pc := 56) dX5_sortIds_56 rfl ?_
        refine go_aload_n (pc := 58) dX5_sortIds_58 rfl rfl ?_
        refine go_getP (pc := 59) (a := 88) fX5_54 (by decide) (show TC 0 = (5 + 5, 13) from rfl) rfl dX5_sortIds_59 ?_
        refine go_iload (pc := 62) dX5_sortIds_62 rfl ?_
        refine go_iconst (pc := 64) (v := 1) dX5_sortIds_64 ci_1 ?_
        refine go_isub (pc := 65) dX5_sortIds_65 ?_
        obtain ⟨c12, h⟩ := ok_not h
        refine go_ia (pc := 66) (v := V 88 ((l5 - 1).toNatClampNeg)) (show TC 88 = (0, 50) from rfl) (vin c12) dX5_sortIds_66 rfl ?_
        obtain ⟨c13, h⟩ := ok_not h
        refine go_iast (pc := 67) (show TC 88 = (0, 50) from rfl) (vin c13) dX5_sortIds_67 ?_
        refine go_iinc (pc := 68) (v := (l5 + (-1))) dX5_sortIds_68 rfl (by rw [ci_m1]) (Nat.le_of_ble_eq_true rfl) (L2 := [some (.ref 0), some (.int l1), some (.int l2), some (.int l3), some (.int l4), some (.int (l5 + (-1)))]) rfl ?_
        refine go_goto (pc := 71) (tgt := 28) dX5_sortIds_71 rfl ?_
        exact ih _ _ _ _ _ _ _  h
def eX5_sortIds_b2 : Nat → Int32 → Int32 → Mm → Option (Mm)
  | 0, _, _, _ => none
  | n + 1, l1, l2, V => 
    if (V 0 9) ≤ l2 then
      some V
    else
      if l2 < 0 ∨ 50 ≤ l2.toNatClampNeg then none else
      (eX5_weightOf (V 88 l2.toNatClampNeg) l1 V).bind fun r3 =>
      eX5_sortIds_b28 (fun l1 l2 V => eX5_sortIds_b2 n l1 l2 V) fu l1 l2 (V 88 l2.toNatClampNeg) r3 l2 V
set_option maxHeartbeats 4000000 in
set_option maxRecDepth 100000 in
theorem gX5_sortIds_b2 : ∀ (n : Nat) (l1 : Int32) (l2 : Int32) (V : Mm) (res : Mm) , eX5_sortIds_b2 n l1 l2 V = some res → Go mX5_sortIds 2 [some (.ref 0), some (.int l1), some (.int l2), none, none, none] [] (hC V) 0 0 none (hC res) := by
  intro n
  induction n with
  | zero =>
    intro l1 l2 V res  h
    cases h
  | succ n ih =>
    intro l1 l2 V res  h
    rw [eX5_sortIds_b2] at h
    refine go_iload_n (pc := 2) dX5_sortIds_2 rfl rfl ?_
    refine go_aload_n (pc := 3) dX5_sortIds_3 rfl rfl ?_
    refine go_gI (pc := 4) (v := V 0 9) fX5_237 (by decide) (show TC 0 = (5 + 5, 13) from rfl) dX5_sortIds_4 rfl ?_
    refine go_icmp_ge (pc := 7) (tgt := 88) dX5_sortIds_7 rfl (fun c1 => ?_) (fun c1 => ?_)
    · replace h := ifp h c1
      cases h
      exact go_vret (pc := 88) rfl ⟨Nat.zero_le _, Nat.zero_le _⟩ dX5_sortIds_88
    · replace h := ifn h c1
      refine go_aload_n (pc := 10) dX5_sortIds_10 rfl rfl ?_
      refine go_getP (pc := 11) (a := 88) fX5_54 (by decide) (show TC 0 = (5 + 5, 13) from rfl) rfl dX5_sortIds_11 ?_
      refine go_iload_n (pc := 14) dX5_sortIds_14 rfl rfl ?_
      obtain ⟨c2, h⟩ := ok_not h
      refine go_ia (pc := 15) (v := V 88 l2.toNatClampNeg) (show TC 88 = (0, 50) from rfl) (vin c2) dX5_sortIds_15 rfl ?_
      refine go_istore_n (pc := 16) (i := 3) dX5_sortIds_16 rfl (Nat.le_of_ble_eq_true rfl) (L2 := [some (.ref 0), some (.int l1), some (.int l2), some (.int (V 88 l2.toNatClampNeg)), none, none]) rfl ?_
      refine go_aload_n (pc := 17) dX5_sortIds_17 rfl rfl ?_
      refine go_iload_n (pc := 18) dX5_sortIds_18 rfl rfl ?_
      refine go_iload_n (pc := 19) dX5_sortIds_19 rfl rfl ?_
      obtain ⟨r3, e4, h⟩ := ok_bind h
      refine go_cV (pc := 20) (ci := 5) (As := [.int (V 88 l2.toNatClampNeg), .int l1]) (st := []) (E_X5_weightOf e4) rfl oX5_weightOf iX5_weightOf sX5_weightOf kX5_301 rfl (show TC 0 = (5 + 5, 13) from rfl) rfl (Nat.le_of_ble_eq_true rfl) ⟨Nat.le_of_ble_eq_true rfl, Nat.le_of_ble_eq_true rfl⟩ ⟨rfl, rfl⟩ dX5_sortIds_20 (st2 := [.int r3]) rfl ?_
      refine go_istore (pc := 23) (i := 4) dX5_sortIds_23 (Nat.le_of_ble_eq_true rfl) (L2 := [some (.ref 0), some (.int l1), some (.int l2), some (.int (V 88 l2.toNatClampNeg)), some (.int r3), none]) rfl ?_
      refine go_iload_n (pc := 25) dX5_sortIds_25 rfl rfl ?_
      refine go_istore (pc := 26) (i := 5) dX5_sortIds_26 (Nat.le_of_ble_eq_true rfl) (L2 := [some (.ref 0), some (.int l1), some (.int l2), some (.int (V 88 l2.toNatClampNeg)), some (.int r3), some (.int l2)]) rfl ?_
      exact gX5_sortIds_b28 ih _ _ _ _ _ _ _ _  h
def eX5_sortIds (a1 : Int32) (V : Mm) : Option (Mm) :=
  eX5_sortIds_b2 fu a1 1 V
set_option maxHeartbeats 4000000 in
set_option maxRecDepth 100000 in
theorem E_X5_sortIds {a1 : Int32} {V : Mm} {res : Mm}  (h : eX5_sortIds a1 V = some res) : Ev mX5_sortIds [.ref 0, .int a1] (hC V) none (hC res) := by
  refine Ev.of (n := 4) oX5_sortIds.1 (Nat.le_of_ble_eq_true rfl) ?_
  unfold eX5_sortIds at h
  show Go mX5_sortIds 0 [some (.ref 0), some (.int a1), none, none, none, none] [] (hC V) 0 0 none (hC res)
  refine go_iconst (pc := 0) (v := 1) dX5_sortIds_0 ci_1 ?_
  refine go_istore_n (pc := 1) (i := 2) dX5_sortIds_1 rfl (Nat.le_of_ble_eq_true rfl) (L2 := [some (.ref 0), some (.int a1), some (.int 1), none, none, none]) rfl ?_
  exact gX5_sortIds_b2 _ _ _ _ _  h
def eX5_tellFitting_b88 : Nat → Nat → Nat → Int32 → Mm → Option (Int32 × Mm)
  | 0, _, _, _, _ => none
  | n + 1, l1, l2, l3, V => 
    if (V 0 9) ≤ l3 then
      some (0, V)
    else
      if (V l1 10) ≤ (l3 - (V l1 9)) then
        some (0, V)
      else
        if l3 < 0 ∨ 50 ≤ l3.toNatClampNeg then none else
        (eX4_add l2 0 (V 88 l3.toNatClampNeg) V).bind fun r8 =>
        eX5_tellFitting_b88 n l1 l2 (l3 + 1) r8
set_option maxHeartbeats 4000000 in
set_option maxRecDepth 100000 in
theorem gX5_tellFitting_b88 : ∀ (n : Nat) (l1 : Nat) (l2 : Nat) (l3 : Int32) (V : Mm) (res : Int32 × Mm) (hl1 : isCall l1) (hl2 : isOut l2), eX5_tellFitting_b88 n l1 l2 l3 V = some res → Go mX5_tellFitting 88 [some (.ref 0), some (.ref l1), some (.ref l2), some (.int l3)] [] (hC V) 0 0 (some (.int res.1)) (hC res.2) := by
  intro n
  induction n with
  | zero =>
    intro l1 l2 l3 V res hl1 hl2 h
    cases h
  | succ n ih =>
    intro l1 l2 l3 V res hl1 hl2 h
    rw [eX5_tellFitting_b88] at h
    refine go_iload_n (pc := 88) dX5_tellFitting_88 rfl rfl ?_
    refine go_aload_n (pc := 89) dX5_tellFitting_89 rfl rfl ?_
    refine go_gI (pc := 90) (v := V 0 9) fX5_237 (by decide) (show TC 0 = (5 + 5, 13) from rfl) dX5_tellFitting_90 rfl ?_
    refine go_icmp_ge (pc := 93) (tgt := 126) dX5_tellFitting_93 rfl (fun c5 => ?_) (fun c5 => ?_)
    · replace h := ifp h c5
      refine go_iconst (pc := 126) (v := 0) dX5_tellFitting_126 ci_0 ?_
      cases h
      exact go_iret (pc := 127) (Or.inl rfl) ⟨Nat.zero_le _, Nat.zero_le _⟩ dX5_tellFitting_127
    · replace h := ifn h c5
      refine go_iload_n (pc := 96) dX5_tellFitting_96 rfl rfl ?_
      refine go_aload_n (pc := 97) dX5_tellFitting_97 rfl rfl ?_
      refine go_gI (pc := 98) (v := V l1 9) fX5_77 (by decide) (C_T hl1) dX5_tellFitting_98 rfl ?_
      refine go_isub (pc := 101) dX5_tellFitting_101 ?_
      refine go_aload_n (pc := 102) dX5_tellFitting_102 rfl rfl ?_
      refine go_gI (pc := 103) (v := V l1 10) fX5_80 (by decide) (C_T hl1) dX5_tellFitting_103 rfl ?_
      refine go_icmp_ge (pc := 106) (tgt := 126) dX5_tellFitting_106 rfl (fun c6 => ?_) (fun c6 => ?_)
      · replace h := ifp h c6
        refine go_iconst (pc := 126) (v := 0) dX5_tellFitting_126 ci_0 ?_
        cases h
        exact go_iret (pc := 127) (Or.inl rfl) ⟨Nat.zero_le _, Nat.zero_le _⟩ dX5_tellFitting_127
      · replace h := ifn h c6
        refine go_aload_n (pc := 109) dX5_tellFitting_109 rfl rfl ?_
        refine go_iconst (pc := 110) (v := 0) dX5_tellFitting_110 ci_0 ?_
        refine go_aload_n (pc := 111) dX5_tellFitting_111 rfl rfl ?_
        refine go_getP (pc := 112) (a := 88) fX5_54 (by decide) (show TC 0 = (5 + 5, 13) from rfl) rfl dX5_tellFitting_112 ?_
        refine go_iload_n (pc := 115) dX5_tellFitting_115 rfl rfl ?_
        obtain ⟨c7, h⟩ := ok_not h
        refine go_ia (pc := 116) (v := V 88 l3.toNatClampNeg) (show TC 88 = (0, 50) from rfl) (vin c7) dX5_tellFitting_116 rfl ?_
        obtain ⟨r8, e9, h⟩ := ok_bind h
        refine go_cV (pc := 117) (ci := 4) (As := [.int 0, .int (V 88 l3.toNatClampNeg)]) (st := []) (E_X4_add hl2 e9) rfl oX4_add iX4_add sX4_add kX5_296 rfl (O_T hl2) rfl (Nat.le_of_ble_eq_true rfl) ⟨Nat.le_of_ble_eq_true rfl, Nat.le_of_ble_eq_true rfl⟩ ⟨rfl, rfl⟩ dX5_tellFitting_117 (st2 := []) rfl ?_
        refine go_iinc (pc := 120) (v := (l3 + 1)) dX5_tellFitting_120 rfl (by rw [ci_1]) (Nat.le_of_ble_eq_true rfl) (L2 := [some (.ref 0), some (.ref l1), some (.ref l2), some (.int (l3 + 1))]) rfl ?_
        refine go_goto (pc := 123) (tgt := 88) dX5_tellFitting_123 rfl ?_
        exact ih _ _ _ _ _ hl1 hl2 h
def eX5_tellFitting_b23 : Nat → Nat → Nat → Int32 → Mm → Option (Int32 × Mm)
  | 0, _, _, _, _ => none
  | n + 1, l1, l2, l3, V => 
    if (V 28 4) ≤ l3 then
      (eX5_sortIds (V l1 8) V).bind fun r3 =>
      eX5_tellFitting_b88 fu l1 l2 (r3 l1 9) r3
    else
      (eX2_isThere 28 l3 V).bind fun r10 =>
      if r10 = 0 then
        eX5_tellFitting_b23 n l1 l2 (l3 + 1) V
      else
        if (V l1 7) < 0 then
          (eX5_addId l3 V).bind fun r14 =>
          eX5_tellFitting_b23 n l1 l2 (l3 + 1) r14
        else
          (eX5_passes l3 (V l1 7) V).bind fun r16 =>
          if r16 = 0 then
            eX5_tellFitting_b23 n l1 l2 (l3 + 1) V
          else
            (eX5_addId l3 V).bind fun r19 =>
            eX5_tellFitting_b23 n l1 l2 (l3 + 1) r19
set_option maxHeartbeats 4000000 in
set_option maxRecDepth 100000 in
theorem gX5_tellFitting_b23 : ∀ (n : Nat) (l1 : Nat) (l2 : Nat) (l3 : Int32) (V : Mm) (res : Int32 × Mm) (hl1 : isCall l1) (hl2 : isOut l2), eX5_tellFitting_b23 n l1 l2 l3 V = some res → Go mX5_tellFitting 23 [some (.ref 0), some (.ref l1), some (.ref l2), some (.int l3)] [] (hC V) 0 0 (some (.int res.1)) (hC res.2) := by
  intro n
  induction n with
  | zero =>
    intro l1 l2 l3 V res hl1 hl2 h
    cases h
  | succ n ih =>
    intro l1 l2 l3 V res hl1 hl2 h
    rw [eX5_tellFitting_b23] at h
    refine go_iload_n (pc := 23) dX5_tellFitting_23 rfl rfl ?_
    refine go_aload_n (pc := 24) dX5_tellFitting_24 rfl rfl ?_
    refine go_getP (pc := 25) (a := 28) fX5_34 (by decide) (show TC 0 = (5 + 5, 13) from rfl) rfl dX5_tellFitting_25 ?_
    refine go_gI (pc := 28) (v := V 28 4) fX5_146 (by decide) (K_T isK_28) dX5_tellFitting_28 rfl ?_
    refine go_icmp_ge (pc := 31) (tgt := 75) dX5_tellFitting_31 rfl (fun c2 => ?_) (fun c2 => ?_)
    · replace h := ifp h c2
      refine go_aload_n (pc := 75) dX5_tellFitting_75 rfl rfl ?_
      refine go_aload_n (pc := 76) dX5_tellFitting_76 rfl rfl ?_
      refine go_gI (pc := 77) (v := V l1 8) fX5_74 (by decide) (C_T hl1) dX5_tellFitting_77 rfl ?_
      obtain ⟨r3, e4, h⟩ := ok_bind h
      refine go_cV (pc := 80) (ci := 5) (As := [.int (V l1 8)]) (st := []) (E_X5_sortIds e4) rfl oX5_sortIds iX5_sortIds sX5_sortIds kX5_298 rfl (show TC 0 = (5 + 5, 13) from rfl) rfl (Nat.le_of_ble_eq_true rfl) ⟨Nat.le_of_ble_eq_true rfl, Nat.le_of_ble_eq_true rfl⟩ ⟨rfl, rfl⟩ dX5_tellFitting_80 (st2 := []) rfl ?_
      refine go_aload_n (pc := 83) dX5_tellFitting_83 rfl rfl ?_
      refine go_gI (pc := 84) (v := r3 l1 9) fX5_77 (by decide) (C_T hl1) dX5_tellFitting_84 rfl ?_
      refine go_istore_n (pc := 87) (i := 3) dX5_tellFitting_87 rfl (Nat.le_of_ble_eq_true rfl) (L2 := [some (.ref 0), some (.ref l1), some (.ref l2), some (.int (r3 l1 9))]) rfl ?_
      exact gX5_tellFitting_b88 _ _ _ _ _ _ hl1 hl2 h
    · replace h := ifn h c2
      refine go_aload_n (pc := 34) dX5_tellFitting_34 rfl rfl ?_
      refine go_getP (pc := 35) (a := 28) fX5_34 (by decide) (show TC 0 = (5 + 5, 13) from rfl) rfl dX5_tellFitting_35 ?_
      refine go_iload_n (pc := 38) dX5_tellFitting_38 rfl rfl ?_
      obtain ⟨r10, e11, h⟩ := ok_bind h
      refine go_cV (pc := 39) (ci := 2) (As := [.int l3]) (st := []) (E_X2_isThere isK_28 e11) rfl oX2_isThere iX2_isThere sX2_isThere kX5_149 rfl (K_T isK_28) rfl (Nat.le_of_ble_eq_true rfl) ⟨Nat.le_of_ble_eq_true rfl, Nat.le_of_ble_eq_true rfl⟩ ⟨rfl, rfl⟩ dX5_tellFitting_39 (st2 := [.int r10]) rfl ?_
      refine go_if_eq (pc := 42) (tgt := 69) dX5_tellFitting_42 rfl (fun c12 => ?_) (fun c12 => ?_)
      · replace h := ifp h c12
        refine go_iinc (pc := 69) (v := (l3 + 1)) dX5_tellFitting_69 rfl (by rw [ci_1]) (Nat.le_of_ble_eq_true rfl) (L2 := [some (.ref 0), some (.ref l1), some (.ref l2), some (.int (l3 + 1))]) rfl ?_
        refine go_goto (pc := 72) (tgt := 23) dX5_tellFitting_72 rfl ?_
        exact ih _ _ _ _ _ hl1 hl2 h
      · replace h := ifn h c12
        refine go_aload_n (pc := 45) dX5_tellFitting_45 rfl rfl ?_
        refine go_gI (pc := 46) (v := V l1 7) fX5_71 (by decide) (C_T hl1) dX5_tellFitting_46 rfl ?_
        refine go_if_lt (pc := 49) (tgt := 64) dX5_tellFitting_49 rfl (fun c13 => ?_) (fun c13 => ?_)
        · replace h := ifp h c13
          refine go_aload_n (pc := 64) dX5_tellFitting_64 rfl rfl ?_
          refine go_iload_n (pc := 65) dX5_tellFitting_65 rfl rfl ?_
          obtain ⟨r14, e15, h⟩ := ok_bind h
          refine go_cV (pc := 66) (ci := 5) (As := [.int l3]) (st := []) (E_X5_addId e15) rfl oX5_addId iX5_addId sX5_addId kX5_240 rfl (show TC 0 = (5 + 5, 13) from rfl) rfl (Nat.le_of_ble_eq_true rfl) ⟨Nat.le_of_ble_eq_true rfl, Nat.le_of_ble_eq_true rfl⟩ ⟨rfl, rfl⟩ dX5_tellFitting_66 (st2 := []) rfl ?_
          refine go_iinc (pc := 69) (v := (l3 + 1)) dX5_tellFitting_69 rfl (by rw [ci_1]) (Nat.le_of_ble_eq_true rfl) (L2 := [some (.ref 0), some (.ref l1), some (.ref l2), some (.int (l3 + 1))]) rfl ?_
          refine go_goto (pc := 72) (tgt := 23) dX5_tellFitting_72 rfl ?_
          exact ih _ _ _ _ _ hl1 hl2 h
        · replace h := ifn h c13
          refine go_aload_n (pc := 52) dX5_tellFitting_52 rfl rfl ?_
          refine go_iload_n (pc := 53) dX5_tellFitting_53 rfl rfl ?_
          refine go_aload_n (pc := 54) dX5_tellFitting_54 rfl rfl ?_
          refine go_gI (pc := 55) (v := V l1 7) fX5_71 (by decide) (C_T hl1) dX5_tellFitting_55 rfl ?_
          obtain ⟨r16, e17, h⟩ := ok_bind h
          refine go_cV (pc := 58) (ci := 5) (As := [.int l3, .int (V l1 7)]) (st := []) (E_X5_passes e17) rfl oX5_passes iX5_passes sX5_passes kX5_182 rfl (show TC 0 = (5 + 5, 13) from rfl) rfl (Nat.le_of_ble_eq_true rfl) ⟨Nat.le_of_ble_eq_true rfl, Nat.le_of_ble_eq_true rfl⟩ ⟨rfl, rfl⟩ dX5_tellFitting_58 (st2 := [.int r16]) rfl ?_
          refine go_if_eq (pc := 61) (tgt := 69) dX5_tellFitting_61 rfl (fun c18 => ?_) (fun c18 => ?_)
          · replace h := ifp h c18
            refine go_iinc (pc := 69) (v := (l3 + 1)) dX5_tellFitting_69 rfl (by rw [ci_1]) (Nat.le_of_ble_eq_true rfl) (L2 := [some (.ref 0), some (.ref l1), some (.ref l2), some (.int (l3 + 1))]) rfl ?_
            refine go_goto (pc := 72) (tgt := 23) dX5_tellFitting_72 rfl ?_
            exact ih _ _ _ _ _ hl1 hl2 h
          · replace h := ifn h c18
            refine go_aload_n (pc := 64) dX5_tellFitting_64 rfl rfl ?_
            refine go_iload_n (pc := 65) dX5_tellFitting_65 rfl rfl ?_
            obtain ⟨r19, e20, h⟩ := ok_bind h
            refine go_cV (pc := 66) (ci := 5) (As := [.int l3]) (st := []) (E_X5_addId e20) rfl oX5_addId iX5_addId sX5_addId kX5_240 rfl (show TC 0 = (5 + 5, 13) from rfl) rfl (Nat.le_of_ble_eq_true rfl) ⟨Nat.le_of_ble_eq_true rfl, Nat.le_of_ble_eq_true rfl⟩ ⟨rfl, rfl⟩ dX5_tellFitting_66 (st2 := []) rfl ?_
            refine go_iinc (pc := 69) (v := (l3 + 1)) dX5_tellFitting_69 rfl (by rw [ci_1]) (Nat.le_of_ble_eq_true rfl) (L2 := [some (.ref 0), some (.ref l1), some (.ref l2), some (.int (l3 + 1))]) rfl ?_
            refine go_goto (pc := 72) (tgt := 23) dX5_tellFitting_72 rfl ?_
            exact ih _ _ _ _ _ hl1 hl2 h
def eX5_tellFitting (a1 : Nat) (a2 : Nat) (V : Mm) : Option (Int32 × Mm) :=
  if (V a1 7) < (V 84 3) then
    eX5_tellFitting_b23 fu a1 a2 0 (wr V 0 9 0)
  else
    some ((-1), V)
set_option maxHeartbeats 4000000 in
set_option maxRecDepth 100000 in
theorem E_X5_tellFitting {a1 : Nat} {a2 : Nat} {V : Mm} {res : Int32 × Mm} (ha1 : isCall a1) (ha2 : isOut a2) (h : eX5_tellFitting a1 a2 V = some res) : Ev mX5_tellFitting [.ref 0, .ref a1, .ref a2] (hC V) (some (.int res.1)) (hC res.2) := by
  refine Ev.of (n := 1) oX5_tellFitting.1 (Nat.le_of_ble_eq_true rfl) ?_
  unfold eX5_tellFitting at h
  show Go mX5_tellFitting 0 [some (.ref 0), some (.ref a1), some (.ref a2), none] [] (hC V) 0 0 (some (.int res.1)) (hC res.2)
  refine go_aload_n (pc := 0) dX5_tellFitting_0 rfl rfl ?_
  refine go_gI (pc := 1) (v := V a1 7) fX5_71 (by decide) (C_T ha1) dX5_tellFitting_1 rfl ?_
  refine go_aload_n (pc := 4) dX5_tellFitting_4 rfl rfl ?_
  refine go_getP (pc := 5) (a := 84) fX5_50 (by decide) (show TC 0 = (5 + 5, 13) from rfl) rfl dX5_tellFitting_5 ?_
  refine go_gI (pc := 8) (v := V 84 3) fX5_145 (by decide) (show TC 84 = (1 + 5, 4) from rfl) dX5_tellFitting_8 rfl ?_
  refine go_icmp_lt (pc := 11) (tgt := 16) dX5_tellFitting_11 rfl (fun c1 => ?_) (fun c1 => ?_)
  · replace h := ifp h c1
    refine go_aload_n (pc := 16) dX5_tellFitting_16 rfl rfl ?_
    refine go_iconst (pc := 17) (v := 0) dX5_tellFitting_17 ci_0 ?_
    refine go_putI (pc := 18) (k := 9) fX5_237 (Or.inl rfl) (Or.inl rfl) (show TC 0 = (5 + 5, 13) from rfl) dX5_tellFitting_18 ?_
    refine go_iconst (pc := 21) (v := 0) dX5_tellFitting_21 ci_0 ?_
    refine go_istore_n (pc := 22) (i := 3) dX5_tellFitting_22 rfl (Nat.le_of_ble_eq_true rfl) (L2 := [some (.ref 0), some (.ref a1), some (.ref a2), some (.int 0)]) rfl ?_
    exact gX5_tellFitting_b23 _ _ _ _ _ _ ha1 ha2 h
  · replace h := ifn h c1
    refine go_iconst (pc := 14) (v := (-1)) dX5_tellFitting_14 ci_m1 ?_
    cases h
    exact go_iret (pc := 15) (Or.inl rfl) ⟨Nat.zero_le _, Nat.zero_le _⟩ dX5_tellFitting_15
def eX5_parentOf (a1 : Int32) (V : Mm) : Option (Int32) :=
  if a1 = 1000 then
    some (-9)
  else
    (eX5_idOf a1 V).bind fun r2 =>
    some r2
set_option maxHeartbeats 4000000 in
set_option maxRecDepth 100000 in
theorem E_X5_parentOf {a1 : Int32} {V : Mm} {res : Int32}  (h : eX5_parentOf a1 V = some res) : Ev mX5_parentOf [.ref 0, .int a1] (hC V) (some (.int res)) (hC V) := by
  refine Ev.of (n := 0) oX5_parentOf.1 (Nat.le_of_ble_eq_true rfl) ?_
  unfold eX5_parentOf at h
  show Go mX5_parentOf 0 [some (.ref 0), some (.int a1)] [] (hC V) 0 0 (some (.int res)) (hC V)
  refine go_iload_n (pc := 0) dX5_parentOf_0 rfl rfl ?_
  refine go_sipush (pc := 1) (v := 1000) dX5_parentOf_1 cs_1000 ?_
  refine go_icmp_ne (pc := 4) (tgt := 12) dX5_parentOf_4 rfl (fun c1 => ?_) (fun c1 => ?_)
  · replace h := ifn h c1
    refine go_aload_n (pc := 12) dX5_parentOf_12 rfl rfl ?_
    refine go_iload_n (pc := 13) dX5_parentOf_13 rfl rfl ?_
    obtain ⟨r2, e3, h⟩ := ok_bind h
    refine go_cV (pc := 14) (ci := 5) (As := [.int a1]) (st := []) (E_X5_idOf e3) rfl oX5_idOf iX5_idOf sX5_idOf kX5_234 rfl (show TC 0 = (5 + 5, 13) from rfl) rfl (Nat.le_of_ble_eq_true rfl) ⟨Nat.le_of_ble_eq_true rfl, Nat.le_of_ble_eq_true rfl⟩ ⟨rfl, rfl⟩ dX5_parentOf_14 (st2 := [.int r2]) rfl ?_
    cases h
    exact go_iret (pc := 17) (Or.inl rfl) ⟨Nat.zero_le _, Nat.zero_le _⟩ dX5_parentOf_17
  · replace h := ifp h c1
    refine go_bipush (pc := 7) (v := (-9)) dX5_parentOf_7 cb_m9 ?_
    refine go_goto (pc := 9) (tgt := 17) dX5_parentOf_9 rfl ?_
    cases h
    exact go_iret (pc := 17) (Or.inl rfl) ⟨Nat.zero_le _, Nat.zero_le _⟩ dX5_parentOf_17
def eX5_isNameTaken_b3 : Nat → Int32 → Int32 → Int32 → Int32 → Mm → Option (Int32)
  | 0, _, _, _, _, _ => none
  | n + 1, l1, l2, l3, l4, V => 
    if (V 4 4) ≤ l4 then
      some 0
    else
      if l4 = l3 then
        eX5_isNameTaken_b3 n l1 l2 l3 (l4 + 1) V
      else
        (eX2_isThere 4 l4 V).bind fun r3 =>
        if r3 = 0 then
          eX5_isNameTaken_b3 n l1 l2 l3 (l4 + 1) V
        else
          (eX2_value 4 l4 0 V).bind fun r6 =>
          if r6 = l1 then
            (eX2_value 4 l4 1 V).bind fun r9 =>
            if r9 = l2 then
              some 1
            else
              eX5_isNameTaken_b3 n l1 l2 l3 (l4 + 1) V
          else
            eX5_isNameTaken_b3 n l1 l2 l3 (l4 + 1) V
set_option maxHeartbeats 4000000 in
set_option maxRecDepth 100000 in
theorem gX5_isNameTaken_b3 : ∀ (n : Nat) (l1 : Int32) (l2 : Int32) (l3 : Int32) (l4 : Int32) (V : Mm) (res : Int32) , eX5_isNameTaken_b3 n l1 l2 l3 l4 V = some res → Go mX5_isNameTaken 3 [some (.ref 0), some (.int l1), some (.int l2), some (.int l3), some (.int l4)] [] (hC V) 0 0 (some (.int res)) (hC V) := by
  intro n
  induction n with
  | zero =>
    intro l1 l2 l3 l4 V res  h
    cases h
  | succ n ih =>
    intro l1 l2 l3 l4 V res  h
    rw [eX5_isNameTaken_b3] at h
    refine go_iload (pc := 3) dX5_isNameTaken_3 rfl ?_
    refine go_aload_n (pc := 5) dX5_isNameTaken_5 rfl rfl ?_
    refine go_getP (pc := 6) (a := 4) fX5_30 (by decide) (show TC 0 = (5 + 5, 13) from rfl) rfl dX5_isNameTaken_6 ?_
    refine go_gI (pc := 9) (v := V 4 4) fX5_146 (by decide) (K_T isK_4) dX5_isNameTaken_9 rfl ?_
    refine go_icmp_ge (pc := 12) (tgt := 69) dX5_isNameTaken_12 rfl (fun c1 => ?_) (fun c1 => ?_)
    · replace h := ifp h c1
      refine go_iconst (pc := 69) (v := 0) dX5_isNameTaken_69 ci_0 ?_
      cases h
      exact go_iret (pc := 70) (Or.inr ⟨rfl, Or.inl rfl⟩) ⟨Nat.zero_le _, Nat.zero_le _⟩ dX5_isNameTaken_70
    · replace h := ifn h c1
      refine go_iload (pc := 15) dX5_isNameTaken_15 rfl ?_
      refine go_iload_n (pc := 17) dX5_isNameTaken_17 rfl rfl ?_
      refine go_icmp_eq (pc := 18) (tgt := 63) dX5_isNameTaken_18 rfl (fun c2 => ?_) (fun c2 => ?_)
      · replace h := ifp h c2
        refine go_iinc (pc := 63) (v := (l4 + 1)) dX5_isNameTaken_63 rfl (by rw [ci_1]) (Nat.le_of_ble_eq_true rfl) (L2 := [some (.ref 0), some (.int l1), some (.int l2), some (.int l3), some (.int (l4 + 1))]) rfl ?_
        refine go_goto (pc := 66) (tgt := 3) dX5_isNameTaken_66 rfl ?_
        exact ih _ _ _ _ _ _  h
      · replace h := ifn h c2
        refine go_aload_n (pc := 21) dX5_isNameTaken_21 rfl rfl ?_
        refine go_getP (pc := 22) (a := 4) fX5_30 (by decide) (show TC 0 = (5 + 5, 13) from rfl) rfl dX5_isNameTaken_22 ?_
        refine go_iload (pc := 25) dX5_isNameTaken_25 rfl ?_
        obtain ⟨r3, e4, h⟩ := ok_bind h
        refine go_cV (pc := 27) (ci := 2) (As := [.int l4]) (st := []) (E_X2_isThere isK_4 e4) rfl oX2_isThere iX2_isThere sX2_isThere kX5_149 rfl (K_T isK_4) rfl (Nat.le_of_ble_eq_true rfl) ⟨Nat.le_of_ble_eq_true rfl, Nat.le_of_ble_eq_true rfl⟩ ⟨rfl, rfl⟩ dX5_isNameTaken_27 (st2 := [.int r3]) rfl ?_
        refine go_if_eq (pc := 30) (tgt := 63) dX5_isNameTaken_30 rfl (fun c5 => ?_) (fun c5 => ?_)
        · replace h := ifp h c5
          refine go_iinc (pc := 63) (v := (l4 + 1)) dX5_isNameTaken_63 rfl (by rw [ci_1]) (Nat.le_of_ble_eq_true rfl) (L2 := [some (.ref 0), some (.int l1), some (.int l2), some (.int l3), some (.int (l4 + 1))]) rfl ?_
          refine go_goto (pc := 66) (tgt := 3) dX5_isNameTaken_66 rfl ?_
          exact ih _ _ _ _ _ _  h
        · replace h := ifn h c5
          refine go_aload_n (pc := 33) dX5_isNameTaken_33 rfl rfl ?_
          refine go_getP (pc := 34) (a := 4) fX5_30 (by decide) (show TC 0 = (5 + 5, 13) from rfl) rfl dX5_isNameTaken_34 ?_
          refine go_iload (pc := 37) dX5_isNameTaken_37 rfl ?_
          refine go_iconst (pc := 39) (v := 0) dX5_isNameTaken_39 ci_0 ?_
          obtain ⟨r6, e7, h⟩ := ok_bind h
          refine go_cV (pc := 40) (ci := 2) (As := [.int l4, .int 0]) (st := []) (E_X2_value isK_4 e7) rfl oX2_value iX2_value sX2_value kX5_152 rfl (K_T isK_4) rfl (Nat.le_of_ble_eq_true rfl) ⟨Nat.le_of_ble_eq_true rfl, Nat.le_of_ble_eq_true rfl⟩ ⟨rfl, rfl⟩ dX5_isNameTaken_40 (st2 := [.int r6]) rfl ?_
          refine go_iload_n (pc := 43) dX5_isNameTaken_43 rfl rfl ?_
          refine go_icmp_ne (pc := 44) (tgt := 63) dX5_isNameTaken_44 rfl (fun c8 => ?_) (fun c8 => ?_)
          · replace h := ifn h c8
            refine go_iinc (pc := 63) (v := (l4 + 1)) dX5_isNameTaken_63 rfl (by rw [ci_1]) (Nat.le_of_ble_eq_true rfl) (L2 := [some (.ref 0), some (.int l1), some (.int l2), some (.int l3), some (.int (l4 + 1))]) rfl ?_
            refine go_goto (pc := 66) (tgt := 3) dX5_isNameTaken_66 rfl ?_
            exact ih _ _ _ _ _ _  h
          · replace h := ifp h c8
            refine go_aload_n (pc := 47) dX5_isNameTaken_47 rfl rfl ?_
            refine go_getP (pc := 48) (a := 4) fX5_30 (by decide) (show TC 0 = (5 + 5, 13) from rfl) rfl dX5_isNameTaken_48 ?_
            refine go_iload (pc := 51) dX5_isNameTaken_51 rfl ?_
            refine go_iconst (pc := 53) (v := 1) dX5_isNameTaken_53 ci_1 ?_
            obtain ⟨r9, e10, h⟩ := ok_bind h
            refine go_cV (pc := 54) (ci := 2) (As := [.int l4, .int 1]) (st := []) (E_X2_value isK_4 e10) rfl oX2_value iX2_value sX2_value kX5_152 rfl (K_T isK_4) rfl (Nat.le_of_ble_eq_true rfl) ⟨Nat.le_of_ble_eq_true rfl, Nat.le_of_ble_eq_true rfl⟩ ⟨rfl, rfl⟩ dX5_isNameTaken_54 (st2 := [.int r9]) rfl ?_
            refine go_iload_n (pc := 57) dX5_isNameTaken_57 rfl rfl ?_
            refine go_icmp_ne (pc := 58) (tgt := 63) dX5_isNameTaken_58 rfl (fun c11 => ?_) (fun c11 => ?_)
            · replace h := ifn h c11
              refine go_iinc (pc := 63) (v := (l4 + 1)) dX5_isNameTaken_63 rfl (by rw [ci_1]) (Nat.le_of_ble_eq_true rfl) (L2 := [some (.ref 0), some (.int l1), some (.int l2), some (.int l3), some (.int (l4 + 1))]) rfl ?_
              refine go_goto (pc := 66) (tgt := 3) dX5_isNameTaken_66 rfl ?_
              exact ih _ _ _ _ _ _  h
            · replace h := ifp h c11
              refine go_iconst (pc := 61) (v := 1) dX5_isNameTaken_61 ci_1 ?_
              cases h
              exact go_iret (pc := 62) (Or.inr ⟨rfl, Or.inr rfl⟩) ⟨Nat.zero_le _, Nat.zero_le _⟩ dX5_isNameTaken_62
def eX5_isNameTaken (a1 : Int32) (a2 : Int32) (a3 : Int32) (V : Mm) : Option (Int32) :=
  eX5_isNameTaken_b3 fu a1 a2 a3 0 V
set_option maxHeartbeats 4000000 in
set_option maxRecDepth 100000 in
theorem E_X5_isNameTaken {a1 : Int32} {a2 : Int32} {a3 : Int32} {V : Mm} {res : Int32}  (h : eX5_isNameTaken a1 a2 a3 V = some res) : Ev mX5_isNameTaken [.ref 0, .int a1, .int a2, .int a3] (hC V) (some (.int res)) (hC V) := by
  refine Ev.of (n := 1) oX5_isNameTaken.1 (Nat.le_of_ble_eq_true rfl) ?_
  unfold eX5_isNameTaken at h
  show Go mX5_isNameTaken 0 [some (.ref 0), some (.int a1), some (.int a2), some (.int a3), none] [] (hC V) 0 0 (some (.int res)) (hC V)
  refine go_iconst (pc := 0) (v := 0) dX5_isNameTaken_0 ci_0 ?_
  refine go_istore (pc := 1) (i := 4) dX5_isNameTaken_1 (Nat.le_of_ble_eq_true rfl) (L2 := [some (.ref 0), some (.int a1), some (.int a2), some (.int a3), some (.int 0)]) rfl ?_
  exact gX5_isNameTaken_b3 _ _ _ _ _ _ _  h
def eX5_depthOf_b4 : Nat → Int32 → Int32 → Mm → Option (Int32)
  | 0, _, _, _ => none
  | n + 1, l2, l3, V => 
    if 4 < l2 then
      some l2
    else
      if l3 < 0 then
        some l2
      else
        if 50 ≤ l3 then
          some l2
        else
          if l3 < 0 ∨ 50 ≤ l3.toNatClampNeg then none else
          eX5_depthOf_b4 n (l2 + 1) (V 7 l3.toNatClampNeg) V
set_option maxHeartbeats 4000000 in
set_option maxRecDepth 100000 in
theorem gX5_depthOf_b4 : ∀ (n : Nat) (l2 : Int32) (l3 : Int32) (V : Mm) (res : Int32) , eX5_depthOf_b4 n l2 l3 V = some res → Go mX5_depthOf 4 [some (.ref 0), none, some (.int l2), some (.int l3)] [] (hC V) 0 0 (some (.int res)) (hC V) := by
  intro n
  induction n with
  | zero =>
    intro l2 l3 V res  h
    cases h
  | succ n ih =>
    intro l2 l3 V res  h
    rw [eX5_depthOf_b4] at h
    refine go_iload_n (pc := 4) dX5_depthOf_4 rfl rfl ?_
    refine go_iconst (pc := 5) (v := 4) dX5_depthOf_5 ci_4 ?_
    refine go_icmp_gt (pc := 6) (tgt := 37) dX5_depthOf_6 rfl (fun c1 => ?_) (fun c1 => ?_)
    · replace h := ifp h c1
      refine go_iload_n (pc := 37) dX5_depthOf_37 rfl rfl ?_
      cases h
      exact go_iret (pc := 38) (Or.inl rfl) ⟨Nat.zero_le _, Nat.zero_le _⟩ dX5_depthOf_38
    · replace h := ifn h c1
      refine go_iload_n (pc := 9) dX5_depthOf_9 rfl rfl ?_
      refine go_if_lt (pc := 10) (tgt := 37) dX5_depthOf_10 rfl (fun c2 => ?_) (fun c2 => ?_)
      · replace h := ifp h c2
        refine go_iload_n (pc := 37) dX5_depthOf_37 rfl rfl ?_
        cases h
        exact go_iret (pc := 38) (Or.inl rfl) ⟨Nat.zero_le _, Nat.zero_le _⟩ dX5_depthOf_38
      · replace h := ifn h c2
        refine go_iload_n (pc := 13) dX5_depthOf_13 rfl rfl ?_
        refine go_bipush (pc := 14) (v := 50) dX5_depthOf_14 cb_50 ?_
        refine go_icmp_ge (pc := 16) (tgt := 37) dX5_depthOf_16 rfl (fun c3 => ?_) (fun c3 => ?_)
        · replace h := ifp h c3
          refine go_iload_n (pc := 37) dX5_depthOf_37 rfl rfl ?_
          cases h
          exact go_iret (pc := 38) (Or.inl rfl) ⟨Nat.zero_le _, Nat.zero_le _⟩ dX5_depthOf_38
        · replace h := ifn h c3
          refine go_iinc (pc := 19) (v := (l2 + 1)) dX5_depthOf_19 rfl (by rw [ci_1]) (Nat.le_of_ble_eq_true rfl) (L2 := [some (.ref 0), none, some (.int (l2 + 1)), some (.int l3)]) rfl ?_
          refine go_aload_n (pc := 22) dX5_depthOf_22 rfl rfl ?_
          refine go_getP (pc := 23) (a := 4) fX5_30 (by decide) (show TC 0 = (5 + 5, 13) from rfl) rfl dX5_depthOf_23 ?_
          refine go_getP (pc := 26) (a := 5) fX5_356 (by decide) (K_T isK_4) (K_0 isK_4) dX5_depthOf_26 ?_
          refine go_iconst (pc := 29) (v := 1) dX5_depthOf_29 ci_1 ?_
          refine go_aald2 (pc := 30) (a := 7) (K_T0 isK_4) (vin (by decide)) (K_r0 isK_4 (show (1 : Int32).toNatClampNeg < 10 by decide)) dX5_depthOf_30 ?_
          refine go_iload_n (pc := 31) dX5_depthOf_31 rfl rfl ?_
          obtain ⟨c4, h⟩ := ok_not h
          refine go_ia (pc := 32) (v := V 7 l3.toNatClampNeg) (K_Tr0 isK_4 (show (1 : Int32).toNatClampNeg < 10 by decide)) (vin c4) dX5_depthOf_32 rfl ?_
          refine go_istore_n (pc := 33) (i := 3) dX5_depthOf_33 rfl (Nat.le_of_ble_eq_true rfl) (L2 := [some (.ref 0), none, some (.int (l2 + 1)), some (.int (V 7 l3.toNatClampNeg))]) rfl ?_
          refine go_goto (pc := 34) (tgt := 4) dX5_depthOf_34 rfl ?_
          exact ih _ _ _ _  h
def eX5_depthOf (a1 : Int32) (V : Mm) : Option (Int32) :=
  eX5_depthOf_b4 fu 0 a1 V
set_option maxHeartbeats 4000000 in
set_option maxRecDepth 100000 in
theorem E_X5_depthOf {a1 : Int32} {V : Mm} {res : Int32}  (h : eX5_depthOf a1 V = some res) : Ev mX5_depthOf [.ref 0, .int a1] (hC V) (some (.int res)) (hC V) := by
  refine Ev.of (n := 2) oX5_depthOf.1 (Nat.le_of_ble_eq_true rfl) ?_
  unfold eX5_depthOf at h
  show Go mX5_depthOf 0 [some (.ref 0), some (.int a1), none, none] [] (hC V) 0 0 (some (.int res)) (hC V)
  refine go_iconst (pc := 0) (v := 0) dX5_depthOf_0 ci_0 ?_
  refine go_istore_n (pc := 1) (i := 2) dX5_depthOf_1 rfl (Nat.le_of_ble_eq_true rfl) (L2 := [some (.ref 0), some (.int a1), some (.int 0), none]) rfl ?_
  refine go_iload_n (pc := 2) dX5_depthOf_2 rfl rfl ?_
  refine go_istore_n (pc := 3) (i := 3) dX5_depthOf_3 rfl (Nat.le_of_ble_eq_true rfl) (L2 := [some (.ref 0), some (.int a1), some (.int 0), some (.int a1)]) rfl ?_
  refine go_le (lle_s (lle_n (lle_s (lle_s lle_0)))) ?_
  exact gX5_depthOf_b4 _ _ _ _ _  h
def eX5_makeBox_b30 (l1 : Nat) (l2 : Nat) (l3 : Int32) (V : Mm) : Option (Int32 × Mm) :=
  (eX5_isNameTaken (V (l1 + 1) 0) l3 (-9) V).bind fun r4 =>
  if r4 = 0 then
    (eX5_depthOf l3 V).bind fun r7 =>
    if r7 < 4 then
      (eX2_isFull 4 V).bind fun r10 =>
      if r10 = 0 then
        (eX2_add 4 V).bind fun r13 =>
        (eX2_set 4 r13.1 0 (r13.2 (l1 + 1) 0) r13.2).bind fun r15 =>
        (eX2_set 4 r13.1 1 l3 r15).bind fun r17 =>
        (eX2_set 4 r13.1 2 (r17 (l1 + 1) 2) r17).bind fun r19 =>
        (eX4_add l2 1 r13.1 r19).bind fun r21 =>
        some (0, r21)
      else
        some ((-4), V)
    else
      some ((-3), V)
  else
    some ((-3), V)
set_option maxHeartbeats 4000000 in
set_option maxRecDepth 100000 in
theorem gX5_makeBox_b30 {l1 : Nat} {l2 : Nat} {l3 : Int32} {V : Mm} {res : Int32 × Mm} (hl1 : isCall l1) (hl2 : isOut l2) (h : eX5_makeBox_b30 l1 l2 l3 V = some res) : Go mX5_makeBox 30 [some (.ref 0), some (.ref l1), some (.ref l2), some (.int l3), none] [] (hC V) 0 0 (some (.int res.1)) (hC res.2) := by
  unfold eX5_makeBox_b30 at h
  refine go_aload_n (pc := 30) dX5_makeBox_30 rfl rfl ?_
  refine go_aload_n (pc := 31) dX5_makeBox_31 rfl rfl ?_
  refine go_getP (pc := 32) (a := (l1 + 1)) fX5_89 (by decide) (C_T hl1) (C_0 hl1) dX5_makeBox_32 ?_
  refine go_iconst (pc := 35) (v := 0) dX5_makeBox_35 ci_0 ?_
  refine go_ia (pc := 36) (v := V (l1 + 1) 0) (C_T0 hl1) (vin (by decide)) dX5_makeBox_36 rfl ?_
  refine go_iload_n (pc := 37) dX5_makeBox_37 rfl rfl ?_
  refine go_bipush (pc := 38) (v := (-9)) dX5_makeBox_38 cb_m9 ?_
  obtain ⟨r4, e5, h⟩ := ok_bind h
  refine go_cV (pc := 40) (ci := 5) (As := [.int (V (l1 + 1) 0), .int l3, .int (-9)]) (st := []) (E_X5_isNameTaken e5) rfl oX5_isNameTaken iX5_isNameTaken sX5_isNameTaken kX5_307 rfl (show TC 0 = (5 + 5, 13) from rfl) rfl (Nat.le_of_ble_eq_true rfl) ⟨Nat.le_of_ble_eq_true rfl, Nat.le_of_ble_eq_true rfl⟩ ⟨rfl, rfl⟩ dX5_makeBox_40 (st2 := [.int r4]) rfl ?_
  refine go_if_ne (pc := 43) (tgt := 55) dX5_makeBox_43 rfl (fun c6 => ?_) (fun c6 => ?_)
  · replace h := ifn h c6
    refine go_bipush (pc := 55) (v := (-3)) dX5_makeBox_55 cb_m3 ?_
    cases h
    exact go_iret (pc := 57) (Or.inl rfl) ⟨Nat.zero_le _, Nat.zero_le _⟩ dX5_makeBox_57
  · replace h := ifp h c6
    refine go_aload_n (pc := 46) dX5_makeBox_46 rfl rfl ?_
    refine go_iload_n (pc := 47) dX5_makeBox_47 rfl rfl ?_
    obtain ⟨r7, e8, h⟩ := ok_bind h
    refine go_cV (pc := 48) (ci := 5) (As := [.int l3]) (st := []) (E_X5_depthOf e8) rfl oX5_depthOf iX5_depthOf sX5_depthOf kX5_161 rfl (show TC 0 = (5 + 5, 13) from rfl) rfl (Nat.le_of_ble_eq_true rfl) ⟨Nat.le_of_ble_eq_true rfl, Nat.le_of_ble_eq_true rfl⟩ ⟨rfl, rfl⟩ dX5_makeBox_48 (st2 := [.int r7]) rfl ?_
    refine go_iconst (pc := 51) (v := 4) dX5_makeBox_51 ci_4 ?_
    refine go_icmp_lt (pc := 52) (tgt := 58) dX5_makeBox_52 rfl (fun c9 => ?_) (fun c9 => ?_)
    · replace h := ifp h c9
      refine go_aload_n (pc := 58) dX5_makeBox_58 rfl rfl ?_
      refine go_getP (pc := 59) (a := 4) fX5_30 (by decide) (show TC 0 = (5 + 5, 13) from rfl) rfl dX5_makeBox_59 ?_
      obtain ⟨r10, e11, h⟩ := ok_bind h
      refine go_cV (pc := 62) (ci := 2) (As := []) (st := []) (E_X2_isFull isK_4 e11) rfl oX2_isFull iX2_isFull sX2_isFull kX5_310 rfl (K_T isK_4) rfl (Nat.le_of_ble_eq_true rfl) ⟨Nat.le_of_ble_eq_true rfl, Nat.le_of_ble_eq_true rfl⟩ ⟨rfl, rfl⟩ dX5_makeBox_62 (st2 := [.int r10]) rfl ?_
      refine go_if_eq (pc := 65) (tgt := 71) dX5_makeBox_65 rfl (fun c12 => ?_) (fun c12 => ?_)
      · replace h := ifp h c12
        refine go_aload_n (pc := 71) dX5_makeBox_71 rfl rfl ?_
        refine go_getP (pc := 72) (a := 4) fX5_30 (by decide) (show TC 0 = (5 + 5, 13) from rfl) rfl dX5_makeBox_72 ?_
        obtain ⟨r13, e14, h⟩ := ok_bind h
        refine go_cV (pc := 75) (ci := 2) (As := []) (st := []) (E_X2_add isK_4 e14) rfl oX2_add iX2_add sX2_add kX5_314 rfl (K_T isK_4) rfl (Nat.le_of_ble_eq_true rfl) ⟨Nat.le_of_ble_eq_true rfl, Nat.le_of_ble_eq_true rfl⟩ ⟨rfl, rfl⟩ dX5_makeBox_75 (st2 := [.int r13.1]) rfl ?_
        refine go_istore (pc := 78) (i := 4) dX5_makeBox_78 (Nat.le_of_ble_eq_true rfl) (L2 := [some (.ref 0), some (.ref l1), some (.ref l2), some (.int l3), some (.int r13.1)]) rfl ?_
        refine go_aload_n (pc := 80) dX5_makeBox_80 rfl rfl ?_
        refine go_getP (pc := 81) (a := 4) fX5_30 (by decide) (show TC 0 = (5 + 5, 13) from rfl) rfl dX5_makeBox_81 ?_
        refine go_iload (pc := 84) dX5_makeBox_84 rfl ?_
        refine go_iconst (pc := 86) (v := 0) dX5_makeBox_86 ci_0 ?_
        refine go_aload_n (pc := 87) dX5_makeBox_87 rfl rfl ?_
        refine go_getP (pc := 88) (a := (l1 + 1)) fX5_89 (by decide) (C_T hl1) (C_0 hl1) dX5_makeBox_88 ?_
        refine go_iconst (pc := 91) (v := 0) dX5_makeBox_91 ci_0 ?_
        refine go_ia (pc := 92) (v := r13.2 (l1 + 1) 0) (C_T0 hl1) (vin (by decide)) dX5_makeBox_92 rfl ?_
        obtain ⟨r15, e16, h⟩ := ok_bind h
        refine go_cV (pc := 93) (ci := 2) (As := [.int r13.1, .int 0, .int (r13.2 (l1 + 1) 0)]) (st := []) (E_X2_set isK_4 e16) rfl oX2_set iX2_set sX2_set kX5_316 rfl (K_T isK_4) rfl (Nat.le_of_ble_eq_true rfl) ⟨Nat.le_of_ble_eq_true rfl, Nat.le_of_ble_eq_true rfl⟩ ⟨rfl, rfl⟩ dX5_makeBox_93 (st2 := []) rfl ?_
        refine go_aload_n (pc := 96) dX5_makeBox_96 rfl rfl ?_
        refine go_getP (pc := 97) (a := 4) fX5_30 (by decide) (show TC 0 = (5 + 5, 13) from rfl) rfl dX5_makeBox_97 ?_
        refine go_iload (pc := 100) dX5_makeBox_100 rfl ?_
        refine go_iconst (pc := 102) (v := 1) dX5_makeBox_102 ci_1 ?_
        refine go_iload_n (pc := 103) dX5_makeBox_103 rfl rfl ?_
        obtain ⟨r17, e18, h⟩ := ok_bind h
        refine go_cV (pc := 104) (ci := 2) (As := [.int r13.1, .int 1, .int l3]) (st := []) (E_X2_set isK_4 e18) rfl oX2_set iX2_set sX2_set kX5_316 rfl (K_T isK_4) rfl (Nat.le_of_ble_eq_true rfl) ⟨Nat.le_of_ble_eq_true rfl, Nat.le_of_ble_eq_true rfl⟩ ⟨rfl, rfl⟩ dX5_makeBox_104 (st2 := []) rfl ?_
        refine go_aload_n (pc := 107) dX5_makeBox_107 rfl rfl ?_
        refine go_getP (pc := 108) (a := 4) fX5_30 (by decide) (show TC 0 = (5 + 5, 13) from rfl) rfl dX5_makeBox_108 ?_
        refine go_iload (pc := 111) dX5_makeBox_111 rfl ?_
        refine go_iconst (pc := 113) (v := 2) dX5_makeBox_113 ci_2 ?_
        refine go_aload_n (pc := 114) dX5_makeBox_114 rfl rfl ?_
        refine go_getP (pc := 115) (a := (l1 + 1)) fX5_89 (by decide) (C_T hl1) (C_0 hl1) dX5_makeBox_115 ?_
        refine go_iconst (pc := 118) (v := 2) dX5_makeBox_118 ci_2 ?_
        refine go_ia (pc := 119) (v := r17 (l1 + 1) 2) (C_T0 hl1) (vin (by decide)) dX5_makeBox_119 rfl ?_
        obtain ⟨r19, e20, h⟩ := ok_bind h
        refine go_cV (pc := 120) (ci := 2) (As := [.int r13.1, .int 2, .int (r17 (l1 + 1) 2)]) (st := []) (E_X2_set isK_4 e20) rfl oX2_set iX2_set sX2_set kX5_316 rfl (K_T isK_4) rfl (Nat.le_of_ble_eq_true rfl) ⟨Nat.le_of_ble_eq_true rfl, Nat.le_of_ble_eq_true rfl⟩ ⟨rfl, rfl⟩ dX5_makeBox_120 (st2 := []) rfl ?_
        refine go_aload_n (pc := 123) dX5_makeBox_123 rfl rfl ?_
        refine go_iconst (pc := 124) (v := 1) dX5_makeBox_124 ci_1 ?_
        refine go_iload (pc := 125) dX5_makeBox_125 rfl ?_
        obtain ⟨r21, e22, h⟩ := ok_bind h
        refine go_cV (pc := 127) (ci := 4) (As := [.int 1, .int r13.1]) (st := []) (E_X4_add hl2 e22) rfl oX4_add iX4_add sX4_add kX5_296 rfl (O_T hl2) rfl (Nat.le_of_ble_eq_true rfl) ⟨Nat.le_of_ble_eq_true rfl, Nat.le_of_ble_eq_true rfl⟩ ⟨rfl, rfl⟩ dX5_makeBox_127 (st2 := []) rfl ?_
        refine go_iconst (pc := 130) (v := 0) dX5_makeBox_130 ci_0 ?_
        cases h
        exact go_iret (pc := 131) (Or.inl rfl) ⟨Nat.zero_le _, Nat.zero_le _⟩ dX5_makeBox_131
      · replace h := ifn h c12
        refine go_bipush (pc := 68) (v := (-4)) dX5_makeBox_68 cb_m4 ?_
        cases h
        exact go_iret (pc := 70) (Or.inl rfl) ⟨Nat.zero_le _, Nat.zero_le _⟩ dX5_makeBox_70
    · replace h := ifn h c9
      refine go_bipush (pc := 55) (v := (-3)) dX5_makeBox_55 cb_m3 ?_
      cases h
      exact go_iret (pc := 57) (Or.inl rfl) ⟨Nat.zero_le _, Nat.zero_le _⟩ dX5_makeBox_57
def eX5_makeBox (a1 : Nat) (a2 : Nat) (V : Mm) : Option (Int32 × Mm) :=
  (eX5_parentOf (V (a1 + 1) 1) V).bind fun r1 =>
  if r1 = (-9) then
    eX5_makeBox_b30 a1 a2 r1 V
  else
    (eX2_isThere 4 r1 V).bind fun r23 =>
    if r23 = 0 then
      some ((-1), V)
    else
      eX5_makeBox_b30 a1 a2 r1 V
set_option maxHeartbeats 4000000 in
set_option maxRecDepth 100000 in
theorem E_X5_makeBox {a1 : Nat} {a2 : Nat} {V : Mm} {res : Int32 × Mm} (ha1 : isCall a1) (ha2 : isOut a2) (h : eX5_makeBox a1 a2 V = some res) : Ev mX5_makeBox [.ref 0, .ref a1, .ref a2] (hC V) (some (.int res.1)) (hC res.2) := by
  refine Ev.of (n := 2) oX5_makeBox.1 (Nat.le_of_ble_eq_true rfl) ?_
  unfold eX5_makeBox at h
  show Go mX5_makeBox 0 [some (.ref 0), some (.ref a1), some (.ref a2), none, none] [] (hC V) 0 0 (some (.int res.1)) (hC res.2)
  refine go_aload_n (pc := 0) dX5_makeBox_0 rfl rfl ?_
  refine go_aload_n (pc := 1) dX5_makeBox_1 rfl rfl ?_
  refine go_getP (pc := 2) (a := (a1 + 1)) fX5_89 (by decide) (C_T ha1) (C_0 ha1) dX5_makeBox_2 ?_
  refine go_iconst (pc := 5) (v := 1) dX5_makeBox_5 ci_1 ?_
  refine go_ia (pc := 6) (v := V (a1 + 1) 1) (C_T0 ha1) (vin (by decide)) dX5_makeBox_6 rfl ?_
  obtain ⟨r1, e2, h⟩ := ok_bind h
  refine go_cV (pc := 7) (ci := 5) (As := [.int (V (a1 + 1) 1)]) (st := []) (E_X5_parentOf e2) rfl oX5_parentOf iX5_parentOf sX5_parentOf kX5_304 rfl (show TC 0 = (5 + 5, 13) from rfl) rfl (Nat.le_of_ble_eq_true rfl) ⟨Nat.le_of_ble_eq_true rfl, Nat.le_of_ble_eq_true rfl⟩ ⟨rfl, rfl⟩ dX5_makeBox_7 (st2 := [.int r1]) rfl ?_
  refine go_istore_n (pc := 10) (i := 3) dX5_makeBox_10 rfl (Nat.le_of_ble_eq_true rfl) (L2 := [some (.ref 0), some (.ref a1), some (.ref a2), some (.int r1), none]) rfl ?_
  refine go_iload_n (pc := 11) dX5_makeBox_11 rfl rfl ?_
  refine go_bipush (pc := 12) (v := (-9)) dX5_makeBox_12 cb_m9 ?_
  refine go_icmp_eq (pc := 14) (tgt := 30) dX5_makeBox_14 rfl (fun c3 => ?_) (fun c3 => ?_)
  · replace h := ifp h c3
    exact gX5_makeBox_b30 ha1 ha2 h
  · replace h := ifn h c3
    refine go_aload_n (pc := 17) dX5_makeBox_17 rfl rfl ?_
    refine go_getP (pc := 18) (a := 4) fX5_30 (by decide) (show TC 0 = (5 + 5, 13) from rfl) rfl dX5_makeBox_18 ?_
    refine go_iload_n (pc := 21) dX5_makeBox_21 rfl rfl ?_
    obtain ⟨r23, e24, h⟩ := ok_bind h
    refine go_cV (pc := 22) (ci := 2) (As := [.int r1]) (st := []) (E_X2_isThere isK_4 e24) rfl oX2_isThere iX2_isThere sX2_isThere kX5_149 rfl (K_T isK_4) rfl (Nat.le_of_ble_eq_true rfl) ⟨Nat.le_of_ble_eq_true rfl, Nat.le_of_ble_eq_true rfl⟩ ⟨rfl, rfl⟩ dX5_makeBox_22 (st2 := [.int r23]) rfl ?_
    refine go_if_ne (pc := 25) (tgt := 30) dX5_makeBox_25 rfl (fun c25 => ?_) (fun c25 => ?_)
    · replace h := ifn h c25
      exact gX5_makeBox_b30 ha1 ha2 h
    · replace h := ifp h c25
      refine go_iconst (pc := 28) (v := (-1)) dX5_makeBox_28 ci_m1 ?_
      cases h
      exact go_iret (pc := 29) (Or.inl rfl) ⟨Nat.zero_le _, Nat.zero_le _⟩ dX5_makeBox_29
def eX5_doNumbersMeet_b21 (k2 : Int32 → Int32 → Int32 → Mm → Option (Int32)) : Nat → Int32 → Int32 → Int32 → Int32 → Int32 → Mm → Option (Int32)
  | 0, _, _, _, _, _, _ => none
  | n + 1, l1, l2, l3, l4, l5, V => 
    if 3 < l5 then
      k2 l1 l2 (l3 + 1) V
    else
      if l4 = (-9) then
        eX5_doNumbersMeet_b21 k2 n l1 l2 l3 l4 (l5 + 1) V
      else
        (eX2_value 28 l2 l5 V).bind fun r6 =>
        if l4 = r6 then
          some 1
        else
          eX5_doNumbersMeet_b21 k2 n l1 l2 l3 l4 (l5 + 1) V
set_option maxHeartbeats 4000000 in
set_option maxRecDepth 100000 in
theorem gX5_doNumbersMeet_b21 {k2 : Int32 → Int32 → Int32 → Mm → Option (Int32)} (hk2 : ∀ (l1 : Int32) (l2 : Int32) (l3 : Int32) (V : Mm) (res : Int32) , k2 l1 l2 l3 V = some res → Go mX5_doNumbersMeet 2 [some (.ref 0), some (.int l1), some (.int l2), some (.int l3), none, none] [] (hC V) 0 0 (some (.int res)) (hC V)) : ∀ (n : Nat) (l1 : Int32) (l2 : Int32) (l3 : Int32) (l4 : Int32) (l5 : Int32) (V : Mm) (res : Int32) , eX5_doNumbersMeet_b21 k2 n l1 l2 l3 l4 l5 V = some res → Go mX5_doNumbersMeet 21 [some (.ref 0), some (.int l1), some (.int l2), some (.int l3), some (.int l4), some (.int l5)] [] (hC V) 0 0 (some (.int res)) (hC V) := by
  intro n
  induction n with
  | zero =>
    intro l1 l2 l3 l4 l5 V res  h
    cases h
  | succ n ih =>
    intro l1 l2 l3 l4 l5 V res  h
    rw [eX5_doNumbersMeet_b21] at h
    refine go_iload (pc := 21) dX5_doNumbersMeet_21 rfl ?_
    refine go_iconst (pc := 23) (v := 3) dX5_doNumbersMeet_23 ci_3 ?_
    refine go_icmp_gt (pc := 24) (tgt := 57) dX5_doNumbersMeet_24 rfl (fun c4 => ?_) (fun c4 => ?_)
    · replace h := ifp h c4
      refine go_iinc (pc := 57) (v := (l3 + 1)) dX5_doNumbersMeet_57 rfl (by rw [ci_1]) (Nat.le_of_ble_eq_true rfl) (L2 := [some (.ref 0), some (.int l1), some (.int l2), some (.int (l3 + 1)), some (.int l4), some (.int l5)]) rfl ?_
      refine go_goto (pc := 60) (tgt := 2) dX5_doNumbersMeet_60 rfl ?_
      refine go_le (lle_s (lle_s (lle_s (lle_s (lle_n (lle_n lle_0)))))) ?_
      exact hk2 _ _ _ _ _  h
    · replace h := ifn h c4
      refine go_iload (pc := 27) dX5_doNumbersMeet_27 rfl ?_
      refine go_bipush (pc := 29) (v := (-9)) dX5_doNumbersMeet_29 cb_m9 ?_
      refine go_icmp_eq (pc := 31) (tgt := 51) dX5_doNumbersMeet_31 rfl (fun c5 => ?_) (fun c5 => ?_)
      · replace h := ifp h c5
        refine go_iinc (pc := 51) (v := (l5 + 1)) dX5_doNumbersMeet_51 rfl (by rw [ci_1]) (Nat.le_of_ble_eq_true rfl) (L2 := [some (.ref 0), some (.int l1), some (.int l2), some (.int l3), some (.int l4), some (.int (l5 + 1))]) rfl ?_
        refine go_goto (pc := 54) (tgt := 21) dX5_doNumbersMeet_54 rfl ?_
        exact ih _ _ _ _ _ _ _  h
      · replace h := ifn h c5
        refine go_iload (pc := 34) dX5_doNumbersMeet_34 rfl ?_
        refine go_aload_n (pc := 36) dX5_doNumbersMeet_36 rfl rfl ?_
        refine go_getP (pc := 37) (a := 28) fX5_34 (by decide) (show TC 0 = (5 + 5, 13) from rfl) rfl dX5_doNumbersMeet_37 ?_
        refine go_iload_n (pc := 40) dX5_doNumbersMeet_40 rfl rfl ?_
        refine go_iload (pc := 41) dX5_doNumbersMeet_41 rfl ?_
        obtain ⟨r6, e7, h⟩ := ok_bind h
        refine go_cV (pc := 43) (ci := 2) (As := [.int l2, .int l5]) (st := [.int l4]) (E_X2_value isK_28 e7) rfl oX2_value iX2_value sX2_value kX5_152 rfl (K_T isK_28) rfl (Nat.le_of_ble_eq_true rfl) ⟨Nat.le_of_ble_eq_true rfl, Nat.le_of_ble_eq_true rfl⟩ ⟨rfl, rfl⟩ dX5_doNumbersMeet_43 (st2 := [.int r6, .int l4]) rfl ?_
        refine go_icmp_ne (pc := 46) (tgt := 51) dX5_doNumbersMeet_46 rfl (fun c8 => ?_) (fun c8 => ?_)
        · replace h := ifn h c8
          refine go_iinc (pc := 51) (v := (l5 + 1)) dX5_doNumbersMeet_51 rfl (by rw [ci_1]) (Nat.le_of_ble_eq_true rfl) (L2 := [some (.ref 0), some (.int l1), some (.int l2), some (.int l3), some (.int l4), some (.int (l5 + 1))]) rfl ?_
          refine go_goto (pc := 54) (tgt := 21) dX5_doNumbersMeet_54 rfl ?_
          exact ih _ _ _ _ _ _ _  h
        · replace h := ifp h c8
          refine go_iconst (pc := 49) (v := 1) dX5_doNumbersMeet_49 ci_1 ?_
          cases h
          exact go_iret (pc := 50) (Or.inr ⟨rfl, Or.inr rfl⟩) ⟨Nat.zero_le _, Nat.zero_le _⟩ dX5_doNumbersMeet_50
def eX5_doNumbersMeet_b2 : Nat → Int32 → Int32 → Int32 → Mm → Option (Int32)
  | 0, _, _, _, _ => none
  | n + 1, l1, l2, l3, V => 
    if 3 < l3 then
      some 0
    else
      (eX2_value 28 l1 l3 V).bind fun r2 =>
      eX5_doNumbersMeet_b21 (fun l1 l2 l3 V => eX5_doNumbersMeet_b2 n l1 l2 l3 V) fu l1 l2 l3 r2 1 V
set_option maxHeartbeats 4000000 in
set_option maxRecDepth 100000 in
theorem gX5_doNumbersMeet_b2 : ∀ (n : Nat) (l1 : Int32) (l2 : Int32) (l3 : Int32) (V : Mm) (res : Int32) , eX5_doNumbersMeet_b2 n l1 l2 l3 V = some res → Go mX5_doNumbersMeet 2 [some (.ref 0), some (.int l1), some (.int l2), some (.int l3), none, none] [] (hC V) 0 0 (some (.int res)) (hC V) := by
  intro n
  induction n with
  | zero =>
    intro l1 l2 l3 V res  h
    cases h
  | succ n ih =>
    intro l1 l2 l3 V res  h
    rw [eX5_doNumbersMeet_b2] at h
    refine go_iload_n (pc := 2) dX5_doNumbersMeet_2 rfl rfl ?_
    refine go_iconst (pc := 3) (v := 3) dX5_doNumbersMeet_3 ci_3 ?_
    refine go_icmp_gt (pc := 4) (tgt := 63) dX5_doNumbersMeet_4 rfl (fun c1 => ?_) (fun c1 => ?_)
    · replace h := ifp h c1
      refine go_iconst (pc := 63) (v := 0) dX5_doNumbersMeet_63 ci_0 ?_
      cases h
      exact go_iret (pc := 64) (Or.inr ⟨rfl, Or.inl rfl⟩) ⟨Nat.zero_le _, Nat.zero_le _⟩ dX5_doNumbersMeet_64
    · replace h := ifn h c1
      refine go_aload_n (pc := 7) dX5_doNumbersMeet_7 rfl rfl ?_
      refine go_getP (pc := 8) (a := 28) fX5_34 (by decide) (show TC 0 = (5 + 5, 13) from rfl) rfl dX5_doNumbersMeet_8 ?_
      refine go_iload_n (pc := 11) dX5_doNumbersMeet_11 rfl rfl ?_
      refine go_iload_n (pc := 12) dX5_doNumbersMeet_12 rfl rfl ?_
      obtain ⟨r2, e3, h⟩ := ok_bind h
      refine go_cV (pc := 13) (ci := 2) (As := [.int l1, .int l3]) (st := []) (E_X2_value isK_28 e3) rfl oX2_value iX2_value sX2_value kX5_152 rfl (K_T isK_28) rfl (Nat.le_of_ble_eq_true rfl) ⟨Nat.le_of_ble_eq_true rfl, Nat.le_of_ble_eq_true rfl⟩ ⟨rfl, rfl⟩ dX5_doNumbersMeet_13 (st2 := [.int r2]) rfl ?_
      refine go_istore (pc := 16) (i := 4) dX5_doNumbersMeet_16 (Nat.le_of_ble_eq_true rfl) (L2 := [some (.ref 0), some (.int l1), some (.int l2), some (.int l3), some (.int r2), none]) rfl ?_
      refine go_iconst (pc := 18) (v := 1) dX5_doNumbersMeet_18 ci_1 ?_
      refine go_istore (pc := 19) (i := 5) dX5_doNumbersMeet_19 (Nat.le_of_ble_eq_true rfl) (L2 := [some (.ref 0), some (.int l1), some (.int l2), some (.int l3), some (.int r2), some (.int 1)]) rfl ?_
      exact gX5_doNumbersMeet_b21 ih _ _ _ _ _ _ _ _  h
def eX5_doNumbersMeet (a1 : Int32) (a2 : Int32) (V : Mm) : Option (Int32) :=
  eX5_doNumbersMeet_b2 fu a1 a2 1 V
set_option maxHeartbeats 4000000 in
set_option maxRecDepth 100000 in
theorem E_X5_doNumbersMeet {a1 : Int32} {a2 : Int32} {V : Mm} {res : Int32}  (h : eX5_doNumbersMeet a1 a2 V = some res) : Ev mX5_doNumbersMeet [.ref 0, .int a1, .int a2] (hC V) (some (.int res)) (hC V) := by
  refine Ev.of (n := 3) oX5_doNumbersMeet.1 (Nat.le_of_ble_eq_true rfl) ?_
  unfold eX5_doNumbersMeet at h
  show Go mX5_doNumbersMeet 0 [some (.ref 0), some (.int a1), some (.int a2), none, none, none] [] (hC V) 0 0 (some (.int res)) (hC V)
  refine go_iconst (pc := 0) (v := 1) dX5_doNumbersMeet_0 ci_1 ?_
  refine go_istore_n (pc := 1) (i := 3) dX5_doNumbersMeet_1 rfl (Nat.le_of_ble_eq_true rfl) (L2 := [some (.ref 0), some (.int a1), some (.int a2), some (.int 1), none, none]) rfl ?_
  exact gX5_doNumbersMeet_b2 _ _ _ _ _ _  h
def eX5_threadFor_b2 : Nat → Int32 → Int32 → Mm → Option (Int32)
  | 0, _, _, _ => none
  | n + 1, l1, l2, V => 
    if l1 ≤ l2 then
      some (-9)
    else
      (eX2_isThere 28 l2 V).bind fun r2 =>
      if r2 = 0 then
        eX5_threadFor_b2 n l1 (l2 + 1) V
      else
        (eX2_value 28 l2 0 V).bind fun r5 =>
        (eX2_value 28 l1 0 V).bind fun r7 =>
        if r5 = r7 then
          (eX5_doNumbersMeet l2 l1 V).bind fun r10 =>
          if r10 = 0 then
            eX5_threadFor_b2 n l1 (l2 + 1) V
          else
            (eX2_value 28 l2 7 V).bind fun r13 =>
            some r13
        else
          eX5_threadFor_b2 n l1 (l2 + 1) V
set_option maxHeartbeats 4000000 in
set_option maxRecDepth 100000 in
theorem gX5_threadFor_b2 : ∀ (n : Nat) (l1 : Int32) (l2 : Int32) (V : Mm) (res : Int32) , eX5_threadFor_b2 n l1 l2 V = some res → Go mX5_threadFor 2 [some (.ref 0), some (.int l1), some (.int l2)] [] (hC V) 0 0 (some (.int res)) (hC V) := by
  intro n
  induction n with
  | zero =>
    intro l1 l2 V res  h
    cases h
  | succ n ih =>
    intro l1 l2 V res  h
    rw [eX5_threadFor_b2] at h
    refine go_iload_n (pc := 2) dX5_threadFor_2 rfl rfl ?_
    refine go_iload_n (pc := 3) dX5_threadFor_3 rfl rfl ?_
    refine go_icmp_ge (pc := 4) (tgt := 65) dX5_threadFor_4 rfl (fun c1 => ?_) (fun c1 => ?_)
    · replace h := ifp h c1
      refine go_bipush (pc := 65) (v := (-9)) dX5_threadFor_65 cb_m9 ?_
      cases h
      exact go_iret (pc := 67) (Or.inl rfl) ⟨Nat.zero_le _, Nat.zero_le _⟩ dX5_threadFor_67
    · replace h := ifn h c1
      refine go_aload_n (pc := 7) dX5_threadFor_7 rfl rfl ?_
      refine go_getP (pc := 8) (a := 28) fX5_34 (by decide) (show TC 0 = (5 + 5, 13) from rfl) rfl dX5_threadFor_8 ?_
      refine go_iload_n (pc := 11) dX5_threadFor_11 rfl rfl ?_
      obtain ⟨r2, e3, h⟩ := ok_bind h
      refine go_cV (pc := 12) (ci := 2) (As := [.int l2]) (st := []) (E_X2_isThere isK_28 e3) rfl oX2_isThere iX2_isThere sX2_isThere kX5_149 rfl (K_T isK_28) rfl (Nat.le_of_ble_eq_true rfl) ⟨Nat.le_of_ble_eq_true rfl, Nat.le_of_ble_eq_true rfl⟩ ⟨rfl, rfl⟩ dX5_threadFor_12 (st2 := [.int r2]) rfl ?_
      refine go_if_eq (pc := 15) (tgt := 59) dX5_threadFor_15 rfl (fun c4 => ?_) (fun c4 => ?_)
      · replace h := ifp h c4
        refine go_iinc (pc := 59) (v := (l2 + 1)) dX5_threadFor_59 rfl (by rw [ci_1]) (Nat.le_of_ble_eq_true rfl) (L2 := [some (.ref 0), some (.int l1), some (.int (l2 + 1))]) rfl ?_
        refine go_goto (pc := 62) (tgt := 2) dX5_threadFor_62 rfl ?_
        exact ih _ _ _ _  h
      · replace h := ifn h c4
        refine go_aload_n (pc := 18) dX5_threadFor_18 rfl rfl ?_
        refine go_getP (pc := 19) (a := 28) fX5_34 (by decide) (show TC 0 = (5 + 5, 13) from rfl) rfl dX5_threadFor_19 ?_
        refine go_iload_n (pc := 22) dX5_threadFor_22 rfl rfl ?_
        refine go_iconst (pc := 23) (v := 0) dX5_threadFor_23 ci_0 ?_
        obtain ⟨r5, e6, h⟩ := ok_bind h
        refine go_cV (pc := 24) (ci := 2) (As := [.int l2, .int 0]) (st := []) (E_X2_value isK_28 e6) rfl oX2_value iX2_value sX2_value kX5_152 rfl (K_T isK_28) rfl (Nat.le_of_ble_eq_true rfl) ⟨Nat.le_of_ble_eq_true rfl, Nat.le_of_ble_eq_true rfl⟩ ⟨rfl, rfl⟩ dX5_threadFor_24 (st2 := [.int r5]) rfl ?_
        refine go_aload_n (pc := 27) dX5_threadFor_27 rfl rfl ?_
        refine go_getP (pc := 28) (a := 28) fX5_34 (by decide) (show TC 0 = (5 + 5, 13) from rfl) rfl dX5_threadFor_28 ?_
        refine go_iload_n (pc := 31) dX5_threadFor_31 rfl rfl ?_
        refine go_iconst (pc := 32) (v := 0) dX5_threadFor_32 ci_0 ?_
        obtain ⟨r7, e8, h⟩ := ok_bind h
        refine go_cV (pc := 33) (ci := 2) (As := [.int l1, .int 0]) (st := [.int r5]) (E_X2_value isK_28 e8) rfl oX2_value iX2_value sX2_value kX5_152 rfl (K_T isK_28) rfl (Nat.le_of_ble_eq_true rfl) ⟨Nat.le_of_ble_eq_true rfl, Nat.le_of_ble_eq_true rfl⟩ ⟨rfl, rfl⟩ dX5_threadFor_33 (st2 := [.int r7, .int r5]) rfl ?_
        refine go_icmp_ne (pc := 36) (tgt := 59) dX5_threadFor_36 rfl (fun c9 => ?_) (fun c9 => ?_)
        · replace h := ifn h c9
          refine go_iinc (pc := 59) (v := (l2 + 1)) dX5_threadFor_59 rfl (by rw [ci_1]) (Nat.le_of_ble_eq_true rfl) (L2 := [some (.ref 0), some (.int l1), some (.int (l2 + 1))]) rfl ?_
          refine go_goto (pc := 62) (tgt := 2) dX5_threadFor_62 rfl ?_
          exact ih _ _ _ _  h
        · replace h := ifp h c9
          refine go_aload_n (pc := 39) dX5_threadFor_39 rfl rfl ?_
          refine go_iload_n (pc := 40) dX5_threadFor_40 rfl rfl ?_
          refine go_iload_n (pc := 41) dX5_threadFor_41 rfl rfl ?_
          obtain ⟨r10, e11, h⟩ := ok_bind h
          refine go_cV (pc := 42) (ci := 5) (As := [.int l2, .int l1]) (st := []) (E_X5_doNumbersMeet e11) rfl oX5_doNumbersMeet iX5_doNumbersMeet sX5_doNumbersMeet kX5_363 rfl (show TC 0 = (5 + 5, 13) from rfl) rfl (Nat.le_of_ble_eq_true rfl) ⟨Nat.le_of_ble_eq_true rfl, Nat.le_of_ble_eq_true rfl⟩ ⟨rfl, rfl⟩ dX5_threadFor_42 (st2 := [.int r10]) rfl ?_
          refine go_if_eq (pc := 45) (tgt := 59) dX5_threadFor_45 rfl (fun c12 => ?_) (fun c12 => ?_)
          · replace h := ifp h c12
            refine go_iinc (pc := 59) (v := (l2 + 1)) dX5_threadFor_59 rfl (by rw [ci_1]) (Nat.le_of_ble_eq_true rfl) (L2 := [some (.ref 0), some (.int l1), some (.int (l2 + 1))]) rfl ?_
            refine go_goto (pc := 62) (tgt := 2) dX5_threadFor_62 rfl ?_
            exact ih _ _ _ _  h
          · replace h := ifn h c12
            refine go_aload_n (pc := 48) dX5_threadFor_48 rfl rfl ?_
            refine go_getP (pc := 49) (a := 28) fX5_34 (by decide) (show TC 0 = (5 + 5, 13) from rfl) rfl dX5_threadFor_49 ?_
            refine go_iload_n (pc := 52) dX5_threadFor_52 rfl rfl ?_
            refine go_bipush (pc := 53) (v := 7) dX5_threadFor_53 cb_7 ?_
            obtain ⟨r13, e14, h⟩ := ok_bind h
            refine go_cV (pc := 55) (ci := 2) (As := [.int l2, .int 7]) (st := []) (E_X2_value isK_28 e14) rfl oX2_value iX2_value sX2_value kX5_152 rfl (K_T isK_28) rfl (Nat.le_of_ble_eq_true rfl) ⟨Nat.le_of_ble_eq_true rfl, Nat.le_of_ble_eq_true rfl⟩ ⟨rfl, rfl⟩ dX5_threadFor_55 (st2 := [.int r13]) rfl ?_
            cases h
            exact go_iret (pc := 58) (Or.inl rfl) ⟨Nat.zero_le _, Nat.zero_le _⟩ dX5_threadFor_58
def eX5_threadFor (a1 : Int32) (V : Mm) : Option (Int32) :=
  eX5_threadFor_b2 fu a1 0 V
set_option maxHeartbeats 4000000 in
set_option maxRecDepth 100000 in
theorem E_X5_threadFor {a1 : Int32} {V : Mm} {res : Int32}  (h : eX5_threadFor a1 V = some res) : Ev mX5_threadFor [.ref 0, .int a1] (hC V) (some (.int res)) (hC V) := by
  refine Ev.of (n := 1) oX5_threadFor.1 (Nat.le_of_ble_eq_true rfl) ?_
  unfold eX5_threadFor at h
  show Go mX5_threadFor 0 [some (.ref 0), some (.int a1), none] [] (hC V) 0 0 (some (.int res)) (hC V)
  refine go_iconst (pc := 0) (v := 0) dX5_threadFor_0 ci_0 ?_
  refine go_istore_n (pc := 1) (i := 2) dX5_threadFor_1 rfl (Nat.le_of_ble_eq_true rfl) (L2 := [some (.ref 0), some (.int a1), some (.int 0)]) rfl ?_
  exact gX5_threadFor_b2 _ _ _ _ _  h
def eX5_comeToThread (a1 : Int32) (V : Mm) : Option (Mm) :=
  (eX5_threadFor a1 V).bind fun r1 =>
  if r1 = (-9) then
    (eX2_add 52 V).bind fun r12 =>
    (eX2_value 52 r12.1 0 r12.2).bind fun r14 =>
    (eX2_set 52 r12.1 0 (r14 + 1) r12.2).bind fun r16 =>
    (eX2_set 28 a1 7 r12.1 r16).bind fun r18 =>
    some r18
  else
    (eX2_touch 52 r1 2 V).bind fun r4 =>
    (eX2_value 52 r1 0 r4).bind fun r6 =>
    (eX2_set 52 r1 0 (r6 + 1) r4).bind fun r8 =>
    (eX2_set 28 a1 7 r1 r8).bind fun r10 =>
    some r10
set_option maxHeartbeats 4000000 in
set_option maxRecDepth 100000 in
theorem E_X5_comeToThread {a1 : Int32} {V : Mm} {res : Mm}  (h : eX5_comeToThread a1 V = some res) : Ev mX5_comeToThread [.ref 0, .int a1] (hC V) none (hC res) := by
  refine Ev.of (n := 1) oX5_comeToThread.1 (Nat.le_of_ble_eq_true rfl) ?_
  unfold eX5_comeToThread at h
  show Go mX5_comeToThread 0 [some (.ref 0), some (.int a1), none] [] (hC V) 0 0 none (hC res)
  refine go_aload_n (pc := 0) dX5_comeToThread_0 rfl rfl ?_
  refine go_iload_n (pc := 1) dX5_comeToThread_1 rfl rfl ?_
  obtain ⟨r1, e2, h⟩ := ok_bind h
  refine go_cV (pc := 2) (ci := 5) (As := [.int a1]) (st := []) (E_X5_threadFor e2) rfl oX5_threadFor iX5_threadFor sX5_threadFor kX5_360 rfl (show TC 0 = (5 + 5, 13) from rfl) rfl (Nat.le_of_ble_eq_true rfl) ⟨Nat.le_of_ble_eq_true rfl, Nat.le_of_ble_eq_true rfl⟩ ⟨rfl, rfl⟩ dX5_comeToThread_2 (st2 := [.int r1]) rfl ?_
  refine go_istore_n (pc := 5) (i := 2) dX5_comeToThread_5 rfl (Nat.le_of_ble_eq_true rfl) (L2 := [some (.ref 0), some (.int a1), some (.int r1)]) rfl ?_
  refine go_iload_n (pc := 6) dX5_comeToThread_6 rfl rfl ?_
  refine go_bipush (pc := 7) (v := (-9)) dX5_comeToThread_7 cb_m9 ?_
  refine go_icmp_ne (pc := 9) (tgt := 23) dX5_comeToThread_9 rfl (fun c3 => ?_) (fun c3 => ?_)
  · replace h := ifn h c3
    refine go_aload_n (pc := 23) dX5_comeToThread_23 rfl rfl ?_
    refine go_getP (pc := 24) (a := 52) fX5_37 (by decide) (show TC 0 = (5 + 5, 13) from rfl) rfl dX5_comeToThread_24 ?_
    refine go_iload_n (pc := 27) dX5_comeToThread_27 rfl rfl ?_
    refine go_iconst (pc := 28) (v := 2) dX5_comeToThread_28 ci_2 ?_
    obtain ⟨r4, e5, h⟩ := ok_bind h
    refine go_cV (pc := 29) (ci := 2) (As := [.int r1, .int 2]) (st := []) (E_X2_touch isK_52 e5) rfl oX2_touch iX2_touch sX2_touch kX5_338 rfl (K_T isK_52) rfl (Nat.le_of_ble_eq_true rfl) ⟨Nat.le_of_ble_eq_true rfl, Nat.le_of_ble_eq_true rfl⟩ ⟨rfl, rfl⟩ dX5_comeToThread_29 (st2 := []) rfl ?_
    refine go_aload_n (pc := 32) dX5_comeToThread_32 rfl rfl ?_
    refine go_getP (pc := 33) (a := 52) fX5_37 (by decide) (show TC 0 = (5 + 5, 13) from rfl) rfl dX5_comeToThread_33 ?_
    refine go_iload_n (pc := 36) dX5_comeToThread_36 rfl rfl ?_
    refine go_iconst (pc := 37) (v := 0) dX5_comeToThread_37 ci_0 ?_
    refine go_aload_n (pc := 38) dX5_comeToThread_38 rfl rfl ?_
    refine go_getP (pc := 39) (a := 52) fX5_37 (by decide) (show TC 0 = (5 + 5, 13) from rfl) rfl dX5_comeToThread_39 ?_
    refine go_iload_n (pc := 42) dX5_comeToThread_42 rfl rfl ?_
    refine go_iconst (pc := 43) (v := 0) dX5_comeToThread_43 ci_0 ?_
    obtain ⟨r6, e7, h⟩ := ok_bind h
    refine go_cV (pc := 44) (ci := 2) (As := [.int r1, .int 0]) (st := [.int 0, .int r1, .ref 52]) (E_X2_value isK_52 e7) rfl oX2_value iX2_value sX2_value kX5_152 rfl (K_T isK_52) rfl (Nat.le_of_ble_eq_true rfl) ⟨Nat.le_of_ble_eq_true rfl, Nat.le_of_ble_eq_true rfl⟩ ⟨rfl, rfl⟩ dX5_comeToThread_44 (st2 := [.int r6, .int 0, .int r1, .ref 52]) rfl ?_
    refine go_iconst (pc := 47) (v := 1) dX5_comeToThread_47 ci_1 ?_
    refine go_iadd (pc := 48) dX5_comeToThread_48 ?_
    obtain ⟨r8, e9, h⟩ := ok_bind h
    refine go_cV (pc := 49) (ci := 2) (As := [.int r1, .int 0, .int (r6 + 1)]) (st := []) (E_X2_set isK_52 e9) rfl oX2_set iX2_set sX2_set kX5_316 rfl (K_T isK_52) rfl (Nat.le_of_ble_eq_true rfl) ⟨Nat.le_of_ble_eq_true rfl, Nat.le_of_ble_eq_true rfl⟩ ⟨rfl, rfl⟩ dX5_comeToThread_49 (st2 := []) rfl ?_
    refine go_aload_n (pc := 52) dX5_comeToThread_52 rfl rfl ?_
    refine go_getP (pc := 53) (a := 28) fX5_34 (by decide) (show TC 0 = (5 + 5, 13) from rfl) rfl dX5_comeToThread_53 ?_
    refine go_iload_n (pc := 56) dX5_comeToThread_56 rfl rfl ?_
    refine go_bipush (pc := 57) (v := 7) dX5_comeToThread_57 cb_7 ?_
    refine go_iload_n (pc := 59) dX5_comeToThread_59 rfl rfl ?_
    obtain ⟨r10, e11, h⟩ := ok_bind h
    refine go_cV (pc := 60) (ci := 2) (As := [.int a1, .int 7, .int r1]) (st := []) (E_X2_set isK_28 e11) rfl oX2_set iX2_set sX2_set kX5_316 rfl (K_T isK_28) rfl (Nat.le_of_ble_eq_true rfl) ⟨Nat.le_of_ble_eq_true rfl, Nat.le_of_ble_eq_true rfl⟩ ⟨rfl, rfl⟩ dX5_comeToThread_60 (st2 := []) rfl ?_
    cases h
    exact go_vret (pc := 63) rfl ⟨Nat.zero_le _, Nat.zero_le _⟩ dX5_comeToThread_63
  · replace h := ifp h c3
    refine go_aload_n (pc := 12) dX5_comeToThread_12 rfl rfl ?_
    refine go_getP (pc := 13) (a := 52) fX5_37 (by decide) (show TC 0 = (5 + 5, 13) from rfl) rfl dX5_comeToThread_13 ?_
    obtain ⟨r12, e13, h⟩ := ok_bind h
    refine go_cV (pc := 16) (ci := 2) (As := []) (st := []) (E_X2_add isK_52 e13) rfl oX2_add iX2_add sX2_add kX5_314 rfl (K_T isK_52) rfl (Nat.le_of_ble_eq_true rfl) ⟨Nat.le_of_ble_eq_true rfl, Nat.le_of_ble_eq_true rfl⟩ ⟨rfl, rfl⟩ dX5_comeToThread_16 (st2 := [.int r12.1]) rfl ?_
    refine go_istore_n (pc := 19) (i := 2) dX5_comeToThread_19 rfl (Nat.le_of_ble_eq_true rfl) (L2 := [some (.ref 0), some (.int a1), some (.int r12.1)]) rfl ?_
    refine go_goto (pc := 20) (tgt := 32) dX5_comeToThread_20 rfl ?_
    refine go_aload_n (pc := 32) dX5_comeToThread_32 rfl rfl ?_
    refine go_getP (pc := 33) (a := 52) fX5_37 (by decide) (show TC 0 = (5 + 5, 13) from rfl) rfl dX5_comeToThread_33 ?_
    refine go_iload_n (pc := 36) dX5_comeToThread_36 rfl rfl ?_
    refine go_iconst (pc := 37) (v := 0) dX5_comeToThread_37 ci_0 ?_
    refine go_aload_n (pc := 38) dX5_comeToThread_38 rfl rfl ?_
    refine go_getP (pc := 39) (a := 52) fX5_37 (by decide) (show TC 0 = (5 + 5, 13) from rfl) rfl dX5_comeToThread_39 ?_
    refine go_iload_n (pc := 42) dX5_comeToThread_42 rfl rfl ?_
    refine go_iconst (pc := 43) (v := 0) dX5_comeToThread_43 ci_0 ?_
    obtain ⟨r14, e15, h⟩ := ok_bind h
    refine go_cV (pc := 44) (ci := 2) (As := [.int r12.1, .int 0]) (st := [.int 0, .int r12.1, .ref 52]) (E_X2_value isK_52 e15) rfl oX2_value iX2_value sX2_value kX5_152 rfl (K_T isK_52) rfl (Nat.le_of_ble_eq_true rfl) ⟨Nat.le_of_ble_eq_true rfl, Nat.le_of_ble_eq_true rfl⟩ ⟨rfl, rfl⟩ dX5_comeToThread_44 (st2 := [.int r14, .int 0, .int r12.1, .ref 52]) rfl ?_
    refine go_iconst (pc := 47) (v := 1) dX5_comeToThread_47 ci_1 ?_
    refine go_iadd (pc := 48) dX5_comeToThread_48 ?_
    obtain ⟨r16, e17, h⟩ := ok_bind h
    refine go_cV (pc := 49) (ci := 2) (As := [.int r12.1, .int 0, .int (r14 + 1)]) (st := []) (E_X2_set isK_52 e17) rfl oX2_set iX2_set sX2_set kX5_316 rfl (K_T isK_52) rfl (Nat.le_of_ble_eq_true rfl) ⟨Nat.le_of_ble_eq_true rfl, Nat.le_of_ble_eq_true rfl⟩ ⟨rfl, rfl⟩ dX5_comeToThread_49 (st2 := []) rfl ?_
    refine go_aload_n (pc := 52) dX5_comeToThread_52 rfl rfl ?_
    refine go_getP (pc := 53) (a := 28) fX5_34 (by decide) (show TC 0 = (5 + 5, 13) from rfl) rfl dX5_comeToThread_53 ?_
    refine go_iload_n (pc := 56) dX5_comeToThread_56 rfl rfl ?_
    refine go_bipush (pc := 57) (v := 7) dX5_comeToThread_57 cb_7 ?_
    refine go_iload_n (pc := 59) dX5_comeToThread_59 rfl rfl ?_
    obtain ⟨r18, e19, h⟩ := ok_bind h
    refine go_cV (pc := 60) (ci := 2) (As := [.int a1, .int 7, .int r12.1]) (st := []) (E_X2_set isK_28 e19) rfl oX2_set iX2_set sX2_set kX5_316 rfl (K_T isK_28) rfl (Nat.le_of_ble_eq_true rfl) ⟨Nat.le_of_ble_eq_true rfl, Nat.le_of_ble_eq_true rfl⟩ ⟨rfl, rfl⟩ dX5_comeToThread_60 (st2 := []) rfl ?_
    cases h
    exact go_vret (pc := 63) rfl ⟨Nat.zero_le _, Nat.zero_le _⟩ dX5_comeToThread_63
def eX5_makeMail_b47 : Nat → Nat → Nat → Int32 → Int32 → Int32 → Mm → Option (Int32 × Mm)
  | 0, _, _, _, _, _, _ => none
  | n + 1, l1, l2, l3, l4, l5, V => 
    if 6 < l5 then
      (eX5_bitOf l3 V).bind fun r12 =>
      (eX2_set 28 l4 8 r12 V).bind fun r14 =>
      (eX5_comeToThread l4 r14).bind fun r16 =>
      (eX4_add l2 1 l4 r16).bind fun r18 =>
      some (0, r18)
    else
      if (3 + l5) < 0 ∨ 10 ≤ (3 + l5).toNatClampNeg then none else
      if (V (l1 + 1) ((3 + l5).toNatClampNeg)) = 1000 then
        if l5 = 2 then
          (eX2_set 28 l4 l5 (-9) V).bind fun r25 =>
          eX5_makeMail_b47 n l1 l2 l3 l4 (l5 + 1) r25
        else
          if l5 = 3 then
            (eX2_set 28 l4 l5 (-9) V).bind fun r30 =>
            eX5_makeMail_b47 n l1 l2 l3 l4 (l5 + 1) r30
          else
            (eX2_set 28 l4 l5 (V (l1 + 1) ((3 + l5).toNatClampNeg)) V).bind fun r28 =>
            eX5_makeMail_b47 n l1 l2 l3 l4 (l5 + 1) r28
      else
        (eX2_set 28 l4 l5 (V (l1 + 1) ((3 + l5).toNatClampNeg)) V).bind fun r22 =>
        eX5_makeMail_b47 n l1 l2 l3 l4 (l5 + 1) r22
set_option maxHeartbeats 4000000 in
set_option maxRecDepth 100000 in
theorem gX5_makeMail_b47 : ∀ (n : Nat) (l1 : Nat) (l2 : Nat) (l3 : Int32) (l4 : Int32) (l5 : Int32) (V : Mm) (res : Int32 × Mm) (hl1 : isCall l1) (hl2 : isOut l2), eX5_makeMail_b47 n l1 l2 l3 l4 l5 V = some res → Go mX5_makeMail 47 [some (.ref 0), some (.ref l1), some (.ref l2), some (.int l3), some (.int l4), some (.int l5), none, none] [] (hC V) 0 0 (some (.int res.1)) (hC res.2) := by
  intro n
  induction n with
  | zero =>
    intro l1 l2 l3 l4 l5 V res hl1 hl2 h
    cases h
  | succ n ih =>
    intro l1 l2 l3 l4 l5 V res hl1 hl2 h
    rw [eX5_makeMail_b47] at h
    refine go_iload (pc := 47) dX5_makeMail_47 rfl ?_
    refine go_bipush (pc := 49) (v := 6) dX5_makeMail_49 cb_6 ?_
    refine go_icmp_gt (pc := 51) (tgt := 121) dX5_makeMail_51 rfl (fun c11 => ?_) (fun c11 => ?_)
    · replace h := ifp h c11
      refine go_aload_n (pc := 121) dX5_makeMail_121 rfl rfl ?_
      refine go_getP (pc := 122) (a := 28) fX5_34 (by decide) (show TC 0 = (5 + 5, 13) from rfl) rfl dX5_makeMail_122 ?_
      refine go_iload (pc := 125) dX5_makeMail_125 rfl ?_
      refine go_bipush (pc := 127) (v := 8) dX5_makeMail_127 cb_8 ?_
      refine go_iload_n (pc := 129) dX5_makeMail_129 rfl rfl ?_
      obtain ⟨r12, e13, h⟩ := ok_bind h
      refine go_cS (pc := 130) (As := [.int l3]) (st := [.int 8, .int l4, .ref 28]) (E_X5_bitOf e13) rfl oX5_bitOf iX5_bitOf kX5_320 rfl (Nat.le_of_ble_eq_true rfl) ⟨Nat.le_of_ble_eq_true rfl, Nat.le_of_ble_eq_true rfl⟩ ⟨rfl, rfl⟩ dX5_makeMail_130 (st2 := [.int r12, .int 8, .int l4, .ref 28]) rfl ?_
      obtain ⟨r14, e15, h⟩ := ok_bind h
      refine go_cV (pc := 133) (ci := 2) (As := [.int l4, .int 8, .int r12]) (st := []) (E_X2_set isK_28 e15) rfl oX2_set iX2_set sX2_set kX5_316 rfl (K_T isK_28) rfl (Nat.le_of_ble_eq_true rfl) ⟨Nat.le_of_ble_eq_true rfl, Nat.le_of_ble_eq_true rfl⟩ ⟨rfl, rfl⟩ dX5_makeMail_133 (st2 := []) rfl ?_
      refine go_aload_n (pc := 136) dX5_makeMail_136 rfl rfl ?_
      refine go_iload (pc := 137) dX5_makeMail_137 rfl ?_
      obtain ⟨r16, e17, h⟩ := ok_bind h
      refine go_cV (pc := 139) (ci := 5) (As := [.int l4]) (st := []) (E_X5_comeToThread e17) rfl oX5_comeToThread iX5_comeToThread sX5_comeToThread kX5_323 rfl (show TC 0 = (5 + 5, 13) from rfl) rfl (Nat.le_of_ble_eq_true rfl) ⟨Nat.le_of_ble_eq_true rfl, Nat.le_of_ble_eq_true rfl⟩ ⟨rfl, rfl⟩ dX5_makeMail_139 (st2 := []) rfl ?_
      refine go_aload_n (pc := 142) dX5_makeMail_142 rfl rfl ?_
      refine go_iconst (pc := 143) (v := 1) dX5_makeMail_143 ci_1 ?_
      refine go_iload (pc := 144) dX5_makeMail_144 rfl ?_
      obtain ⟨r18, e19, h⟩ := ok_bind h
      refine go_cV (pc := 146) (ci := 4) (As := [.int 1, .int l4]) (st := []) (E_X4_add hl2 e19) rfl oX4_add iX4_add sX4_add kX5_296 rfl (O_T hl2) rfl (Nat.le_of_ble_eq_true rfl) ⟨Nat.le_of_ble_eq_true rfl, Nat.le_of_ble_eq_true rfl⟩ ⟨rfl, rfl⟩ dX5_makeMail_146 (st2 := []) rfl ?_
      refine go_iconst (pc := 149) (v := 0) dX5_makeMail_149 ci_0 ?_
      cases h
      exact go_iret (pc := 150) (Or.inl rfl) ⟨Nat.zero_le _, Nat.zero_le _⟩ dX5_makeMail_150
    · replace h := ifn h c11
      refine go_aload_n (pc := 54) dX5_makeMail_54 rfl rfl ?_
      refine go_getP (pc := 55) (a := (l1 + 1)) fX5_89 (by decide) (C_T hl1) (C_0 hl1) dX5_makeMail_55 ?_
      refine go_iconst (pc := 58) (v := 3) dX5_makeMail_58 ci_3 ?_
      refine go_iload (pc := 59) dX5_makeMail_59 rfl ?_
      refine go_iadd (pc := 61) dX5_makeMail_61 ?_
      obtain ⟨c20, h⟩ := ok_not h
      refine go_ia (pc := 62) (v := V (l1 + 1) ((3 + l5).toNatClampNeg)) (C_T0 hl1) (vin c20) dX5_makeMail_62 rfl ?_
      refine go_istore (pc := 63) (i := 6) dX5_makeMail_63 (Nat.le_of_ble_eq_true rfl) (L2 := [some (.ref 0), some (.ref l1), some (.ref l2), some (.int l3), some (.int l4), some (.int l5), some (.int (V (l1 + 1) ((3 + l5).toNatClampNeg))), none]) rfl ?_
      refine go_iload (pc := 65) dX5_makeMail_65 rfl ?_
      refine go_sipush (pc := 67) (v := 1000) dX5_makeMail_67 cs_1000 ?_
      refine go_icmp_ne (pc := 70) (tgt := 89) dX5_makeMail_70 rfl (fun c21 => ?_) (fun c21 => ?_)
      · replace h := ifn h c21
        refine go_iconst (pc := 89) (v := 0) dX5_makeMail_89 ci_0 ?_
        refine go_istore (pc := 90) (i := 7) dX5_makeMail_90 (Nat.le_of_ble_eq_true rfl) (L2 := [some (.ref 0), some (.ref l1), some (.ref l2), some (.int l3), some (.int l4), some (.int l5), some (.int (V (l1 + 1) ((3 + l5).toNatClampNeg))), some (.int 0)]) rfl ?_
        refine go_aload_n (pc := 92) dX5_makeMail_92 rfl rfl ?_
        refine go_getP (pc := 93) (a := 28) fX5_34 (by decide) (show TC 0 = (5 + 5, 13) from rfl) rfl dX5_makeMail_93 ?_
        refine go_iload (pc := 96) dX5_makeMail_96 rfl ?_
        refine go_iload (pc := 98) dX5_makeMail_98 rfl ?_
        refine go_iload (pc := 100) dX5_makeMail_100 rfl ?_
        refine go_if_eq (pc := 102) (tgt := 110) dX5_makeMail_102 rfl (fun _ => ?_) (fun c => absurd c (by decide))
        refine go_iload (pc := 110) dX5_makeMail_110 rfl ?_
        obtain ⟨r22, e23, h⟩ := ok_bind h
        refine go_cV (pc := 112) (ci := 2) (As := [.int l4, .int l5, .int (V (l1 + 1) ((3 + l5).toNatClampNeg))]) (st := []) (E_X2_set isK_28 e23) rfl oX2_set iX2_set sX2_set kX5_316 rfl (K_T isK_28) rfl (Nat.le_of_ble_eq_true rfl) ⟨Nat.le_of_ble_eq_true rfl, Nat.le_of_ble_eq_true rfl⟩ ⟨rfl, rfl⟩ dX5_makeMail_112 (st2 := []) rfl ?_
        refine go_iinc (pc := 115) (v := (l5 + 1)) dX5_makeMail_115 rfl (by rw [ci_1]) (Nat.le_of_ble_eq_true rfl) (L2 := [some (.ref 0), some (.ref l1), some (.ref l2), some (.int l3), some (.int l4), some (.int (l5 + 1)), some (.int (V (l1 + 1) ((3 + l5).toNatClampNeg))), some (.int 0)]) rfl ?_
        refine go_goto (pc := 118) (tgt := 47) dX5_makeMail_118 rfl ?_
        refine go_le (lle_s (lle_s (lle_s (lle_s (lle_s (lle_s (lle_n (lle_n lle_0)))))))) ?_
        exact ih _ _ _ _ _ _ _ hl1 hl2 h
      · replace h := ifp h c21
        refine go_iload (pc := 73) dX5_makeMail_73 rfl ?_
        refine go_iconst (pc := 75) (v := 2) dX5_makeMail_75 ci_2 ?_
        refine go_icmp_eq (pc := 76) (tgt := 85) dX5_makeMail_76 rfl (fun c24 => ?_) (fun c24 => ?_)
        · replace h := ifp h c24
          refine go_iconst (pc := 85) (v := 1) dX5_makeMail_85 ci_1 ?_
          refine go_goto (pc := 86) (tgt := 90) dX5_makeMail_86 rfl ?_
          refine go_istore (pc := 90) (i := 7) dX5_makeMail_90 (Nat.le_of_ble_eq_true rfl) (L2 := [some (.ref 0), some (.ref l1), some (.ref l2), some (.int l3), some (.int l4), some (.int l5), some (.int (V (l1 + 1) ((3 + l5).toNatClampNeg))), some (.int 1)]) rfl ?_
          refine go_aload_n (pc := 92) dX5_makeMail_92 rfl rfl ?_
          refine go_getP (pc := 93) (a := 28) fX5_34 (by decide) (show TC 0 = (5 + 5, 13) from rfl) rfl dX5_makeMail_93 ?_
          refine go_iload (pc := 96) dX5_makeMail_96 rfl ?_
          refine go_iload (pc := 98) dX5_makeMail_98 rfl ?_
          refine go_iload (pc := 100) dX5_makeMail_100 rfl ?_
          refine go_if_eq (pc := 102) (tgt := 110) dX5_makeMail_102 rfl (fun c => absurd c (by decide)) (fun _ => ?_)
          refine go_bipush (pc := 105) (v := (-9)) dX5_makeMail_105 cb_m9 ?_
          refine go_goto (pc := 107) (tgt := 112) dX5_makeMail_107 rfl ?_
          obtain ⟨r25, e26, h⟩ := ok_bind h
          refine go_cV (pc := 112) (ci := 2) (As := [.int l4, .int l5, .int (-9)]) (st := []) (E_X2_set isK_28 e26) rfl oX2_set iX2_set sX2_set kX5_316 rfl (K_T isK_28) rfl (Nat.le_of_ble_eq_true rfl) ⟨Nat.le_of_ble_eq_true rfl, Nat.le_of_ble_eq_true rfl⟩ ⟨rfl, rfl⟩ dX5_makeMail_112 (st2 := []) rfl ?_
          refine go_iinc (pc := 115) (v := (l5 + 1)) dX5_makeMail_115 rfl (by rw [ci_1]) (Nat.le_of_ble_eq_true rfl) (L2 := [some (.ref 0), some (.ref l1), some (.ref l2), some (.int l3), some (.int l4), some (.int (l5 + 1)), some (.int (V (l1 + 1) ((3 + l5).toNatClampNeg))), some (.int 1)]) rfl ?_
          refine go_goto (pc := 118) (tgt := 47) dX5_makeMail_118 rfl ?_
          refine go_le (lle_s (lle_s (lle_s (lle_s (lle_s (lle_s (lle_n (lle_n lle_0)))))))) ?_
          exact ih _ _ _ _ _ _ _ hl1 hl2 h
        · replace h := ifn h c24
          refine go_iload (pc := 79) dX5_makeMail_79 rfl ?_
          refine go_iconst (pc := 81) (v := 3) dX5_makeMail_81 ci_3 ?_
          refine go_icmp_ne (pc := 82) (tgt := 89) dX5_makeMail_82 rfl (fun c27 => ?_) (fun c27 => ?_)
          · replace h := ifn h c27
            refine go_iconst (pc := 89) (v := 0) dX5_makeMail_89 ci_0 ?_
            refine go_istore (pc := 90) (i := 7) dX5_makeMail_90 (Nat.le_of_ble_eq_true rfl) (L2 := [some (.ref 0), some (.ref l1), some (.ref l2), some (.int l3), some (.int l4), some (.int l5), some (.int (V (l1 + 1) ((3 + l5).toNatClampNeg))), some (.int 0)]) rfl ?_
            refine go_aload_n (pc := 92) dX5_makeMail_92 rfl rfl ?_
            refine go_getP (pc := 93) (a := 28) fX5_34 (by decide) (show TC 0 = (5 + 5, 13) from rfl) rfl dX5_makeMail_93 ?_
            refine go_iload (pc := 96) dX5_makeMail_96 rfl ?_
            refine go_iload (pc := 98) dX5_makeMail_98 rfl ?_
            refine go_iload (pc := 100) dX5_makeMail_100 rfl ?_
            refine go_if_eq (pc := 102) (tgt := 110) dX5_makeMail_102 rfl (fun _ => ?_) (fun c => absurd c (by decide))
            refine go_iload (pc := 110) dX5_makeMail_110 rfl ?_
            obtain ⟨r28, e29, h⟩ := ok_bind h
            refine go_cV (pc := 112) (ci := 2) (As := [.int l4, .int l5, .int (V (l1 + 1) ((3 + l5).toNatClampNeg))]) (st := []) (E_X2_set isK_28 e29) rfl oX2_set iX2_set sX2_set kX5_316 rfl (K_T isK_28) rfl (Nat.le_of_ble_eq_true rfl) ⟨Nat.le_of_ble_eq_true rfl, Nat.le_of_ble_eq_true rfl⟩ ⟨rfl, rfl⟩ dX5_makeMail_112 (st2 := []) rfl ?_
            refine go_iinc (pc := 115) (v := (l5 + 1)) dX5_makeMail_115 rfl (by rw [ci_1]) (Nat.le_of_ble_eq_true rfl) (L2 := [some (.ref 0), some (.ref l1), some (.ref l2), some (.int l3), some (.int l4), some (.int (l5 + 1)), some (.int (V (l1 + 1) ((3 + l5).toNatClampNeg))), some (.int 0)]) rfl ?_
            refine go_goto (pc := 118) (tgt := 47) dX5_makeMail_118 rfl ?_
            refine go_le (lle_s (lle_s (lle_s (lle_s (lle_s (lle_s (lle_n (lle_n lle_0)))))))) ?_
            exact ih _ _ _ _ _ _ _ hl1 hl2 h
          · replace h := ifp h c27
            refine go_iconst (pc := 85) (v := 1) dX5_makeMail_85 ci_1 ?_
            refine go_goto (pc := 86) (tgt := 90) dX5_makeMail_86 rfl ?_
            refine go_istore (pc := 90) (i := 7) dX5_makeMail_90 (Nat.le_of_ble_eq_true rfl) (L2 := [some (.ref 0), some (.ref l1), some (.ref l2), some (.int l3), some (.int l4), some (.int l5), some (.int (V (l1 + 1) ((3 + l5).toNatClampNeg))), some (.int 1)]) rfl ?_
            refine go_aload_n (pc := 92) dX5_makeMail_92 rfl rfl ?_
            refine go_getP (pc := 93) (a := 28) fX5_34 (by decide) (show TC 0 = (5 + 5, 13) from rfl) rfl dX5_makeMail_93 ?_
            refine go_iload (pc := 96) dX5_makeMail_96 rfl ?_
            refine go_iload (pc := 98) dX5_makeMail_98 rfl ?_
            refine go_iload (pc := 100) dX5_makeMail_100 rfl ?_
            refine go_if_eq (pc := 102) (tgt := 110) dX5_makeMail_102 rfl (fun c => absurd c (by decide)) (fun _ => ?_)
            refine go_bipush (pc := 105) (v := (-9)) dX5_makeMail_105 cb_m9 ?_
            refine go_goto (pc := 107) (tgt := 112) dX5_makeMail_107 rfl ?_
            obtain ⟨r30, e31, h⟩ := ok_bind h
            refine go_cV (pc := 112) (ci := 2) (As := [.int l4, .int l5, .int (-9)]) (st := []) (E_X2_set isK_28 e31) rfl oX2_set iX2_set sX2_set kX5_316 rfl (K_T isK_28) rfl (Nat.le_of_ble_eq_true rfl) ⟨Nat.le_of_ble_eq_true rfl, Nat.le_of_ble_eq_true rfl⟩ ⟨rfl, rfl⟩ dX5_makeMail_112 (st2 := []) rfl ?_
            refine go_iinc (pc := 115) (v := (l5 + 1)) dX5_makeMail_115 rfl (by rw [ci_1]) (Nat.le_of_ble_eq_true rfl) (L2 := [some (.ref 0), some (.ref l1), some (.ref l2), some (.int l3), some (.int l4), some (.int (l5 + 1)), some (.int (V (l1 + 1) ((3 + l5).toNatClampNeg))), some (.int 1)]) rfl ?_
            refine go_goto (pc := 118) (tgt := 47) dX5_makeMail_118 rfl ?_
            refine go_le (lle_s (lle_s (lle_s (lle_s (lle_s (lle_s (lle_n (lle_n lle_0)))))))) ?_
            exact ih _ _ _ _ _ _ _ hl1 hl2 h
def eX5_makeMail (a1 : Nat) (a2 : Nat) (V : Mm) : Option (Int32 × Mm) :=
  (eX5_idOf (V a1 6) V).bind fun r1 =>
  (eX2_isThere 4 r1 V).bind fun r3 =>
  if r3 = 0 then
    some ((-1), V)
  else
    (eX2_isFull 28 V).bind fun r6 =>
    if r6 = 0 then
      (eX2_add 28 V).bind fun r9 =>
      eX5_makeMail_b47 fu a1 a2 r1 r9.1 0 r9.2
    else
      some ((-4), V)
set_option maxHeartbeats 4000000 in
set_option maxRecDepth 100000 in
theorem E_X5_makeMail {a1 : Nat} {a2 : Nat} {V : Mm} {res : Int32 × Mm} (ha1 : isCall a1) (ha2 : isOut a2) (h : eX5_makeMail a1 a2 V = some res) : Ev mX5_makeMail [.ref 0, .ref a1, .ref a2] (hC V) (some (.int res.1)) (hC res.2) := by
  refine Ev.of (n := 5) oX5_makeMail.1 (Nat.le_of_ble_eq_true rfl) ?_
  unfold eX5_makeMail at h
  show Go mX5_makeMail 0 [some (.ref 0), some (.ref a1), some (.ref a2), none, none, none, none, none] [] (hC V) 0 0 (some (.int res.1)) (hC res.2)
  refine go_aload_n (pc := 0) dX5_makeMail_0 rfl rfl ?_
  refine go_aload_n (pc := 1) dX5_makeMail_1 rfl rfl ?_
  refine go_gI (pc := 2) (v := V a1 6) fX5_86 (by decide) (C_T ha1) dX5_makeMail_2 rfl ?_
  obtain ⟨r1, e2, h⟩ := ok_bind h
  refine go_cV (pc := 5) (ci := 5) (As := [.int (V a1 6)]) (st := []) (E_X5_idOf e2) rfl oX5_idOf iX5_idOf sX5_idOf kX5_234 rfl (show TC 0 = (5 + 5, 13) from rfl) rfl (Nat.le_of_ble_eq_true rfl) ⟨Nat.le_of_ble_eq_true rfl, Nat.le_of_ble_eq_true rfl⟩ ⟨rfl, rfl⟩ dX5_makeMail_5 (st2 := [.int r1]) rfl ?_
  refine go_istore_n (pc := 8) (i := 3) dX5_makeMail_8 rfl (Nat.le_of_ble_eq_true rfl) (L2 := [some (.ref 0), some (.ref a1), some (.ref a2), some (.int r1), none, none, none, none]) rfl ?_
  refine go_aload_n (pc := 9) dX5_makeMail_9 rfl rfl ?_
  refine go_getP (pc := 10) (a := 4) fX5_30 (by decide) (show TC 0 = (5 + 5, 13) from rfl) rfl dX5_makeMail_10 ?_
  refine go_iload_n (pc := 13) dX5_makeMail_13 rfl rfl ?_
  obtain ⟨r3, e4, h⟩ := ok_bind h
  refine go_cV (pc := 14) (ci := 2) (As := [.int r1]) (st := []) (E_X2_isThere isK_4 e4) rfl oX2_isThere iX2_isThere sX2_isThere kX5_149 rfl (K_T isK_4) rfl (Nat.le_of_ble_eq_true rfl) ⟨Nat.le_of_ble_eq_true rfl, Nat.le_of_ble_eq_true rfl⟩ ⟨rfl, rfl⟩ dX5_makeMail_14 (st2 := [.int r3]) rfl ?_
  refine go_if_ne (pc := 17) (tgt := 22) dX5_makeMail_17 rfl (fun c5 => ?_) (fun c5 => ?_)
  · replace h := ifn h c5
    refine go_aload_n (pc := 22) dX5_makeMail_22 rfl rfl ?_
    refine go_getP (pc := 23) (a := 28) fX5_34 (by decide) (show TC 0 = (5 + 5, 13) from rfl) rfl dX5_makeMail_23 ?_
    obtain ⟨r6, e7, h⟩ := ok_bind h
    refine go_cV (pc := 26) (ci := 2) (As := []) (st := []) (E_X2_isFull isK_28 e7) rfl oX2_isFull iX2_isFull sX2_isFull kX5_310 rfl (K_T isK_28) rfl (Nat.le_of_ble_eq_true rfl) ⟨Nat.le_of_ble_eq_true rfl, Nat.le_of_ble_eq_true rfl⟩ ⟨rfl, rfl⟩ dX5_makeMail_26 (st2 := [.int r6]) rfl ?_
    refine go_if_eq (pc := 29) (tgt := 35) dX5_makeMail_29 rfl (fun c8 => ?_) (fun c8 => ?_)
    · replace h := ifp h c8
      refine go_aload_n (pc := 35) dX5_makeMail_35 rfl rfl ?_
      refine go_getP (pc := 36) (a := 28) fX5_34 (by decide) (show TC 0 = (5 + 5, 13) from rfl) rfl dX5_makeMail_36 ?_
      obtain ⟨r9, e10, h⟩ := ok_bind h
      refine go_cV (pc := 39) (ci := 2) (As := []) (st := []) (E_X2_add isK_28 e10) rfl oX2_add iX2_add sX2_add kX5_314 rfl (K_T isK_28) rfl (Nat.le_of_ble_eq_true rfl) ⟨Nat.le_of_ble_eq_true rfl, Nat.le_of_ble_eq_true rfl⟩ ⟨rfl, rfl⟩ dX5_makeMail_39 (st2 := [.int r9.1]) rfl ?_
      refine go_istore (pc := 42) (i := 4) dX5_makeMail_42 (Nat.le_of_ble_eq_true rfl) (L2 := [some (.ref 0), some (.ref a1), some (.ref a2), some (.int r1), some (.int r9.1), none, none, none]) rfl ?_
      refine go_iconst (pc := 44) (v := 0) dX5_makeMail_44 ci_0 ?_
      refine go_istore (pc := 45) (i := 5) dX5_makeMail_45 (Nat.le_of_ble_eq_true rfl) (L2 := [some (.ref 0), some (.ref a1), some (.ref a2), some (.int r1), some (.int r9.1), some (.int 0), none, none]) rfl ?_
      exact gX5_makeMail_b47 _ _ _ _ _ _ _ _ ha1 ha2 h
    · replace h := ifn h c8
      refine go_bipush (pc := 32) (v := (-4)) dX5_makeMail_32 cb_m4 ?_
      cases h
      exact go_iret (pc := 34) (Or.inl rfl) ⟨Nat.zero_le _, Nat.zero_le _⟩ dX5_makeMail_34
  · replace h := ifp h c5
    refine go_iconst (pc := 20) (v := (-1)) dX5_makeMail_20 ci_m1 ?_
    cases h
    exact go_iret (pc := 21) (Or.inl rfl) ⟨Nat.zero_le _, Nat.zero_le _⟩ dX5_makeMail_21
def eX5_keepAll  (V : Mm) : Option (Mm) :=
  (eX2_keep 4 V).bind fun r1 =>
  (eX2_keep 28 r1).bind fun r3 =>
  (eX2_keep 52 r3).bind fun r5 =>
  some r5
set_option maxHeartbeats 4000000 in
set_option maxRecDepth 100000 in
theorem E_X5_keepAll  {V : Mm} {res : Mm}  (h : eX5_keepAll V = some res) : Ev mX5_keepAll [.ref 0] (hC V) none (hC res) := by
  refine Ev.of (n := 0) oX5_keepAll.1 (Nat.le_of_ble_eq_true rfl) ?_
  unfold eX5_keepAll at h
  show Go mX5_keepAll 0 [some (.ref 0)] [] (hC V) 0 0 none (hC res)
  refine go_aload_n (pc := 0) dX5_keepAll_0 rfl rfl ?_
  refine go_getP (pc := 1) (a := 4) fX5_30 (by decide) (show TC 0 = (5 + 5, 13) from rfl) rfl dX5_keepAll_1 ?_
  obtain ⟨r1, e2, h⟩ := ok_bind h
  refine go_cV (pc := 4) (ci := 2) (As := []) (st := []) (E_X2_keep isK_4 e2) rfl oX2_keep iX2_keep sX2_keep kX5_271 rfl (K_T isK_4) rfl (Nat.le_of_ble_eq_true rfl) ⟨Nat.le_of_ble_eq_true rfl, Nat.le_of_ble_eq_true rfl⟩ ⟨rfl, rfl⟩ dX5_keepAll_4 (st2 := []) rfl ?_
  refine go_aload_n (pc := 7) dX5_keepAll_7 rfl rfl ?_
  refine go_getP (pc := 8) (a := 28) fX5_34 (by decide) (show TC 0 = (5 + 5, 13) from rfl) rfl dX5_keepAll_8 ?_
  obtain ⟨r3, e4, h⟩ := ok_bind h
  refine go_cV (pc := 11) (ci := 2) (As := []) (st := []) (E_X2_keep isK_28 e4) rfl oX2_keep iX2_keep sX2_keep kX5_271 rfl (K_T isK_28) rfl (Nat.le_of_ble_eq_true rfl) ⟨Nat.le_of_ble_eq_true rfl, Nat.le_of_ble_eq_true rfl⟩ ⟨rfl, rfl⟩ dX5_keepAll_11 (st2 := []) rfl ?_
  refine go_aload_n (pc := 14) dX5_keepAll_14 rfl rfl ?_
  refine go_getP (pc := 15) (a := 52) fX5_37 (by decide) (show TC 0 = (5 + 5, 13) from rfl) rfl dX5_keepAll_15 ?_
  obtain ⟨r5, e6, h⟩ := ok_bind h
  refine go_cV (pc := 18) (ci := 2) (As := []) (st := []) (E_X2_keep isK_52 e6) rfl oX2_keep iX2_keep sX2_keep kX5_271 rfl (K_T isK_52) rfl (Nat.le_of_ble_eq_true rfl) ⟨Nat.le_of_ble_eq_true rfl, Nat.le_of_ble_eq_true rfl⟩ ⟨rfl, rfl⟩ dX5_keepAll_18 (st2 := []) rfl ?_
  cases h
  exact go_vret (pc := 21) rfl ⟨Nat.zero_le _, Nat.zero_le _⟩ dX5_keepAll_21
def eX5_isAnyTooDeep_b2 : Nat → Int32 → Mm → Option (Int32)
  | 0, _, _ => none
  | n + 1, l1, V => 
    if (V 4 4) ≤ l1 then
      some 0
    else
      (eX2_isThere 4 l1 V).bind fun r2 =>
      if r2 = 0 then
        eX5_isAnyTooDeep_b2 n (l1 + 1) V
      else
        (eX5_depthOf l1 V).bind fun r5 =>
        if r5 ≤ 4 then
          eX5_isAnyTooDeep_b2 n (l1 + 1) V
        else
          some 1
set_option maxHeartbeats 4000000 in
set_option maxRecDepth 100000 in
theorem gX5_isAnyTooDeep_b2 : ∀ (n : Nat) (l1 : Int32) (V : Mm) (res : Int32) , eX5_isAnyTooDeep_b2 n l1 V = some res → Go mX5_isAnyTooDeep 2 [some (.ref 0), some (.int l1)] [] (hC V) 0 0 (some (.int res)) (hC V) := by
  intro n
  induction n with
  | zero =>
    intro l1 V res  h
    cases h
  | succ n ih =>
    intro l1 V res  h
    rw [eX5_isAnyTooDeep_b2] at h
    refine go_iload_n (pc := 2) dX5_isAnyTooDeep_2 rfl rfl ?_
    refine go_aload_n (pc := 3) dX5_isAnyTooDeep_3 rfl rfl ?_
    refine go_getP (pc := 4) (a := 4) fX5_30 (by decide) (show TC 0 = (5 + 5, 13) from rfl) rfl dX5_isAnyTooDeep_4 ?_
    refine go_gI (pc := 7) (v := V 4 4) fX5_146 (by decide) (K_T isK_4) dX5_isAnyTooDeep_7 rfl ?_
    refine go_icmp_ge (pc := 10) (tgt := 41) dX5_isAnyTooDeep_10 rfl (fun c1 => ?_) (fun c1 => ?_)
    · replace h := ifp h c1
      refine go_iconst (pc := 41) (v := 0) dX5_isAnyTooDeep_41 ci_0 ?_
      cases h
      exact go_iret (pc := 42) (Or.inr ⟨rfl, Or.inl rfl⟩) ⟨Nat.zero_le _, Nat.zero_le _⟩ dX5_isAnyTooDeep_42
    · replace h := ifn h c1
      refine go_aload_n (pc := 13) dX5_isAnyTooDeep_13 rfl rfl ?_
      refine go_getP (pc := 14) (a := 4) fX5_30 (by decide) (show TC 0 = (5 + 5, 13) from rfl) rfl dX5_isAnyTooDeep_14 ?_
      refine go_iload_n (pc := 17) dX5_isAnyTooDeep_17 rfl rfl ?_
      obtain ⟨r2, e3, h⟩ := ok_bind h
      refine go_cV (pc := 18) (ci := 2) (As := [.int l1]) (st := []) (E_X2_isThere isK_4 e3) rfl oX2_isThere iX2_isThere sX2_isThere kX5_149 rfl (K_T isK_4) rfl (Nat.le_of_ble_eq_true rfl) ⟨Nat.le_of_ble_eq_true rfl, Nat.le_of_ble_eq_true rfl⟩ ⟨rfl, rfl⟩ dX5_isAnyTooDeep_18 (st2 := [.int r2]) rfl ?_
      refine go_if_eq (pc := 21) (tgt := 35) dX5_isAnyTooDeep_21 rfl (fun c4 => ?_) (fun c4 => ?_)
      · replace h := ifp h c4
        refine go_iinc (pc := 35) (v := (l1 + 1)) dX5_isAnyTooDeep_35 rfl (by rw [ci_1]) (Nat.le_of_ble_eq_true rfl) (L2 := [some (.ref 0), some (.int (l1 + 1))]) rfl ?_
        refine go_goto (pc := 38) (tgt := 2) dX5_isAnyTooDeep_38 rfl ?_
        exact ih _ _ _  h
      · replace h := ifn h c4
        refine go_aload_n (pc := 24) dX5_isAnyTooDeep_24 rfl rfl ?_
        refine go_iload_n (pc := 25) dX5_isAnyTooDeep_25 rfl rfl ?_
        obtain ⟨r5, e6, h⟩ := ok_bind h
        refine go_cV (pc := 26) (ci := 5) (As := [.int l1]) (st := []) (E_X5_depthOf e6) rfl oX5_depthOf iX5_depthOf sX5_depthOf kX5_161 rfl (show TC 0 = (5 + 5, 13) from rfl) rfl (Nat.le_of_ble_eq_true rfl) ⟨Nat.le_of_ble_eq_true rfl, Nat.le_of_ble_eq_true rfl⟩ ⟨rfl, rfl⟩ dX5_isAnyTooDeep_26 (st2 := [.int r5]) rfl ?_
        refine go_iconst (pc := 29) (v := 4) dX5_isAnyTooDeep_29 ci_4 ?_
        refine go_icmp_le (pc := 30) (tgt := 35) dX5_isAnyTooDeep_30 rfl (fun c7 => ?_) (fun c7 => ?_)
        · replace h := ifp h c7
          refine go_iinc (pc := 35) (v := (l1 + 1)) dX5_isAnyTooDeep_35 rfl (by rw [ci_1]) (Nat.le_of_ble_eq_true rfl) (L2 := [some (.ref 0), some (.int (l1 + 1))]) rfl ?_
          refine go_goto (pc := 38) (tgt := 2) dX5_isAnyTooDeep_38 rfl ?_
          exact ih _ _ _  h
        · replace h := ifn h c7
          refine go_iconst (pc := 33) (v := 1) dX5_isAnyTooDeep_33 ci_1 ?_
          cases h
          exact go_iret (pc := 34) (Or.inr ⟨rfl, Or.inr rfl⟩) ⟨Nat.zero_le _, Nat.zero_le _⟩ dX5_isAnyTooDeep_34
def eX5_isAnyTooDeep  (V : Mm) : Option (Int32) :=
  eX5_isAnyTooDeep_b2 fu 0 V
set_option maxHeartbeats 4000000 in
set_option maxRecDepth 100000 in
theorem E_X5_isAnyTooDeep  {V : Mm} {res : Int32}  (h : eX5_isAnyTooDeep V = some res) : Ev mX5_isAnyTooDeep [.ref 0] (hC V) (some (.int res)) (hC V) := by
  refine Ev.of (n := 1) oX5_isAnyTooDeep.1 (Nat.le_of_ble_eq_true rfl) ?_
  unfold eX5_isAnyTooDeep at h
  show Go mX5_isAnyTooDeep 0 [some (.ref 0), none] [] (hC V) 0 0 (some (.int res)) (hC V)
  refine go_iconst (pc := 0) (v := 0) dX5_isAnyTooDeep_0 ci_0 ?_
  refine go_istore_n (pc := 1) (i := 1) dX5_isAnyTooDeep_1 rfl (Nat.le_of_ble_eq_true rfl) (L2 := [some (.ref 0), some (.int 0)]) rfl ?_
  exact gX5_isAnyTooDeep_b2 _ _ _ _  h
def eX5_changeBox_b35 (l1 : Int32) (l2 : Int32) (l3 : Int32) (V : Mm) : Option (Int32 × Mm) :=
  (eX2_value 4 l1 l2 V).bind fun r5 =>
  if r5 = l3 then
    some (0, V)
  else
    (eX2_set 4 l1 l2 l3 V).bind fun r8 =>
    (eX2_touch 4 l1 2 r8).bind fun r10 =>
    (eX2_value 4 l1 0 r10).bind fun r12 =>
    (eX2_value 4 l1 1 r10).bind fun r14 =>
    (eX5_isNameTaken r12 r14 l1 r10).bind fun r16 =>
    if r16 = 0 then
      (eX5_isAnyTooDeep r10).bind fun r19 =>
      if r19 = 0 then
        some (0, r10)
      else
        some ((-3), r10)
    else
      some ((-3), r10)
set_option maxHeartbeats 4000000 in
set_option maxRecDepth 100000 in
theorem gX5_changeBox_b35 {l1 : Int32} {l2 : Int32} {l3 : Int32} {V : Mm} {res : Int32 × Mm}  (h : eX5_changeBox_b35 l1 l2 l3 V = some res) : Go mX5_changeBox 35 [some (.ref 0), some (.int l1), some (.int l2), some (.int l3)] [] (hC V) 0 0 (some (.int res.1)) (hC res.2) := by
  unfold eX5_changeBox_b35 at h
  refine go_aload_n (pc := 35) dX5_changeBox_35 rfl rfl ?_
  refine go_getP (pc := 36) (a := 4) fX5_30 (by decide) (show TC 0 = (5 + 5, 13) from rfl) rfl dX5_changeBox_36 ?_
  refine go_iload_n (pc := 39) dX5_changeBox_39 rfl rfl ?_
  refine go_iload_n (pc := 40) dX5_changeBox_40 rfl rfl ?_
  obtain ⟨r5, e6, h⟩ := ok_bind h
  refine go_cV (pc := 41) (ci := 2) (As := [.int l1, .int l2]) (st := []) (E_X2_value isK_4 e6) rfl oX2_value iX2_value sX2_value kX5_152 rfl (K_T isK_4) rfl (Nat.le_of_ble_eq_true rfl) ⟨Nat.le_of_ble_eq_true rfl, Nat.le_of_ble_eq_true rfl⟩ ⟨rfl, rfl⟩ dX5_changeBox_41 (st2 := [.int r5]) rfl ?_
  refine go_iload_n (pc := 44) dX5_changeBox_44 rfl rfl ?_
  refine go_icmp_ne (pc := 45) (tgt := 50) dX5_changeBox_45 rfl (fun c7 => ?_) (fun c7 => ?_)
  · replace h := ifn h c7
    refine go_aload_n (pc := 50) dX5_changeBox_50 rfl rfl ?_
    refine go_getP (pc := 51) (a := 4) fX5_30 (by decide) (show TC 0 = (5 + 5, 13) from rfl) rfl dX5_changeBox_51 ?_
    refine go_iload_n (pc := 54) dX5_changeBox_54 rfl rfl ?_
    refine go_iload_n (pc := 55) dX5_changeBox_55 rfl rfl ?_
    refine go_iload_n (pc := 56) dX5_changeBox_56 rfl rfl ?_
    obtain ⟨r8, e9, h⟩ := ok_bind h
    refine go_cV (pc := 57) (ci := 2) (As := [.int l1, .int l2, .int l3]) (st := []) (E_X2_set isK_4 e9) rfl oX2_set iX2_set sX2_set kX5_316 rfl (K_T isK_4) rfl (Nat.le_of_ble_eq_true rfl) ⟨Nat.le_of_ble_eq_true rfl, Nat.le_of_ble_eq_true rfl⟩ ⟨rfl, rfl⟩ dX5_changeBox_57 (st2 := []) rfl ?_
    refine go_aload_n (pc := 60) dX5_changeBox_60 rfl rfl ?_
    refine go_getP (pc := 61) (a := 4) fX5_30 (by decide) (show TC 0 = (5 + 5, 13) from rfl) rfl dX5_changeBox_61 ?_
    refine go_iload_n (pc := 64) dX5_changeBox_64 rfl rfl ?_
    refine go_iconst (pc := 65) (v := 2) dX5_changeBox_65 ci_2 ?_
    obtain ⟨r10, e11, h⟩ := ok_bind h
    refine go_cV (pc := 66) (ci := 2) (As := [.int l1, .int 2]) (st := []) (E_X2_touch isK_4 e11) rfl oX2_touch iX2_touch sX2_touch kX5_338 rfl (K_T isK_4) rfl (Nat.le_of_ble_eq_true rfl) ⟨Nat.le_of_ble_eq_true rfl, Nat.le_of_ble_eq_true rfl⟩ ⟨rfl, rfl⟩ dX5_changeBox_66 (st2 := []) rfl ?_
    refine go_aload_n (pc := 69) dX5_changeBox_69 rfl rfl ?_
    refine go_aload_n (pc := 70) dX5_changeBox_70 rfl rfl ?_
    refine go_getP (pc := 71) (a := 4) fX5_30 (by decide) (show TC 0 = (5 + 5, 13) from rfl) rfl dX5_changeBox_71 ?_
    refine go_iload_n (pc := 74) dX5_changeBox_74 rfl rfl ?_
    refine go_iconst (pc := 75) (v := 0) dX5_changeBox_75 ci_0 ?_
    obtain ⟨r12, e13, h⟩ := ok_bind h
    refine go_cV (pc := 76) (ci := 2) (As := [.int l1, .int 0]) (st := [.ref 0]) (E_X2_value isK_4 e13) rfl oX2_value iX2_value sX2_value kX5_152 rfl (K_T isK_4) rfl (Nat.le_of_ble_eq_true rfl) ⟨Nat.le_of_ble_eq_true rfl, Nat.le_of_ble_eq_true rfl⟩ ⟨rfl, rfl⟩ dX5_changeBox_76 (st2 := [.int r12, .ref 0]) rfl ?_
    refine go_aload_n (pc := 79) dX5_changeBox_79 rfl rfl ?_
    refine go_getP (pc := 80) (a := 4) fX5_30 (by decide) (show TC 0 = (5 + 5, 13) from rfl) rfl dX5_changeBox_80 ?_
    refine go_iload_n (pc := 83) dX5_changeBox_83 rfl rfl ?_
    refine go_iconst (pc := 84) (v := 1) dX5_changeBox_84 ci_1 ?_
    obtain ⟨r14, e15, h⟩ := ok_bind h
    refine go_cV (pc := 85) (ci := 2) (As := [.int l1, .int 1]) (st := [.int r12, .ref 0]) (E_X2_value isK_4 e15) rfl oX2_value iX2_value sX2_value kX5_152 rfl (K_T isK_4) rfl (Nat.le_of_ble_eq_true rfl) ⟨Nat.le_of_ble_eq_true rfl, Nat.le_of_ble_eq_true rfl⟩ ⟨rfl, rfl⟩ dX5_changeBox_85 (st2 := [.int r14, .int r12, .ref 0]) rfl ?_
    refine go_iload_n (pc := 88) dX5_changeBox_88 rfl rfl ?_
    obtain ⟨r16, e17, h⟩ := ok_bind h
    refine go_cV (pc := 89) (ci := 5) (As := [.int r12, .int r14, .int l1]) (st := []) (E_X5_isNameTaken e17) rfl oX5_isNameTaken iX5_isNameTaken sX5_isNameTaken kX5_307 rfl (show TC 0 = (5 + 5, 13) from rfl) rfl (Nat.le_of_ble_eq_true rfl) ⟨Nat.le_of_ble_eq_true rfl, Nat.le_of_ble_eq_true rfl⟩ ⟨rfl, rfl⟩ dX5_changeBox_89 (st2 := [.int r16]) rfl ?_
    refine go_if_ne (pc := 92) (tgt := 102) dX5_changeBox_92 rfl (fun c18 => ?_) (fun c18 => ?_)
    · replace h := ifn h c18
      refine go_bipush (pc := 102) (v := (-3)) dX5_changeBox_102 cb_m3 ?_
      cases h
      exact go_iret (pc := 104) (Or.inl rfl) ⟨Nat.zero_le _, Nat.zero_le _⟩ dX5_changeBox_104
    · replace h := ifp h c18
      refine go_aload_n (pc := 95) dX5_changeBox_95 rfl rfl ?_
      obtain ⟨r19, e20, h⟩ := ok_bind h
      refine go_cV (pc := 96) (ci := 5) (As := []) (st := []) (E_X5_isAnyTooDeep e20) rfl oX5_isAnyTooDeep iX5_isAnyTooDeep sX5_isAnyTooDeep kX5_341 rfl (show TC 0 = (5 + 5, 13) from rfl) rfl (Nat.le_of_ble_eq_true rfl) ⟨Nat.le_of_ble_eq_true rfl, Nat.le_of_ble_eq_true rfl⟩ ⟨rfl, rfl⟩ dX5_changeBox_96 (st2 := [.int r19]) rfl ?_
      refine go_if_eq (pc := 99) (tgt := 105) dX5_changeBox_99 rfl (fun c21 => ?_) (fun c21 => ?_)
      · replace h := ifp h c21
        refine go_iconst (pc := 105) (v := 0) dX5_changeBox_105 ci_0 ?_
        cases h
        exact go_iret (pc := 106) (Or.inl rfl) ⟨Nat.zero_le _, Nat.zero_le _⟩ dX5_changeBox_106
      · replace h := ifn h c21
        refine go_bipush (pc := 102) (v := (-3)) dX5_changeBox_102 cb_m3 ?_
        cases h
        exact go_iret (pc := 104) (Or.inl rfl) ⟨Nat.zero_le _, Nat.zero_le _⟩ dX5_changeBox_104
  · replace h := ifp h c7
    refine go_iconst (pc := 48) (v := 0) dX5_changeBox_48 ci_0 ?_
    cases h
    exact go_iret (pc := 49) (Or.inl rfl) ⟨Nat.zero_le _, Nat.zero_le _⟩ dX5_changeBox_49
def eX5_changeBox (a1 : Int32) (a2 : Int32) (a3 : Int32) (V : Mm) : Option (Int32 × Mm) :=
  (eX2_isThere 4 a1 V).bind fun r1 =>
  if r1 = 0 then
    some ((-1), V)
  else
    if a2 = 1 then
      if a3 = (-9) then
        eX5_changeBox_b35 a1 a2 a3 V
      else
        (eX2_isThere 4 a3 V).bind fun r23 =>
        if r23 = 0 then
          some ((-1), V)
        else
          eX5_changeBox_b35 a1 a2 a3 V
    else
      eX5_changeBox_b35 a1 a2 a3 V
set_option maxHeartbeats 4000000 in
set_option maxRecDepth 100000 in
theorem E_X5_changeBox {a1 : Int32} {a2 : Int32} {a3 : Int32} {V : Mm} {res : Int32 × Mm}  (h : eX5_changeBox a1 a2 a3 V = some res) : Ev mX5_changeBox [.ref 0, .int a1, .int a2, .int a3] (hC V) (some (.int res.1)) (hC res.2) := by
  refine Ev.of (n := 0) oX5_changeBox.1 (Nat.le_of_ble_eq_true rfl) ?_
  unfold eX5_changeBox at h
  show Go mX5_changeBox 0 [some (.ref 0), some (.int a1), some (.int a2), some (.int a3)] [] (hC V) 0 0 (some (.int res.1)) (hC res.2)
  refine go_aload_n (pc := 0) dX5_changeBox_0 rfl rfl ?_
  refine go_getP (pc := 1) (a := 4) fX5_30 (by decide) (show TC 0 = (5 + 5, 13) from rfl) rfl dX5_changeBox_1 ?_
  refine go_iload_n (pc := 4) dX5_changeBox_4 rfl rfl ?_
  obtain ⟨r1, e2, h⟩ := ok_bind h
  refine go_cV (pc := 5) (ci := 2) (As := [.int a1]) (st := []) (E_X2_isThere isK_4 e2) rfl oX2_isThere iX2_isThere sX2_isThere kX5_149 rfl (K_T isK_4) rfl (Nat.le_of_ble_eq_true rfl) ⟨Nat.le_of_ble_eq_true rfl, Nat.le_of_ble_eq_true rfl⟩ ⟨rfl, rfl⟩ dX5_changeBox_5 (st2 := [.int r1]) rfl ?_
  refine go_if_eq (pc := 8) (tgt := 33) dX5_changeBox_8 rfl (fun c3 => ?_) (fun c3 => ?_)
  · replace h := ifp h c3
    refine go_iconst (pc := 33) (v := (-1)) dX5_changeBox_33 ci_m1 ?_
    cases h
    exact go_iret (pc := 34) (Or.inl rfl) ⟨Nat.zero_le _, Nat.zero_le _⟩ dX5_changeBox_34
  · replace h := ifn h c3
    refine go_iload_n (pc := 11) dX5_changeBox_11 rfl rfl ?_
    refine go_iconst (pc := 12) (v := 1) dX5_changeBox_12 ci_1 ?_
    refine go_icmp_ne (pc := 13) (tgt := 35) dX5_changeBox_13 rfl (fun c4 => ?_) (fun c4 => ?_)
    · replace h := ifn h c4
      exact gX5_changeBox_b35  h
    · replace h := ifp h c4
      refine go_iload_n (pc := 16) dX5_changeBox_16 rfl rfl ?_
      refine go_bipush (pc := 17) (v := (-9)) dX5_changeBox_17 cb_m9 ?_
      refine go_icmp_eq (pc := 19) (tgt := 35) dX5_changeBox_19 rfl (fun c22 => ?_) (fun c22 => ?_)
      · replace h := ifp h c22
        exact gX5_changeBox_b35  h
      · replace h := ifn h c22
        refine go_aload_n (pc := 22) dX5_changeBox_22 rfl rfl ?_
        refine go_getP (pc := 23) (a := 4) fX5_30 (by decide) (show TC 0 = (5 + 5, 13) from rfl) rfl dX5_changeBox_23 ?_
        refine go_iload_n (pc := 26) dX5_changeBox_26 rfl rfl ?_
        obtain ⟨r23, e24, h⟩ := ok_bind h
        refine go_cV (pc := 27) (ci := 2) (As := [.int a3]) (st := []) (E_X2_isThere isK_4 e24) rfl oX2_isThere iX2_isThere sX2_isThere kX5_149 rfl (K_T isK_4) rfl (Nat.le_of_ble_eq_true rfl) ⟨Nat.le_of_ble_eq_true rfl, Nat.le_of_ble_eq_true rfl⟩ ⟨rfl, rfl⟩ dX5_changeBox_27 (st2 := [.int r23]) rfl ?_
        refine go_if_ne (pc := 30) (tgt := 35) dX5_changeBox_30 rfl (fun c25 => ?_) (fun c25 => ?_)
        · replace h := ifn h c25
          exact gX5_changeBox_b35  h
        · replace h := ifp h c25
          refine go_iconst (pc := 33) (v := (-1)) dX5_changeBox_33 ci_m1 ?_
          cases h
          exact go_iret (pc := 34) (Or.inl rfl) ⟨Nat.zero_le _, Nat.zero_le _⟩ dX5_changeBox_34
def eX5_changeMail_b85 (l1 : Int32) (l4 : Int32) (l5 : Int32) (s0 : Int32) (V : Mm) : Option (Int32 × Mm) :=
  if l4 = 8 then
    if s0 = 0 then
      some ((-3), V)
    else
      if s0 = l5 then
        some (0, V)
      else
        (eX2_set 28 l1 l4 s0 V).bind fun r20 =>
        (eX2_touch 28 l1 2 r20).bind fun r22 =>
        some (0, r22)
  else
    if s0 = l5 then
      some (0, V)
    else
      (eX2_set 28 l1 l4 s0 V).bind fun r14 =>
      (eX2_touch 28 l1 2 r14).bind fun r16 =>
      some (0, r16)
set_option maxHeartbeats 4000000 in
set_option maxRecDepth 100000 in
theorem gX5_changeMail_b85 {l1 : Int32} {l4 : Int32} {l5 : Int32} {s0 : Int32} {V : Mm} {res : Int32 × Mm}  (h : eX5_changeMail_b85 l1 l4 l5 s0 V = some res) : Go mX5_changeMail 85 [some (.ref 0), some (.int l1), none, none, some (.int l4), some (.int l5), none] [.int s0] (hC V) 0 0 (some (.int res.1)) (hC res.2) := by
  unfold eX5_changeMail_b85 at h
  refine go_istore (pc := 85) (i := 6) dX5_changeMail_85 (Nat.le_of_ble_eq_true rfl) (L2 := [some (.ref 0), some (.int l1), none, none, some (.int l4), some (.int l5), some (.int s0)]) rfl ?_
  refine go_iload (pc := 87) dX5_changeMail_87 rfl ?_
  refine go_bipush (pc := 89) (v := 8) dX5_changeMail_89 cb_8 ?_
  refine go_icmp_ne (pc := 91) (tgt := 102) dX5_changeMail_91 rfl (fun c12 => ?_) (fun c12 => ?_)
  · replace h := ifn h c12
    refine go_iload (pc := 102) dX5_changeMail_102 rfl ?_
    refine go_iload (pc := 104) dX5_changeMail_104 rfl ?_
    refine go_icmp_eq (pc := 106) (tgt := 130) dX5_changeMail_106 rfl (fun c13 => ?_) (fun c13 => ?_)
    · replace h := ifp h c13
      refine go_iconst (pc := 130) (v := 0) dX5_changeMail_130 ci_0 ?_
      cases h
      exact go_iret (pc := 131) (Or.inl rfl) ⟨Nat.zero_le _, Nat.zero_le _⟩ dX5_changeMail_131
    · replace h := ifn h c13
      refine go_aload_n (pc := 109) dX5_changeMail_109 rfl rfl ?_
      refine go_getP (pc := 110) (a := 28) fX5_34 (by decide) (show TC 0 = (5 + 5, 13) from rfl) rfl dX5_changeMail_110 ?_
      refine go_iload_n (pc := 113) dX5_changeMail_113 rfl rfl ?_
      refine go_iload (pc := 114) dX5_changeMail_114 rfl ?_
      refine go_iload (pc := 116) dX5_changeMail_116 rfl ?_
      obtain ⟨r14, e15, h⟩ := ok_bind h
      refine go_cV (pc := 118) (ci := 2) (As := [.int l1, .int l4, .int s0]) (st := []) (E_X2_set isK_28 e15) rfl oX2_set iX2_set sX2_set kX5_316 rfl (K_T isK_28) rfl (Nat.le_of_ble_eq_true rfl) ⟨Nat.le_of_ble_eq_true rfl, Nat.le_of_ble_eq_true rfl⟩ ⟨rfl, rfl⟩ dX5_changeMail_118 (st2 := []) rfl ?_
      refine go_aload_n (pc := 121) dX5_changeMail_121 rfl rfl ?_
      refine go_getP (pc := 122) (a := 28) fX5_34 (by decide) (show TC 0 = (5 + 5, 13) from rfl) rfl dX5_changeMail_122 ?_
      refine go_iload_n (pc := 125) dX5_changeMail_125 rfl rfl ?_
      refine go_iconst (pc := 126) (v := 2) dX5_changeMail_126 ci_2 ?_
      obtain ⟨r16, e17, h⟩ := ok_bind h
      refine go_cV (pc := 127) (ci := 2) (As := [.int l1, .int 2]) (st := []) (E_X2_touch isK_28 e17) rfl oX2_touch iX2_touch sX2_touch kX5_338 rfl (K_T isK_28) rfl (Nat.le_of_ble_eq_true rfl) ⟨Nat.le_of_ble_eq_true rfl, Nat.le_of_ble_eq_true rfl⟩ ⟨rfl, rfl⟩ dX5_changeMail_127 (st2 := []) rfl ?_
      refine go_iconst (pc := 130) (v := 0) dX5_changeMail_130 ci_0 ?_
      cases h
      exact go_iret (pc := 131) (Or.inl rfl) ⟨Nat.zero_le _, Nat.zero_le _⟩ dX5_changeMail_131
  · replace h := ifp h c12
    refine go_iload (pc := 94) dX5_changeMail_94 rfl ?_
    refine go_if_ne (pc := 96) (tgt := 102) dX5_changeMail_96 rfl (fun c18 => ?_) (fun c18 => ?_)
    · replace h := ifn h c18
      refine go_iload (pc := 102) dX5_changeMail_102 rfl ?_
      refine go_iload (pc := 104) dX5_changeMail_104 rfl ?_
      refine go_icmp_eq (pc := 106) (tgt := 130) dX5_changeMail_106 rfl (fun c19 => ?_) (fun c19 => ?_)
      · replace h := ifp h c19
        refine go_iconst (pc := 130) (v := 0) dX5_changeMail_130 ci_0 ?_
        cases h
        exact go_iret (pc := 131) (Or.inl rfl) ⟨Nat.zero_le _, Nat.zero_le _⟩ dX5_changeMail_131
      · replace h := ifn h c19
        refine go_aload_n (pc := 109) dX5_changeMail_109 rfl rfl ?_
        refine go_getP (pc := 110) (a := 28) fX5_34 (by decide) (show TC 0 = (5 + 5, 13) from rfl) rfl dX5_changeMail_110 ?_
        refine go_iload_n (pc := 113) dX5_changeMail_113 rfl rfl ?_
        refine go_iload (pc := 114) dX5_changeMail_114 rfl ?_
        refine go_iload (pc := 116) dX5_changeMail_116 rfl ?_
        obtain ⟨r20, e21, h⟩ := ok_bind h
        refine go_cV (pc := 118) (ci := 2) (As := [.int l1, .int l4, .int s0]) (st := []) (E_X2_set isK_28 e21) rfl oX2_set iX2_set sX2_set kX5_316 rfl (K_T isK_28) rfl (Nat.le_of_ble_eq_true rfl) ⟨Nat.le_of_ble_eq_true rfl, Nat.le_of_ble_eq_true rfl⟩ ⟨rfl, rfl⟩ dX5_changeMail_118 (st2 := []) rfl ?_
        refine go_aload_n (pc := 121) dX5_changeMail_121 rfl rfl ?_
        refine go_getP (pc := 122) (a := 28) fX5_34 (by decide) (show TC 0 = (5 + 5, 13) from rfl) rfl dX5_changeMail_122 ?_
        refine go_iload_n (pc := 125) dX5_changeMail_125 rfl rfl ?_
        refine go_iconst (pc := 126) (v := 2) dX5_changeMail_126 ci_2 ?_
        obtain ⟨r22, e23, h⟩ := ok_bind h
        refine go_cV (pc := 127) (ci := 2) (As := [.int l1, .int 2]) (st := []) (E_X2_touch isK_28 e23) rfl oX2_touch iX2_touch sX2_touch kX5_338 rfl (K_T isK_28) rfl (Nat.le_of_ble_eq_true rfl) ⟨Nat.le_of_ble_eq_true rfl, Nat.le_of_ble_eq_true rfl⟩ ⟨rfl, rfl⟩ dX5_changeMail_127 (st2 := []) rfl ?_
        refine go_iconst (pc := 130) (v := 0) dX5_changeMail_130 ci_0 ?_
        cases h
        exact go_iret (pc := 131) (Or.inl rfl) ⟨Nat.zero_le _, Nat.zero_le _⟩ dX5_changeMail_131
    · replace h := ifp h c18
      refine go_bipush (pc := 99) (v := (-3)) dX5_changeMail_99 cb_m3 ?_
      cases h
      exact go_iret (pc := 101) (Or.inl rfl) ⟨Nat.zero_le _, Nat.zero_le _⟩ dX5_changeMail_101
def eX5_changeMail_b39 (l1 : Int32) (l2 : Int32) (l3 : Int32) (s0 : Int32) (V : Mm) : Option (Int32 × Mm) :=
  (eX2_value 28 l1 s0 V).bind fun r6 =>
  if l2 = 0 then
    eX5_changeMail_b85 l1 s0 r6 l3 V
  else
    if l2 = 1 then
      (eX5_bitOf l3 V).bind fun r24 =>
      eX5_changeMail_b85 l1 s0 r6 (r6 ||| r24) V
    else
      (eX5_bitOf l3 V).bind fun r10 =>
      eX5_changeMail_b85 l1 s0 r6 (r6 &&& (r10 ^^^ (-1))) V
set_option maxHeartbeats 4000000 in
set_option maxRecDepth 100000 in
theorem gX5_changeMail_b39 {l1 : Int32} {l2 : Int32} {l3 : Int32} {s0 : Int32} {V : Mm} {res : Int32 × Mm}  (h : eX5_changeMail_b39 l1 l2 l3 s0 V = some res) : Go mX5_changeMail 39 [some (.ref 0), some (.int l1), some (.int l2), some (.int l3), none, none, none] [.int s0] (hC V) 0 0 (some (.int res.1)) (hC res.2) := by
  unfold eX5_changeMail_b39 at h
  refine go_istore (pc := 39) (i := 4) dX5_changeMail_39 (Nat.le_of_ble_eq_true rfl) (L2 := [some (.ref 0), some (.int l1), some (.int l2), some (.int l3), some (.int s0), none, none]) rfl ?_
  refine go_aload_n (pc := 41) dX5_changeMail_41 rfl rfl ?_
  refine go_getP (pc := 42) (a := 28) fX5_34 (by decide) (show TC 0 = (5 + 5, 13) from rfl) rfl dX5_changeMail_42 ?_
  refine go_iload_n (pc := 45) dX5_changeMail_45 rfl rfl ?_
  refine go_iload (pc := 46) dX5_changeMail_46 rfl ?_
  obtain ⟨r6, e7, h⟩ := ok_bind h
  refine go_cV (pc := 48) (ci := 2) (As := [.int l1, .int s0]) (st := []) (E_X2_value isK_28 e7) rfl oX2_value iX2_value sX2_value kX5_152 rfl (K_T isK_28) rfl (Nat.le_of_ble_eq_true rfl) ⟨Nat.le_of_ble_eq_true rfl, Nat.le_of_ble_eq_true rfl⟩ ⟨rfl, rfl⟩ dX5_changeMail_48 (st2 := [.int r6]) rfl ?_
  refine go_istore (pc := 51) (i := 5) dX5_changeMail_51 (Nat.le_of_ble_eq_true rfl) (L2 := [some (.ref 0), some (.int l1), some (.int l2), some (.int l3), some (.int s0), some (.int r6), none]) rfl ?_
  refine go_iload_n (pc := 53) dX5_changeMail_53 rfl rfl ?_
  refine go_if_ne (pc := 54) (tgt := 61) dX5_changeMail_54 rfl (fun c8 => ?_) (fun c8 => ?_)
  · replace h := ifn h c8
    refine go_iload_n (pc := 61) dX5_changeMail_61 rfl rfl ?_
    refine go_iconst (pc := 62) (v := 1) dX5_changeMail_62 ci_1 ?_
    refine go_icmp_ne (pc := 63) (tgt := 76) dX5_changeMail_63 rfl (fun c9 => ?_) (fun c9 => ?_)
    · replace h := ifn h c9
      refine go_iload (pc := 76) dX5_changeMail_76 rfl ?_
      refine go_iload_n (pc := 78) dX5_changeMail_78 rfl rfl ?_
      obtain ⟨r10, e11, h⟩ := ok_bind h
      refine go_cS (pc := 79) (As := [.int l3]) (st := [.int r6]) (E_X5_bitOf e11) rfl oX5_bitOf iX5_bitOf kX5_320 rfl (Nat.le_of_ble_eq_true rfl) ⟨Nat.le_of_ble_eq_true rfl, Nat.le_of_ble_eq_true rfl⟩ ⟨rfl, rfl⟩ dX5_changeMail_79 (st2 := [.int r10, .int r6]) rfl ?_
      refine go_iconst (pc := 82) (v := (-1)) dX5_changeMail_82 ci_m1 ?_
      refine go_ixor (pc := 83) dX5_changeMail_83 ?_
      refine go_iand (pc := 84) dX5_changeMail_84 ?_
      refine go_le (lle_s (lle_s (lle_n (lle_n (lle_s (lle_s (lle_n lle_0))))))) ?_
      exact gX5_changeMail_b85  h
    · replace h := ifp h c9
      refine go_iload (pc := 66) dX5_changeMail_66 rfl ?_
      refine go_iload_n (pc := 68) dX5_changeMail_68 rfl rfl ?_
      obtain ⟨r24, e25, h⟩ := ok_bind h
      refine go_cS (pc := 69) (As := [.int l3]) (st := [.int r6]) (E_X5_bitOf e25) rfl oX5_bitOf iX5_bitOf kX5_320 rfl (Nat.le_of_ble_eq_true rfl) ⟨Nat.le_of_ble_eq_true rfl, Nat.le_of_ble_eq_true rfl⟩ ⟨rfl, rfl⟩ dX5_changeMail_69 (st2 := [.int r24, .int r6]) rfl ?_
      refine go_ior (pc := 72) dX5_changeMail_72 ?_
      refine go_goto (pc := 73) (tgt := 85) dX5_changeMail_73 rfl ?_
      refine go_le (lle_s (lle_s (lle_n (lle_n (lle_s (lle_s (lle_n lle_0))))))) ?_
      exact gX5_changeMail_b85  h
  · replace h := ifp h c8
    refine go_iload_n (pc := 57) dX5_changeMail_57 rfl rfl ?_
    refine go_goto (pc := 58) (tgt := 85) dX5_changeMail_58 rfl ?_
    refine go_le (lle_s (lle_s (lle_n (lle_n (lle_s (lle_s (lle_n lle_0))))))) ?_
    exact gX5_changeMail_b85  h
def eX5_changeMail (a1 : Int32) (a2 : Int32) (a3 : Int32) (V : Mm) : Option (Int32 × Mm) :=
  (eX2_isThere 28 a1 V).bind fun r1 =>
  if r1 = 0 then
    some ((-1), V)
  else
    if a2 = 0 then
      if a2 = 0 then
        eX5_changeMail_b39 a1 a2 a3 6 V
      else
        eX5_changeMail_b39 a1 a2 a3 8 V
    else
      (eX2_isThere 4 a3 V).bind fun r26 =>
      if r26 = 0 then
        some ((-1), V)
      else
        if a2 = 0 then
          eX5_changeMail_b39 a1 a2 a3 6 V
        else
          eX5_changeMail_b39 a1 a2 a3 8 V
set_option maxHeartbeats 4000000 in
set_option maxRecDepth 100000 in
theorem E_X5_changeMail {a1 : Int32} {a2 : Int32} {a3 : Int32} {V : Mm} {res : Int32 × Mm}  (h : eX5_changeMail a1 a2 a3 V = some res) : Ev mX5_changeMail [.ref 0, .int a1, .int a2, .int a3] (hC V) (some (.int res.1)) (hC res.2) := by
  refine Ev.of (n := 3) oX5_changeMail.1 (Nat.le_of_ble_eq_true rfl) ?_
  unfold eX5_changeMail at h
  show Go mX5_changeMail 0 [some (.ref 0), some (.int a1), some (.int a2), some (.int a3), none, none, none] [] (hC V) 0 0 (some (.int res.1)) (hC res.2)
  refine go_aload_n (pc := 0) dX5_changeMail_0 rfl rfl ?_
  refine go_getP (pc := 1) (a := 28) fX5_34 (by decide) (show TC 0 = (5 + 5, 13) from rfl) rfl dX5_changeMail_1 ?_
  refine go_iload_n (pc := 4) dX5_changeMail_4 rfl rfl ?_
  obtain ⟨r1, e2, h⟩ := ok_bind h
  refine go_cV (pc := 5) (ci := 2) (As := [.int a1]) (st := []) (E_X2_isThere isK_28 e2) rfl oX2_isThere iX2_isThere sX2_isThere kX5_149 rfl (K_T isK_28) rfl (Nat.le_of_ble_eq_true rfl) ⟨Nat.le_of_ble_eq_true rfl, Nat.le_of_ble_eq_true rfl⟩ ⟨rfl, rfl⟩ dX5_changeMail_5 (st2 := [.int r1]) rfl ?_
  refine go_if_eq (pc := 8) (tgt := 26) dX5_changeMail_8 rfl (fun c3 => ?_) (fun c3 => ?_)
  · replace h := ifp h c3
    refine go_iconst (pc := 26) (v := (-1)) dX5_changeMail_26 ci_m1 ?_
    cases h
    exact go_iret (pc := 27) (Or.inl rfl) ⟨Nat.zero_le _, Nat.zero_le _⟩ dX5_changeMail_27
  · replace h := ifn h c3
    refine go_iload_n (pc := 11) dX5_changeMail_11 rfl rfl ?_
    refine go_if_eq (pc := 12) (tgt := 28) dX5_changeMail_12 rfl (fun c4 => ?_) (fun c4 => ?_)
    · replace h := ifp h c4
      refine go_iload_n (pc := 28) dX5_changeMail_28 rfl rfl ?_
      refine go_if_ne (pc := 29) (tgt := 37) dX5_changeMail_29 rfl (fun c5 => ?_) (fun c5 => ?_)
      · replace h := ifn h c5
        refine go_bipush (pc := 37) (v := 8) dX5_changeMail_37 cb_8 ?_
        exact gX5_changeMail_b39  h
      · replace h := ifp h c5
        refine go_bipush (pc := 32) (v := 6) dX5_changeMail_32 cb_6 ?_
        refine go_goto (pc := 34) (tgt := 39) dX5_changeMail_34 rfl ?_
        exact gX5_changeMail_b39  h
    · replace h := ifn h c4
      refine go_aload_n (pc := 15) dX5_changeMail_15 rfl rfl ?_
      refine go_getP (pc := 16) (a := 4) fX5_30 (by decide) (show TC 0 = (5 + 5, 13) from rfl) rfl dX5_changeMail_16 ?_
      refine go_iload_n (pc := 19) dX5_changeMail_19 rfl rfl ?_
      obtain ⟨r26, e27, h⟩ := ok_bind h
      refine go_cV (pc := 20) (ci := 2) (As := [.int a3]) (st := []) (E_X2_isThere isK_4 e27) rfl oX2_isThere iX2_isThere sX2_isThere kX5_149 rfl (K_T isK_4) rfl (Nat.le_of_ble_eq_true rfl) ⟨Nat.le_of_ble_eq_true rfl, Nat.le_of_ble_eq_true rfl⟩ ⟨rfl, rfl⟩ dX5_changeMail_20 (st2 := [.int r26]) rfl ?_
      refine go_if_ne (pc := 23) (tgt := 28) dX5_changeMail_23 rfl (fun c28 => ?_) (fun c28 => ?_)
      · replace h := ifn h c28
        refine go_iload_n (pc := 28) dX5_changeMail_28 rfl rfl ?_
        refine go_if_ne (pc := 29) (tgt := 37) dX5_changeMail_29 rfl (fun c29 => ?_) (fun c29 => ?_)
        · replace h := ifn h c29
          refine go_bipush (pc := 37) (v := 8) dX5_changeMail_37 cb_8 ?_
          exact gX5_changeMail_b39  h
        · replace h := ifp h c29
          refine go_bipush (pc := 32) (v := 6) dX5_changeMail_32 cb_6 ?_
          refine go_goto (pc := 34) (tgt := 39) dX5_changeMail_34 rfl ?_
          exact gX5_changeMail_b39  h
      · replace h := ifp h c28
        refine go_iconst (pc := 26) (v := (-1)) dX5_changeMail_26 ci_m1 ?_
        cases h
        exact go_iret (pc := 27) (Or.inl rfl) ⟨Nat.zero_le _, Nat.zero_le _⟩ dX5_changeMail_27
