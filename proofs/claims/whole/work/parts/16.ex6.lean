def eX6_rowOf (a1 : Int32) (V : Mm) : Option (Int32) :=
  if (a1 &&& 3) = 2 then
    some 1
  else
    if (a1 &&& 3) = 3 then
      if (a1 &&& 4) = 0 then
        some (-9)
      else
        some 2
    else
      if (a1 &&& 3) = 1 then
        some 3
      else
        some (-9)
set_option maxHeartbeats 4000000 in
set_option maxRecDepth 100000 in
theorem E_X6_rowOf {a1 : Int32} {V : Mm} {res : Int32}  (h : eX6_rowOf a1 V = some res) : Ev mX6_rowOf [.ref 0, .int a1] (hM V) (some (.int res)) (hM V) := by
  refine Ev.of (n := 0) oX6_rowOf.1 (Nat.le_of_ble_eq_true rfl) ?_
  unfold eX6_rowOf at h
  show Go mX6_rowOf 0 [some (.ref 0), some (.int a1)] [] (hM V) 0 0 (some (.int res)) (hM V)
  refine go_iload_n (pc := 0) dX6_rowOf_0 rfl rfl ?_
  refine go_iconst (pc := 1) (v := 3) dX6_rowOf_1 ci_3 ?_
  refine go_iand (pc := 2) dX6_rowOf_2 ?_
  refine go_iconst (pc := 3) (v := 2) dX6_rowOf_3 ci_2 ?_
  refine go_icmp_ne (pc := 4) (tgt := 9) dX6_rowOf_4 rfl (fun c1 => ?_) (fun c1 => ?_)
  · replace h := ifn h c1
    refine go_iload_n (pc := 9) dX6_rowOf_9 rfl rfl ?_
    refine go_iconst (pc := 10) (v := 3) dX6_rowOf_10 ci_3 ?_
    refine go_iand (pc := 11) dX6_rowOf_11 ?_
    refine go_iconst (pc := 12) (v := 3) dX6_rowOf_12 ci_3 ?_
    refine go_icmp_ne (pc := 13) (tgt := 29) dX6_rowOf_13 rfl (fun c2 => ?_) (fun c2 => ?_)
    · replace h := ifn h c2
      refine go_iload_n (pc := 29) dX6_rowOf_29 rfl rfl ?_
      refine go_iconst (pc := 30) (v := 3) dX6_rowOf_30 ci_3 ?_
      refine go_iand (pc := 31) dX6_rowOf_31 ?_
      refine go_iconst (pc := 32) (v := 1) dX6_rowOf_32 ci_1 ?_
      refine go_icmp_ne (pc := 33) (tgt := 40) dX6_rowOf_33 rfl (fun c3 => ?_) (fun c3 => ?_)
      · replace h := ifn h c3
        refine go_bipush (pc := 40) (v := (-9)) dX6_rowOf_40 cb_m9 ?_
        cases h
        exact go_iret (pc := 42) (Or.inl rfl) ⟨Nat.zero_le _, Nat.zero_le _⟩ dX6_rowOf_42
      · replace h := ifp h c3
        refine go_iconst (pc := 36) (v := 3) dX6_rowOf_36 ci_3 ?_
        refine go_goto (pc := 37) (tgt := 42) dX6_rowOf_37 rfl ?_
        cases h
        exact go_iret (pc := 42) (Or.inl rfl) ⟨Nat.zero_le _, Nat.zero_le _⟩ dX6_rowOf_42
    · replace h := ifp h c2
      refine go_iload_n (pc := 16) dX6_rowOf_16 rfl rfl ?_
      refine go_iconst (pc := 17) (v := 4) dX6_rowOf_17 ci_4 ?_
      refine go_iand (pc := 18) dX6_rowOf_18 ?_
      refine go_if_eq (pc := 19) (tgt := 26) dX6_rowOf_19 rfl (fun c4 => ?_) (fun c4 => ?_)
      · replace h := ifp h c4
        refine go_bipush (pc := 26) (v := (-9)) dX6_rowOf_26 cb_m9 ?_
        cases h
        exact go_iret (pc := 28) (Or.inl rfl) ⟨Nat.zero_le _, Nat.zero_le _⟩ dX6_rowOf_28
      · replace h := ifn h c4
        refine go_iconst (pc := 22) (v := 2) dX6_rowOf_22 ci_2 ?_
        refine go_goto (pc := 23) (tgt := 28) dX6_rowOf_23 rfl ?_
        cases h
        exact go_iret (pc := 28) (Or.inl rfl) ⟨Nat.zero_le _, Nat.zero_le _⟩ dX6_rowOf_28
  · replace h := ifp h c1
    refine go_iconst (pc := 7) (v := 1) dX6_rowOf_7 ci_1 ?_
    cases h
    exact go_iret (pc := 8) (Or.inl rfl) ⟨Nat.zero_le _, Nat.zero_le _⟩ dX6_rowOf_8
def eX6_countBetween_b6 : Nat → Int32 → Int32 → Int32 → Int32 → Int32 → Mm → Option (Int32)
  | 0, _, _, _, _, _, _ => none
  | n + 1, l1, l2, l3, l4, l5, V => 
    if (580 + l1) < 0 ∨ 586 ≤ (580 + l1).toNatClampNeg then none else
    if (V 1 ((580 + l1).toNatClampNeg)) ≤ l5 then
      some l4
    else
      (eX6_between l1 l5 l2 l3 V).bind fun r3 =>
      (eX6_rowOf r3 V).bind fun r5 =>
      if r5 = (-9) then
        eX6_countBetween_b6 n l1 l2 l3 (l4 + 0) (l5 + 1) V
      else
        eX6_countBetween_b6 n l1 l2 l3 (l4 + 1) (l5 + 1) V
set_option maxHeartbeats 4000000 in
set_option maxRecDepth 100000 in
theorem gX6_countBetween_b6 : ∀ (n : Nat) (l1 : Int32) (l2 : Int32) (l3 : Int32) (l4 : Int32) (l5 : Int32) (V : Mm) (res : Int32) , eX6_countBetween_b6 n l1 l2 l3 l4 l5 V = some res → Go mX6_countBetween 6 [some (.ref 0), some (.int l1), some (.int l2), some (.int l3), some (.int l4), some (.int l5)] [] (hM V) 0 0 (some (.int res)) (hM V) := by
  intro n
  induction n with
  | zero =>
    intro l1 l2 l3 l4 l5 V res  h
    cases h
  | succ n ih =>
    intro l1 l2 l3 l4 l5 V res  h
    rw [eX6_countBetween_b6] at h
    refine go_iload (pc := 6) dX6_countBetween_6 rfl ?_
    refine go_aload_n (pc := 8) dX6_countBetween_8 rfl rfl ?_
    refine go_getP (pc := 9) (a := 1) fX6_7 (by decide) (show TM 0 = (6 + 5, 29) from rfl) rfl dX6_countBetween_9 ?_
    refine go_sipush (pc := 12) (v := 580) dX6_countBetween_12 cs_580 ?_
    refine go_iload_n (pc := 15) dX6_countBetween_15 rfl rfl ?_
    refine go_iadd (pc := 16) dX6_countBetween_16 ?_
    obtain ⟨c1, h⟩ := ok_not h
    refine go_ia (pc := 17) (v := V 1 ((580 + l1).toNatClampNeg)) (show TM 1 = (0, 586) from rfl) (vin c1) dX6_countBetween_17 rfl ?_
    refine go_icmp_ge (pc := 18) (tgt := 55) dX6_countBetween_18 rfl (fun c2 => ?_) (fun c2 => ?_)
    · replace h := ifp h c2
      refine go_iload (pc := 55) dX6_countBetween_55 rfl ?_
      cases h
      exact go_iret (pc := 57) (Or.inl rfl) ⟨Nat.zero_le _, Nat.zero_le _⟩ dX6_countBetween_57
    · replace h := ifn h c2
      refine go_iload (pc := 21) dX6_countBetween_21 rfl ?_
      refine go_aload_n (pc := 23) dX6_countBetween_23 rfl rfl ?_
      refine go_aload_n (pc := 24) dX6_countBetween_24 rfl rfl ?_
      refine go_iload_n (pc := 25) dX6_countBetween_25 rfl rfl ?_
      refine go_iload (pc := 26) dX6_countBetween_26 rfl ?_
      refine go_iload_n (pc := 28) dX6_countBetween_28 rfl rfl ?_
      refine go_iload_n (pc := 29) dX6_countBetween_29 rfl rfl ?_
      obtain ⟨r3, e4, h⟩ := ok_bind h
      refine go_cV (pc := 30) (ci := 6) (As := [.int l1, .int l5, .int l2, .int l3]) (st := [.ref 0, .int l4]) (E_X6_between e4) rfl oX6_between iX6_between sX6_between kX6_178 rfl (show TM 0 = (6 + 5, 29) from rfl) rfl (Nat.le_of_ble_eq_true rfl) ⟨Nat.le_of_ble_eq_true rfl, Nat.le_of_ble_eq_true rfl⟩ ⟨rfl, rfl⟩ dX6_countBetween_30 (st2 := [.int r3, .ref 0, .int l4]) rfl ?_
      obtain ⟨r5, e6, h⟩ := ok_bind h
      refine go_cV (pc := 33) (ci := 6) (As := [.int r3]) (st := [.int l4]) (E_X6_rowOf e6) rfl oX6_rowOf iX6_rowOf sX6_rowOf kX6_182 rfl (show TM 0 = (6 + 5, 29) from rfl) rfl (Nat.le_of_ble_eq_true rfl) ⟨Nat.le_of_ble_eq_true rfl, Nat.le_of_ble_eq_true rfl⟩ ⟨rfl, rfl⟩ dX6_countBetween_33 (st2 := [.int r5, .int l4]) rfl ?_
      refine go_bipush (pc := 36) (v := (-9)) dX6_countBetween_36 cb_m9 ?_
      refine go_icmp_eq (pc := 38) (tgt := 45) dX6_countBetween_38 rfl (fun c7 => ?_) (fun c7 => ?_)
      · replace h := ifp h c7
        refine go_iconst (pc := 45) (v := 0) dX6_countBetween_45 ci_0 ?_
        refine go_iadd (pc := 46) dX6_countBetween_46 ?_
        refine go_istore (pc := 47) (i := 4) dX6_countBetween_47 (Nat.le_of_ble_eq_true rfl) (L2 := [some (.ref 0), some (.int l1), some (.int l2), some (.int l3), some (.int (l4 + 0)), some (.int l5)]) rfl ?_
        refine go_iinc (pc := 49) (v := (l5 + 1)) dX6_countBetween_49 rfl (by rw [ci_1]) (Nat.le_of_ble_eq_true rfl) (L2 := [some (.ref 0), some (.int l1), some (.int l2), some (.int l3), some (.int (l4 + 0)), some (.int (l5 + 1))]) rfl ?_
        refine go_goto (pc := 52) (tgt := 6) dX6_countBetween_52 rfl ?_
        exact ih _ _ _ _ _ _ _  h
      · replace h := ifn h c7
        refine go_iconst (pc := 41) (v := 1) dX6_countBetween_41 ci_1 ?_
        refine go_goto (pc := 42) (tgt := 46) dX6_countBetween_42 rfl ?_
        refine go_iadd (pc := 46) dX6_countBetween_46 ?_
        refine go_istore (pc := 47) (i := 4) dX6_countBetween_47 (Nat.le_of_ble_eq_true rfl) (L2 := [some (.ref 0), some (.int l1), some (.int l2), some (.int l3), some (.int (l4 + 1)), some (.int l5)]) rfl ?_
        refine go_iinc (pc := 49) (v := (l5 + 1)) dX6_countBetween_49 rfl (by rw [ci_1]) (Nat.le_of_ble_eq_true rfl) (L2 := [some (.ref 0), some (.int l1), some (.int l2), some (.int l3), some (.int (l4 + 1)), some (.int (l5 + 1))]) rfl ?_
        refine go_goto (pc := 52) (tgt := 6) dX6_countBetween_52 rfl ?_
        exact ih _ _ _ _ _ _ _  h
def eX6_countBetween (a1 : Int32) (a2 : Int32) (a3 : Int32) (V : Mm) : Option (Int32) :=
  eX6_countBetween_b6 fu a1 a2 a3 0 0 V
set_option maxHeartbeats 4000000 in
set_option maxRecDepth 100000 in
theorem E_X6_countBetween {a1 : Int32} {a2 : Int32} {a3 : Int32} {V : Mm} {res : Int32}  (h : eX6_countBetween a1 a2 a3 V = some res) : Ev mX6_countBetween [.ref 0, .int a1, .int a2, .int a3] (hM V) (some (.int res)) (hM V) := by
  refine Ev.of (n := 2) oX6_countBetween.1 (Nat.le_of_ble_eq_true rfl) ?_
  unfold eX6_countBetween at h
  show Go mX6_countBetween 0 [some (.ref 0), some (.int a1), some (.int a2), some (.int a3), none, none] [] (hM V) 0 0 (some (.int res)) (hM V)
  refine go_iconst (pc := 0) (v := 0) dX6_countBetween_0 ci_0 ?_
  refine go_istore (pc := 1) (i := 4) dX6_countBetween_1 (Nat.le_of_ble_eq_true rfl) (L2 := [some (.ref 0), some (.int a1), some (.int a2), some (.int a3), some (.int 0), none]) rfl ?_
  refine go_iconst (pc := 3) (v := 0) dX6_countBetween_3 ci_0 ?_
  refine go_istore (pc := 4) (i := 5) dX6_countBetween_4 (Nat.le_of_ble_eq_true rfl) (L2 := [some (.ref 0), some (.int a1), some (.int a2), some (.int a3), some (.int 0), some (.int 0)]) rfl ?_
  exact gX6_countBetween_b6 _ _ _ _ _ _ _ _  h
def eX6_doChanges_b132 : Nat → Int32 → Int32 → Int32 → Int32 → Mm → Option (Int32 × Mm)
  | 0, _, _, _, _, _ => none
  | n + 1, l1, l2, l5, l6, V => 
    if (580 + l1) < 0 ∨ 586 ≤ (580 + l1).toNatClampNeg then none else
    if (V 1 ((580 + l1).toNatClampNeg)) ≤ l6 then
      some (0, V)
    else
      (eX6_between l1 l6 l2 l5 V).bind fun r24 =>
      (eX6_rowOf r24 V).bind fun r26 =>
      if r26 = (-9) then
        eX6_doChanges_b132 n l1 l2 l5 (l6 + 1) V
      else
        (eX6_give (V 0 21) r26 l6 V).bind fun r29 =>
        eX6_doChanges_b132 n l1 l2 l5 (l6 + 1) r29
set_option maxHeartbeats 4000000 in
set_option maxRecDepth 100000 in
theorem gX6_doChanges_b132 : ∀ (n : Nat) (l1 : Int32) (l2 : Int32) (l5 : Int32) (l6 : Int32) (V : Mm) (res : Int32 × Mm) , eX6_doChanges_b132 n l1 l2 l5 l6 V = some res → Go mX6_doChanges 132 [some (.ref 0), some (.int l1), some (.int l2), none, none, some (.int l5), some (.int l6), none] [] (hM V) 0 0 (some (.int res.1)) (hM res.2) := by
  intro n
  induction n with
  | zero =>
    intro l1 l2 l5 l6 V res  h
    cases h
  | succ n ih =>
    intro l1 l2 l5 l6 V res  h
    rw [eX6_doChanges_b132] at h
    refine go_iload (pc := 132) dX6_doChanges_132 rfl ?_
    refine go_aload_n (pc := 134) dX6_doChanges_134 rfl rfl ?_
    refine go_getP (pc := 135) (a := 1) fX6_7 (by decide) (show TM 0 = (6 + 5, 29) from rfl) rfl dX6_doChanges_135 ?_
    refine go_sipush (pc := 138) (v := 580) dX6_doChanges_138 cs_580 ?_
    refine go_iload_n (pc := 141) dX6_doChanges_141 rfl rfl ?_
    refine go_iadd (pc := 142) dX6_doChanges_142 ?_
    obtain ⟨c22, h⟩ := ok_not h
    refine go_ia (pc := 143) (v := V 1 ((580 + l1).toNatClampNeg)) (show TM 1 = (0, 586) from rfl) (vin c22) dX6_doChanges_143 rfl ?_
    refine go_icmp_ge (pc := 144) (tgt := 188) dX6_doChanges_144 rfl (fun c23 => ?_) (fun c23 => ?_)
    · replace h := ifp h c23
      refine go_iconst (pc := 188) (v := 0) dX6_doChanges_188 ci_0 ?_
      cases h
      exact go_iret (pc := 189) (Or.inl rfl) ⟨Nat.zero_le _, Nat.zero_le _⟩ dX6_doChanges_189
    · replace h := ifn h c23
      refine go_aload_n (pc := 147) dX6_doChanges_147 rfl rfl ?_
      refine go_aload_n (pc := 148) dX6_doChanges_148 rfl rfl ?_
      refine go_iload_n (pc := 149) dX6_doChanges_149 rfl rfl ?_
      refine go_iload (pc := 150) dX6_doChanges_150 rfl ?_
      refine go_iload_n (pc := 152) dX6_doChanges_152 rfl rfl ?_
      refine go_iload (pc := 153) dX6_doChanges_153 rfl ?_
      obtain ⟨r24, e25, h⟩ := ok_bind h
      refine go_cV (pc := 155) (ci := 6) (As := [.int l1, .int l6, .int l2, .int l5]) (st := [.ref 0]) (E_X6_between e25) rfl oX6_between iX6_between sX6_between kX6_178 rfl (show TM 0 = (6 + 5, 29) from rfl) rfl (Nat.le_of_ble_eq_true rfl) ⟨Nat.le_of_ble_eq_true rfl, Nat.le_of_ble_eq_true rfl⟩ ⟨rfl, rfl⟩ dX6_doChanges_155 (st2 := [.int r24, .ref 0]) rfl ?_
      obtain ⟨r26, e27, h⟩ := ok_bind h
      refine go_cV (pc := 158) (ci := 6) (As := [.int r24]) (st := []) (E_X6_rowOf e27) rfl oX6_rowOf iX6_rowOf sX6_rowOf kX6_182 rfl (show TM 0 = (6 + 5, 29) from rfl) rfl (Nat.le_of_ble_eq_true rfl) ⟨Nat.le_of_ble_eq_true rfl, Nat.le_of_ble_eq_true rfl⟩ ⟨rfl, rfl⟩ dX6_doChanges_158 (st2 := [.int r26]) rfl ?_
      refine go_istore (pc := 161) (i := 7) dX6_doChanges_161 (Nat.le_of_ble_eq_true rfl) (L2 := [some (.ref 0), some (.int l1), some (.int l2), none, none, some (.int l5), some (.int l6), some (.int r26)]) rfl ?_
      refine go_iload (pc := 163) dX6_doChanges_163 rfl ?_
      refine go_bipush (pc := 165) (v := (-9)) dX6_doChanges_165 cb_m9 ?_
      refine go_icmp_eq (pc := 167) (tgt := 182) dX6_doChanges_167 rfl (fun c28 => ?_) (fun c28 => ?_)
      · replace h := ifp h c28
        refine go_iinc (pc := 182) (v := (l6 + 1)) dX6_doChanges_182 rfl (by rw [ci_1]) (Nat.le_of_ble_eq_true rfl) (L2 := [some (.ref 0), some (.int l1), some (.int l2), none, none, some (.int l5), some (.int (l6 + 1)), some (.int r26)]) rfl ?_
        refine go_goto (pc := 185) (tgt := 132) dX6_doChanges_185 rfl ?_
        refine go_le (lle_s (lle_s (lle_s (lle_n (lle_n (lle_s (lle_s (lle_n lle_0)))))))) ?_
        exact ih _ _ _ _ _ _  h
      · replace h := ifn h c28
        refine go_aload_n (pc := 170) dX6_doChanges_170 rfl rfl ?_
        refine go_aload_n (pc := 171) dX6_doChanges_171 rfl rfl ?_
        refine go_gI (pc := 172) (v := V 0 21) fX6_129 (by decide) (show TM 0 = (6 + 5, 29) from rfl) dX6_doChanges_172 rfl ?_
        refine go_iload (pc := 175) dX6_doChanges_175 rfl ?_
        refine go_iload (pc := 177) dX6_doChanges_177 rfl ?_
        obtain ⟨r29, e30, h⟩ := ok_bind h
        refine go_cV (pc := 179) (ci := 6) (As := [.int (V 0 21), .int r26, .int l6]) (st := []) (E_X6_give e30) rfl oX6_give iX6_give sX6_give kX6_162 rfl (show TM 0 = (6 + 5, 29) from rfl) rfl (Nat.le_of_ble_eq_true rfl) ⟨Nat.le_of_ble_eq_true rfl, Nat.le_of_ble_eq_true rfl⟩ ⟨rfl, rfl⟩ dX6_doChanges_179 (st2 := []) rfl ?_
        refine go_iinc (pc := 182) (v := (l6 + 1)) dX6_doChanges_182 rfl (by rw [ci_1]) (Nat.le_of_ble_eq_true rfl) (L2 := [some (.ref 0), some (.int l1), some (.int l2), none, none, some (.int l5), some (.int (l6 + 1)), some (.int r26)]) rfl ?_
        refine go_goto (pc := 185) (tgt := 132) dX6_doChanges_185 rfl ?_
        refine go_le (lle_s (lle_s (lle_s (lle_n (lle_n (lle_s (lle_s (lle_n lle_0)))))))) ?_
        exact ih _ _ _ _ _ _  h
def eX6_doChanges_b103 (l1 : Int32) (l2 : Int32) (l4 : Int32) (l5 : Int32) (V : Mm) : Option (Int32 × Mm) :=
  if l5 = l2 then
    if l4 ≤ l2 then
      (eX6_give (V 0 21) 0 l5 V).bind fun r32 =>
      eX6_doChanges_b132 fu l1 l2 l5 0 r32
    else
      some ((-6), V)
  else
    (eX6_give (V 0 21) 0 l5 V).bind fun r20 =>
    eX6_doChanges_b132 fu l1 l2 l5 0 r20
set_option maxHeartbeats 4000000 in
set_option maxRecDepth 100000 in
theorem gX6_doChanges_b103 {l1 : Int32} {l2 : Int32} {l4 : Int32} {l5 : Int32} {V : Mm} {res : Int32 × Mm}  (h : eX6_doChanges_b103 l1 l2 l4 l5 V = some res) : Go mX6_doChanges 103 [some (.ref 0), some (.int l1), some (.int l2), none, some (.int l4), some (.int l5), none, none] [] (hM V) 0 0 (some (.int res.1)) (hM res.2) := by
  unfold eX6_doChanges_b103 at h
  refine go_iload (pc := 103) dX6_doChanges_103 rfl ?_
  refine go_iload_n (pc := 105) dX6_doChanges_105 rfl rfl ?_
  refine go_icmp_ne (pc := 106) (tgt := 118) dX6_doChanges_106 rfl (fun c19 => ?_) (fun c19 => ?_)
  · replace h := ifn h c19
    refine go_aload_n (pc := 118) dX6_doChanges_118 rfl rfl ?_
    refine go_aload_n (pc := 119) dX6_doChanges_119 rfl rfl ?_
    refine go_gI (pc := 120) (v := V 0 21) fX6_129 (by decide) (show TM 0 = (6 + 5, 29) from rfl) dX6_doChanges_120 rfl ?_
    refine go_iconst (pc := 123) (v := 0) dX6_doChanges_123 ci_0 ?_
    refine go_iload (pc := 124) dX6_doChanges_124 rfl ?_
    obtain ⟨r20, e21, h⟩ := ok_bind h
    refine go_cV (pc := 126) (ci := 6) (As := [.int (V 0 21), .int 0, .int l5]) (st := []) (E_X6_give e21) rfl oX6_give iX6_give sX6_give kX6_162 rfl (show TM 0 = (6 + 5, 29) from rfl) rfl (Nat.le_of_ble_eq_true rfl) ⟨Nat.le_of_ble_eq_true rfl, Nat.le_of_ble_eq_true rfl⟩ ⟨rfl, rfl⟩ dX6_doChanges_126 (st2 := []) rfl ?_
    refine go_iconst (pc := 129) (v := 0) dX6_doChanges_129 ci_0 ?_
    refine go_istore (pc := 130) (i := 6) dX6_doChanges_130 (Nat.le_of_ble_eq_true rfl) (L2 := [some (.ref 0), some (.int l1), some (.int l2), none, some (.int l4), some (.int l5), some (.int 0), none]) rfl ?_
    refine go_le (lle_s (lle_s (lle_s (lle_n (lle_n (lle_s (lle_s (lle_n lle_0)))))))) ?_
    exact gX6_doChanges_b132 _ _ _ _ _ _ _  h
  · replace h := ifp h c19
    refine go_iload_n (pc := 109) dX6_doChanges_109 rfl rfl ?_
    refine go_iload (pc := 110) dX6_doChanges_110 rfl ?_
    refine go_icmp_ge (pc := 112) (tgt := 118) dX6_doChanges_112 rfl (fun c31 => ?_) (fun c31 => ?_)
    · replace h := ifp h c31
      refine go_aload_n (pc := 118) dX6_doChanges_118 rfl rfl ?_
      refine go_aload_n (pc := 119) dX6_doChanges_119 rfl rfl ?_
      refine go_gI (pc := 120) (v := V 0 21) fX6_129 (by decide) (show TM 0 = (6 + 5, 29) from rfl) dX6_doChanges_120 rfl ?_
      refine go_iconst (pc := 123) (v := 0) dX6_doChanges_123 ci_0 ?_
      refine go_iload (pc := 124) dX6_doChanges_124 rfl ?_
      obtain ⟨r32, e33, h⟩ := ok_bind h
      refine go_cV (pc := 126) (ci := 6) (As := [.int (V 0 21), .int 0, .int l5]) (st := []) (E_X6_give e33) rfl oX6_give iX6_give sX6_give kX6_162 rfl (show TM 0 = (6 + 5, 29) from rfl) rfl (Nat.le_of_ble_eq_true rfl) ⟨Nat.le_of_ble_eq_true rfl, Nat.le_of_ble_eq_true rfl⟩ ⟨rfl, rfl⟩ dX6_doChanges_126 (st2 := []) rfl ?_
      refine go_iconst (pc := 129) (v := 0) dX6_doChanges_129 ci_0 ?_
      refine go_istore (pc := 130) (i := 6) dX6_doChanges_130 (Nat.le_of_ble_eq_true rfl) (L2 := [some (.ref 0), some (.int l1), some (.int l2), none, some (.int l4), some (.int l5), some (.int 0), none]) rfl ?_
      refine go_le (lle_s (lle_s (lle_s (lle_n (lle_n (lle_s (lle_s (lle_n lle_0)))))))) ?_
      exact gX6_doChanges_b132 _ _ _ _ _ _ _  h
    · replace h := ifn h c31
      refine go_bipush (pc := 115) (v := (-6)) dX6_doChanges_115 cb_m6 ?_
      cases h
      exact go_iret (pc := 117) (Or.inl rfl) ⟨Nat.zero_le _, Nat.zero_le _⟩ dX6_doChanges_117
def eX6_doChanges_b79 : Nat → Int32 → Int32 → Int32 → Int32 → Int32 → Mm → Option (Int32 × Mm)
  | 0, _, _, _, _, _, _ => none
  | n + 1, l1, l2, l3, l4, l5, V => 
    if l5 ≤ l2 then
      eX6_doChanges_b103 l1 l2 l4 l5 V
    else
      (eX6_countBetween l1 l2 l5 V).bind fun r34 =>
      if r34 ≤ l3 then
        eX6_doChanges_b103 l1 l2 l4 l5 V
      else
        eX6_doChanges_b79 n l1 l2 l3 l4 (l5 + (-1)) V
set_option maxHeartbeats 4000000 in
set_option maxRecDepth 100000 in
theorem gX6_doChanges_b79 : ∀ (n : Nat) (l1 : Int32) (l2 : Int32) (l3 : Int32) (l4 : Int32) (l5 : Int32) (V : Mm) (res : Int32 × Mm) , eX6_doChanges_b79 n l1 l2 l3 l4 l5 V = some res → Go mX6_doChanges 79 [some (.ref 0), some (.int l1), some (.int l2), some (.int l3), some (.int l4), some (.int l5), none, none] [] (hM V) 0 0 (some (.int res.1)) (hM res.2) := by
  intro n
  induction n with
  | zero =>
    intro l1 l2 l3 l4 l5 V res  h
    cases h
  | succ n ih =>
    intro l1 l2 l3 l4 l5 V res  h
    rw [eX6_doChanges_b79] at h
    refine go_iload (pc := 79) dX6_doChanges_79 rfl ?_
    refine go_iload_n (pc := 81) dX6_doChanges_81 rfl rfl ?_
    refine go_icmp_le (pc := 82) (tgt := 103) dX6_doChanges_82 rfl (fun c18 => ?_) (fun c18 => ?_)
    · replace h := ifp h c18
      refine go_le (lle_s (lle_s (lle_s (lle_n (lle_s (lle_s (lle_n (lle_n lle_0)))))))) ?_
      exact gX6_doChanges_b103  h
    · replace h := ifn h c18
      refine go_aload_n (pc := 85) dX6_doChanges_85 rfl rfl ?_
      refine go_iload_n (pc := 86) dX6_doChanges_86 rfl rfl ?_
      refine go_iload_n (pc := 87) dX6_doChanges_87 rfl rfl ?_
      refine go_iload (pc := 88) dX6_doChanges_88 rfl ?_
      obtain ⟨r34, e35, h⟩ := ok_bind h
      refine go_cV (pc := 90) (ci := 6) (As := [.int l1, .int l2, .int l5]) (st := []) (E_X6_countBetween e35) rfl oX6_countBetween iX6_countBetween sX6_countBetween kX6_185 rfl (show TM 0 = (6 + 5, 29) from rfl) rfl (Nat.le_of_ble_eq_true rfl) ⟨Nat.le_of_ble_eq_true rfl, Nat.le_of_ble_eq_true rfl⟩ ⟨rfl, rfl⟩ dX6_doChanges_90 (st2 := [.int r34]) rfl ?_
      refine go_iload_n (pc := 93) dX6_doChanges_93 rfl rfl ?_
      refine go_icmp_le (pc := 94) (tgt := 103) dX6_doChanges_94 rfl (fun c36 => ?_) (fun c36 => ?_)
      · replace h := ifp h c36
        refine go_le (lle_s (lle_s (lle_s (lle_n (lle_s (lle_s (lle_n (lle_n lle_0)))))))) ?_
        exact gX6_doChanges_b103  h
      · replace h := ifn h c36
        refine go_iinc (pc := 97) (v := (l5 + (-1))) dX6_doChanges_97 rfl (by rw [ci_m1]) (Nat.le_of_ble_eq_true rfl) (L2 := [some (.ref 0), some (.int l1), some (.int l2), some (.int l3), some (.int l4), some (.int (l5 + (-1))), none, none]) rfl ?_
        refine go_goto (pc := 100) (tgt := 79) dX6_doChanges_100 rfl ?_
        exact ih _ _ _ _ _ _ _  h
def eX6_doChanges  (V : Mm) : Option (Int32 × Mm) :=
  (eX6_number 0 V).bind fun r1 =>
  (eX6_number 1 V).bind fun r3 =>
  (eX6_number 2 V).bind fun r5 =>
  (eX6_within r1 0 2 V).bind fun r7 =>
  if r7 = 0 then
    some ((-2), V)
  else
    if r3 < 0 then
      some ((-2), V)
    else
      (eX6_within r5 1 99 V).bind fun r11 =>
      if r11 = 0 then
        some ((-2), V)
      else
        if (583 + r1) < 0 ∨ 586 ≤ (583 + r1).toNatClampNeg then none else
        if (V 1 ((583 + r1).toNatClampNeg)) < r3 then
          some ((-6), V)
        else
          if r1 < 0 ∨ 3 ≤ r1.toNatClampNeg then none else
          if (V 15 r1.toNatClampNeg) ≤ r3 then
            eX6_doChanges_b79 fu r1 r3 r5 (V 1 ((583 + r1).toNatClampNeg)) (V 1 ((583 + r1).toNatClampNeg)) V
          else
            some ((-6), V)
set_option maxHeartbeats 4000000 in
set_option maxRecDepth 100000 in
theorem E_X6_doChanges  {V : Mm} {res : Int32 × Mm}  (h : eX6_doChanges V = some res) : Ev mX6_doChanges [.ref 0] (hM V) (some (.int res.1)) (hM res.2) := by
  refine Ev.of (n := 7) oX6_doChanges.1 (Nat.le_of_ble_eq_true rfl) ?_
  unfold eX6_doChanges at h
  show Go mX6_doChanges 0 [some (.ref 0), none, none, none, none, none, none, none] [] (hM V) 0 0 (some (.int res.1)) (hM res.2)
  refine go_aload_n (pc := 0) dX6_doChanges_0 rfl rfl ?_
  refine go_iconst (pc := 1) (v := 0) dX6_doChanges_1 ci_0 ?_
  obtain ⟨r1, e2, h⟩ := ok_bind h
  refine go_cV (pc := 2) (ci := 6) (As := [.int 0]) (st := []) (E_X6_number e2) rfl oX6_number iX6_number sX6_number kX6_146 rfl (show TM 0 = (6 + 5, 29) from rfl) rfl (Nat.le_of_ble_eq_true rfl) ⟨Nat.le_of_ble_eq_true rfl, Nat.le_of_ble_eq_true rfl⟩ ⟨rfl, rfl⟩ dX6_doChanges_2 (st2 := [.int r1]) rfl ?_
  refine go_istore_n (pc := 5) (i := 1) dX6_doChanges_5 rfl (Nat.le_of_ble_eq_true rfl) (L2 := [some (.ref 0), some (.int r1), none, none, none, none, none, none]) rfl ?_
  refine go_aload_n (pc := 6) dX6_doChanges_6 rfl rfl ?_
  refine go_iconst (pc := 7) (v := 1) dX6_doChanges_7 ci_1 ?_
  obtain ⟨r3, e4, h⟩ := ok_bind h
  refine go_cV (pc := 8) (ci := 6) (As := [.int 1]) (st := []) (E_X6_number e4) rfl oX6_number iX6_number sX6_number kX6_146 rfl (show TM 0 = (6 + 5, 29) from rfl) rfl (Nat.le_of_ble_eq_true rfl) ⟨Nat.le_of_ble_eq_true rfl, Nat.le_of_ble_eq_true rfl⟩ ⟨rfl, rfl⟩ dX6_doChanges_8 (st2 := [.int r3]) rfl ?_
  refine go_istore_n (pc := 11) (i := 2) dX6_doChanges_11 rfl (Nat.le_of_ble_eq_true rfl) (L2 := [some (.ref 0), some (.int r1), some (.int r3), none, none, none, none, none]) rfl ?_
  refine go_aload_n (pc := 12) dX6_doChanges_12 rfl rfl ?_
  refine go_iconst (pc := 13) (v := 2) dX6_doChanges_13 ci_2 ?_
  obtain ⟨r5, e6, h⟩ := ok_bind h
  refine go_cV (pc := 14) (ci := 6) (As := [.int 2]) (st := []) (E_X6_number e6) rfl oX6_number iX6_number sX6_number kX6_146 rfl (show TM 0 = (6 + 5, 29) from rfl) rfl (Nat.le_of_ble_eq_true rfl) ⟨Nat.le_of_ble_eq_true rfl, Nat.le_of_ble_eq_true rfl⟩ ⟨rfl, rfl⟩ dX6_doChanges_14 (st2 := [.int r5]) rfl ?_
  refine go_istore_n (pc := 17) (i := 3) dX6_doChanges_17 rfl (Nat.le_of_ble_eq_true rfl) (L2 := [some (.ref 0), some (.int r1), some (.int r3), some (.int r5), none, none, none, none]) rfl ?_
  refine go_iload_n (pc := 18) dX6_doChanges_18 rfl rfl ?_
  refine go_iconst (pc := 19) (v := 0) dX6_doChanges_19 ci_0 ?_
  refine go_iconst (pc := 20) (v := 2) dX6_doChanges_20 ci_2 ?_
  obtain ⟨r7, e8, h⟩ := ok_bind h
  refine go_cS (pc := 21) (As := [.int r1, .int 0, .int 2]) (st := []) (E_X6_within e8) rfl oX6_within iX6_within kX6_99 rfl (Nat.le_of_ble_eq_true rfl) ⟨Nat.le_of_ble_eq_true rfl, Nat.le_of_ble_eq_true rfl⟩ ⟨rfl, rfl⟩ dX6_doChanges_21 (st2 := [.int r7]) rfl ?_
  refine go_if_eq (pc := 24) (tgt := 41) dX6_doChanges_24 rfl (fun c9 => ?_) (fun c9 => ?_)
  · replace h := ifp h c9
    refine go_bipush (pc := 41) (v := (-2)) dX6_doChanges_41 cb_m2 ?_
    cases h
    exact go_iret (pc := 43) (Or.inl rfl) ⟨Nat.zero_le _, Nat.zero_le _⟩ dX6_doChanges_43
  · replace h := ifn h c9
    refine go_iload_n (pc := 27) dX6_doChanges_27 rfl rfl ?_
    refine go_if_lt (pc := 28) (tgt := 41) dX6_doChanges_28 rfl (fun c10 => ?_) (fun c10 => ?_)
    · replace h := ifp h c10
      refine go_bipush (pc := 41) (v := (-2)) dX6_doChanges_41 cb_m2 ?_
      cases h
      exact go_iret (pc := 43) (Or.inl rfl) ⟨Nat.zero_le _, Nat.zero_le _⟩ dX6_doChanges_43
    · replace h := ifn h c10
      refine go_iload_n (pc := 31) dX6_doChanges_31 rfl rfl ?_
      refine go_iconst (pc := 32) (v := 1) dX6_doChanges_32 ci_1 ?_
      refine go_bipush (pc := 33) (v := 99) dX6_doChanges_33 cb_99 ?_
      obtain ⟨r11, e12, h⟩ := ok_bind h
      refine go_cS (pc := 35) (As := [.int r5, .int 1, .int 99]) (st := []) (E_X6_within e12) rfl oX6_within iX6_within kX6_99 rfl (Nat.le_of_ble_eq_true rfl) ⟨Nat.le_of_ble_eq_true rfl, Nat.le_of_ble_eq_true rfl⟩ ⟨rfl, rfl⟩ dX6_doChanges_35 (st2 := [.int r11]) rfl ?_
      refine go_if_ne (pc := 38) (tgt := 44) dX6_doChanges_38 rfl (fun c13 => ?_) (fun c13 => ?_)
      · replace h := ifn h c13
        refine go_aload_n (pc := 44) dX6_doChanges_44 rfl rfl ?_
        refine go_getP (pc := 45) (a := 1) fX6_7 (by decide) (show TM 0 = (6 + 5, 29) from rfl) rfl dX6_doChanges_45 ?_
        refine go_sipush (pc := 48) (v := 583) dX6_doChanges_48 cs_583 ?_
        refine go_iload_n (pc := 51) dX6_doChanges_51 rfl rfl ?_
        refine go_iadd (pc := 52) dX6_doChanges_52 ?_
        obtain ⟨c14, h⟩ := ok_not h
        refine go_ia (pc := 53) (v := V 1 ((583 + r1).toNatClampNeg)) (show TM 1 = (0, 586) from rfl) (vin c14) dX6_doChanges_53 rfl ?_
        refine go_istore (pc := 54) (i := 4) dX6_doChanges_54 (Nat.le_of_ble_eq_true rfl) (L2 := [some (.ref 0), some (.int r1), some (.int r3), some (.int r5), some (.int (V 1 ((583 + r1).toNatClampNeg))), none, none, none]) rfl ?_
        refine go_iload_n (pc := 56) dX6_doChanges_56 rfl rfl ?_
        refine go_iload (pc := 57) dX6_doChanges_57 rfl ?_
        refine go_icmp_gt (pc := 59) (tgt := 72) dX6_doChanges_59 rfl (fun c15 => ?_) (fun c15 => ?_)
        · replace h := ifp h c15
          refine go_bipush (pc := 72) (v := (-6)) dX6_doChanges_72 cb_m6 ?_
          cases h
          exact go_iret (pc := 74) (Or.inl rfl) ⟨Nat.zero_le _, Nat.zero_le _⟩ dX6_doChanges_74
        · replace h := ifn h c15
          refine go_aload_n (pc := 62) dX6_doChanges_62 rfl rfl ?_
          refine go_getP (pc := 63) (a := 15) fX6_56 (by decide) (show TM 0 = (6 + 5, 29) from rfl) rfl dX6_doChanges_63 ?_
          refine go_iload_n (pc := 66) dX6_doChanges_66 rfl rfl ?_
          obtain ⟨c16, h⟩ := ok_not h
          refine go_ia (pc := 67) (v := V 15 r1.toNatClampNeg) (show TM 15 = (0, 3) from rfl) (vin c16) dX6_doChanges_67 rfl ?_
          refine go_iload_n (pc := 68) dX6_doChanges_68 rfl rfl ?_
          refine go_icmp_le (pc := 69) (tgt := 75) dX6_doChanges_69 rfl (fun c17 => ?_) (fun c17 => ?_)
          · replace h := ifp h c17
            refine go_iload (pc := 75) dX6_doChanges_75 rfl ?_
            refine go_istore (pc := 77) (i := 5) dX6_doChanges_77 (Nat.le_of_ble_eq_true rfl) (L2 := [some (.ref 0), some (.int r1), some (.int r3), some (.int r5), some (.int (V 1 ((583 + r1).toNatClampNeg))), some (.int (V 1 ((583 + r1).toNatClampNeg))), none, none]) rfl ?_
            exact gX6_doChanges_b79 _ _ _ _ _ _ _ _  h
          · replace h := ifn h c17
            refine go_bipush (pc := 72) (v := (-6)) dX6_doChanges_72 cb_m6 ?_
            cases h
            exact go_iret (pc := 74) (Or.inl rfl) ⟨Nat.zero_le _, Nat.zero_le _⟩ dX6_doChanges_74
      · replace h := ifp h c13
        refine go_bipush (pc := 41) (v := (-2)) dX6_doChanges_41 cb_m2 ?_
        cases h
        exact go_iret (pc := 43) (Or.inl rfl) ⟨Nat.zero_le _, Nat.zero_le _⟩ dX6_doChanges_43
def eX6_drafted (a1 : Int32) (V : Mm) : Option (Int32) :=
  if ((10 * (V 0 21)) + a1) < 0 ∨ 120 ≤ ((10 * (V 0 21)) + a1).toNatClampNeg then none else
  some (V 7 (((10 * (V 0 21)) + a1).toNatClampNeg))
set_option maxHeartbeats 4000000 in
set_option maxRecDepth 100000 in
theorem E_X6_drafted {a1 : Int32} {V : Mm} {res : Int32}  (h : eX6_drafted a1 V = some res) : Ev mX6_drafted [.ref 0, .int a1] (hM V) (some (.int res)) (hM V) := by
  refine Ev.of (n := 0) oX6_drafted.1 (Nat.le_of_ble_eq_true rfl) ?_
  unfold eX6_drafted at h
  show Go mX6_drafted 0 [some (.ref 0), some (.int a1)] [] (hM V) 0 0 (some (.int res)) (hM V)
  refine go_aload_n (pc := 0) dX6_drafted_0 rfl rfl ?_
  refine go_getP (pc := 1) (a := 7) fX6_28 (by decide) (show TM 0 = (6 + 5, 29) from rfl) rfl dX6_drafted_1 ?_
  refine go_bipush (pc := 4) (v := 10) dX6_drafted_4 cb_10 ?_
  refine go_aload_n (pc := 6) dX6_drafted_6 rfl rfl ?_
  refine go_gI (pc := 7) (v := V 0 21) fX6_129 (by decide) (show TM 0 = (6 + 5, 29) from rfl) dX6_drafted_7 rfl ?_
  refine go_imul (pc := 10) dX6_drafted_10 ?_
  refine go_iload_n (pc := 11) dX6_drafted_11 rfl rfl ?_
  refine go_iadd (pc := 12) dX6_drafted_12 ?_
  obtain ⟨c1, h⟩ := ok_not h
  refine go_ia (pc := 13) (v := V 7 (((10 * (V 0 21)) + a1).toNatClampNeg)) (show TM 7 = (0, 120) from rfl) (vin c1) dX6_drafted_13 rfl ?_
  cases h
  exact go_iret (pc := 14) (Or.inl rfl) ⟨Nat.zero_le _, Nat.zero_le _⟩ dX6_drafted_14
def eX6_isDraft (a1 : Int32) (a2 : Int32) (a3 : Int32) (V : Mm) : Option (Int32) :=
  (eX6_drafted a1 V).bind fun r1 =>
  (eX6_within r1 a2 a3 V).bind fun r3 =>
  if r3 = 0 ∨ r3 = 1 then
    some r3
  else none
set_option maxHeartbeats 4000000 in
set_option maxRecDepth 100000 in
theorem E_X6_isDraft {a1 : Int32} {a2 : Int32} {a3 : Int32} {V : Mm} {res : Int32}  (h : eX6_isDraft a1 a2 a3 V = some res) : Ev mX6_isDraft [.ref 0, .int a1, .int a2, .int a3] (hM V) (some (.int res)) (hM V) := by
  refine Ev.of (n := 0) oX6_isDraft.1 (Nat.le_of_ble_eq_true rfl) ?_
  unfold eX6_isDraft at h
  show Go mX6_isDraft 0 [some (.ref 0), some (.int a1), some (.int a2), some (.int a3)] [] (hM V) 0 0 (some (.int res)) (hM V)
  refine go_aload_n (pc := 0) dX6_isDraft_0 rfl rfl ?_
  refine go_iload_n (pc := 1) dX6_isDraft_1 rfl rfl ?_
  obtain ⟨r1, e2, h⟩ := ok_bind h
  refine go_cV (pc := 2) (ci := 6) (As := [.int a1]) (st := []) (E_X6_drafted e2) rfl oX6_drafted iX6_drafted sX6_drafted kX6_189 rfl (show TM 0 = (6 + 5, 29) from rfl) rfl (Nat.le_of_ble_eq_true rfl) ⟨Nat.le_of_ble_eq_true rfl, Nat.le_of_ble_eq_true rfl⟩ ⟨rfl, rfl⟩ dX6_isDraft_2 (st2 := [.int r1]) rfl ?_
  refine go_iload_n (pc := 5) dX6_isDraft_5 rfl rfl ?_
  refine go_iload_n (pc := 6) dX6_isDraft_6 rfl rfl ?_
  obtain ⟨r3, e4, h⟩ := ok_bind h
  refine go_cS (pc := 7) (As := [.int r1, .int a2, .int a3]) (st := []) (E_X6_within e4) rfl oX6_within iX6_within kX6_99 rfl (Nat.le_of_ble_eq_true rfl) ⟨Nat.le_of_ble_eq_true rfl, Nat.le_of_ble_eq_true rfl⟩ ⟨rfl, rfl⟩ dX6_isDraft_7 (st2 := [.int r3]) rfl ?_
  obtain ⟨c5, h⟩ := ok_if h
  cases h
  exact go_iret (pc := 10) (Or.inr ⟨rfl, c5⟩) ⟨Nat.zero_le _, Nat.zero_le _⟩ dX6_isDraft_10
def eX6_makeBox_b115 (l2 : Int32) (V : Mm) : Option (Int32 × Mm) :=
  (eX6_drafted 0 V).bind fun r14 =>
  (eX6_isNamed 1 (-9) l2 r14 V).bind fun r16 =>
  if r16 = 0 then
    if (V 1 580) = 20 then
      some ((-4), V)
    else
      if (4 * (V 1 580)) < 0 ∨ 586 ≤ (4 * (V 1 580)).toNatClampNeg then none else
      (eX6_drafted 0 (wr (wr V 1 580 ((V 1 580) + 1)) 1 ((4 * (V 1 580)).toNatClampNeg) 1)).bind fun r21 =>
      if ((4 * (V 1 580)) + 1) < 0 ∨ 586 ≤ ((4 * (V 1 580)) + 1).toNatClampNeg then none else
      if ((4 * (V 1 580)) + 2) < 0 ∨ 586 ≤ ((4 * (V 1 580)) + 2).toNatClampNeg then none else
      (eX6_drafted 2 (wr (wr (wr (wr V 1 580 ((V 1 580) + 1)) 1 ((4 * (V 1 580)).toNatClampNeg) 1) 1 (((4 * (V 1 580)) + 1).toNatClampNeg) r21) 1 (((4 * (V 1 580)) + 2).toNatClampNeg) l2)).bind fun r25 =>
      if ((4 * (V 1 580)) + 3) < 0 ∨ 586 ≤ ((4 * (V 1 580)) + 3).toNatClampNeg then none else
      (eX6_give (V 0 21) 1 (V 1 580) (wr (wr (wr (wr (wr V 1 580 ((V 1 580) + 1)) 1 ((4 * (V 1 580)).toNatClampNeg) 1) 1 (((4 * (V 1 580)) + 1).toNatClampNeg) r21) 1 (((4 * (V 1 580)) + 2).toNatClampNeg) l2) 1 (((4 * (V 1 580)) + 3).toNatClampNeg) r25)).bind fun r28 =>
      some (0, r28)
  else
    some ((-3), V)
set_option maxHeartbeats 4000000 in
set_option maxRecDepth 100000 in
theorem gX6_makeBox_b115 {l2 : Int32} {V : Mm} {res : Int32 × Mm}  (h : eX6_makeBox_b115 l2 V = some res) : Go mX6_makeBox 115 [some (.ref 0), none, some (.int l2), none] [] (hM V) 0 0 (some (.int res.1)) (hM res.2) := by
  unfold eX6_makeBox_b115 at h
  refine go_aload_n (pc := 115) dX6_makeBox_115 rfl rfl ?_
  refine go_aload_n (pc := 116) dX6_makeBox_116 rfl rfl ?_
  refine go_getP (pc := 117) (a := 1) fX6_7 (by decide) (show TM 0 = (6 + 5, 29) from rfl) rfl dX6_makeBox_117 ?_
  refine go_bipush (pc := 120) (v := (-9)) dX6_makeBox_120 cb_m9 ?_
  refine go_iload_n (pc := 122) dX6_makeBox_122 rfl rfl ?_
  refine go_aload_n (pc := 123) dX6_makeBox_123 rfl rfl ?_
  refine go_iconst (pc := 124) (v := 0) dX6_makeBox_124 ci_0 ?_
  obtain ⟨r14, e15, h⟩ := ok_bind h
  refine go_cV (pc := 125) (ci := 6) (As := [.int 0]) (st := [.int l2, .int (-9), .ref 1, .ref 0]) (E_X6_drafted e15) rfl oX6_drafted iX6_drafted sX6_drafted kX6_189 rfl (show TM 0 = (6 + 5, 29) from rfl) rfl (Nat.le_of_ble_eq_true rfl) ⟨Nat.le_of_ble_eq_true rfl, Nat.le_of_ble_eq_true rfl⟩ ⟨rfl, rfl⟩ dX6_makeBox_125 (st2 := [.int r14, .int l2, .int (-9), .ref 1, .ref 0]) rfl ?_
  obtain ⟨r16, e17, h⟩ := ok_bind h
  refine go_cV (pc := 128) (ci := 6) (As := [.ref 1, .int (-9), .int l2, .int r14]) (st := []) (E_X6_isNamed isW_1 e17) rfl oX6_isNamed iX6_isNamed sX6_isNamed kX6_198 rfl (show TM 0 = (6 + 5, 29) from rfl) rfl (Nat.le_of_ble_eq_true rfl) ⟨Nat.le_of_ble_eq_true rfl, Nat.le_of_ble_eq_true rfl⟩ ⟨rfl, rfl⟩ dX6_makeBox_128 (st2 := [.int r16]) rfl ?_
  refine go_if_eq (pc := 131) (tgt := 137) dX6_makeBox_131 rfl (fun c18 => ?_) (fun c18 => ?_)
  · replace h := ifp h c18
    refine go_aload_n (pc := 137) dX6_makeBox_137 rfl rfl ?_
    refine go_getP (pc := 138) (a := 1) fX6_7 (by decide) (show TM 0 = (6 + 5, 29) from rfl) rfl dX6_makeBox_138 ?_
    refine go_sipush (pc := 141) (v := 580) dX6_makeBox_141 cs_580 ?_
    refine go_ia (pc := 144) (v := V 1 580) (show TM 1 = (0, 586) from rfl) (vin (by decide)) dX6_makeBox_144 rfl ?_
    refine go_bipush (pc := 145) (v := 20) dX6_makeBox_145 cb_20 ?_
    refine go_icmp_ne (pc := 147) (tgt := 153) dX6_makeBox_147 rfl (fun c19 => ?_) (fun c19 => ?_)
    · replace h := ifn h c19
      refine go_aload_n (pc := 153) dX6_makeBox_153 rfl rfl ?_
      refine go_getP (pc := 154) (a := 1) fX6_7 (by decide) (show TM 0 = (6 + 5, 29) from rfl) rfl dX6_makeBox_154 ?_
      refine go_sipush (pc := 157) (v := 580) dX6_makeBox_157 cs_580 ?_
      refine go_ia (pc := 160) (v := V 1 580) (show TM 1 = (0, 586) from rfl) (vin (by decide)) dX6_makeBox_160 rfl ?_
      refine go_istore_n (pc := 161) (i := 3) dX6_makeBox_161 rfl (Nat.le_of_ble_eq_true rfl) (L2 := [some (.ref 0), none, some (.int l2), some (.int (V 1 580))]) rfl ?_
      refine go_aload_n (pc := 162) dX6_makeBox_162 rfl rfl ?_
      refine go_getP (pc := 163) (a := 1) fX6_7 (by decide) (show TM 0 = (6 + 5, 29) from rfl) rfl dX6_makeBox_163 ?_
      refine go_sipush (pc := 166) (v := 580) dX6_makeBox_166 cs_580 ?_
      refine go_dup2 (pc := 169) dX6_makeBox_169 ?_
      refine go_ia (pc := 170) (v := V 1 580) (show TM 1 = (0, 586) from rfl) (vin (by decide)) dX6_makeBox_170 rfl ?_
      refine go_iconst (pc := 171) (v := 1) dX6_makeBox_171 ci_1 ?_
      refine go_iadd (pc := 172) dX6_makeBox_172 ?_
      refine go_iast (pc := 173) (show TM 1 = (0, 586) from rfl) (vin (by decide)) dX6_makeBox_173 ?_
      refine go_aload_n (pc := 174) dX6_makeBox_174 rfl rfl ?_
      refine go_getP (pc := 175) (a := 1) fX6_7 (by decide) (show TM 0 = (6 + 5, 29) from rfl) rfl dX6_makeBox_175 ?_
      refine go_iconst (pc := 178) (v := 4) dX6_makeBox_178 ci_4 ?_
      refine go_iload_n (pc := 179) dX6_makeBox_179 rfl rfl ?_
      refine go_imul (pc := 180) dX6_makeBox_180 ?_
      refine go_iconst (pc := 181) (v := 1) dX6_makeBox_181 ci_1 ?_
      obtain ⟨c20, h⟩ := ok_not h
      refine go_iast (pc := 182) (show TM 1 = (0, 586) from rfl) (vin c20) dX6_makeBox_182 ?_
      refine go_aload_n (pc := 183) dX6_makeBox_183 rfl rfl ?_
      refine go_getP (pc := 184) (a := 1) fX6_7 (by decide) (show TM 0 = (6 + 5, 29) from rfl) rfl dX6_makeBox_184 ?_
      refine go_iconst (pc := 187) (v := 4) dX6_makeBox_187 ci_4 ?_
      refine go_iload_n (pc := 188) dX6_makeBox_188 rfl rfl ?_
      refine go_imul (pc := 189) dX6_makeBox_189 ?_
      refine go_iconst (pc := 190) (v := 1) dX6_makeBox_190 ci_1 ?_
      refine go_iadd (pc := 191) dX6_makeBox_191 ?_
      refine go_aload_n (pc := 192) dX6_makeBox_192 rfl rfl ?_
      refine go_iconst (pc := 193) (v := 0) dX6_makeBox_193 ci_0 ?_
      obtain ⟨r21, e22, h⟩ := ok_bind h
      refine go_cV (pc := 194) (ci := 6) (As := [.int 0]) (st := [.int ((4 * (V 1 580)) + 1), .ref 1]) (E_X6_drafted e22) rfl oX6_drafted iX6_drafted sX6_drafted kX6_189 rfl (show TM 0 = (6 + 5, 29) from rfl) rfl (Nat.le_of_ble_eq_true rfl) ⟨Nat.le_of_ble_eq_true rfl, Nat.le_of_ble_eq_true rfl⟩ ⟨rfl, rfl⟩ dX6_makeBox_194 (st2 := [.int r21, .int ((4 * (V 1 580)) + 1), .ref 1]) rfl ?_
      obtain ⟨c23, h⟩ := ok_not h
      refine go_iast (pc := 197) (show TM 1 = (0, 586) from rfl) (vin c23) dX6_makeBox_197 ?_
      refine go_aload_n (pc := 198) dX6_makeBox_198 rfl rfl ?_
      refine go_getP (pc := 199) (a := 1) fX6_7 (by decide) (show TM 0 = (6 + 5, 29) from rfl) rfl dX6_makeBox_199 ?_
      refine go_iconst (pc := 202) (v := 4) dX6_makeBox_202 ci_4 ?_
      refine go_iload_n (pc := 203) dX6_makeBox_203 rfl rfl ?_
      refine go_imul (pc := 204) dX6_makeBox_204 ?_
      refine go_iconst (pc := 205) (v := 2) dX6_makeBox_205 ci_2 ?_
      refine go_iadd (pc := 206) dX6_makeBox_206 ?_
      refine go_iload_n (pc := 207) dX6_makeBox_207 rfl rfl ?_
      obtain ⟨c24, h⟩ := ok_not h
      refine go_iast (pc := 208) (show TM 1 = (0, 586) from rfl) (vin c24) dX6_makeBox_208 ?_
      refine go_aload_n (pc := 209) dX6_makeBox_209 rfl rfl ?_
      refine go_getP (pc := 210) (a := 1) fX6_7 (by decide) (show TM 0 = (6 + 5, 29) from rfl) rfl dX6_makeBox_210 ?_
      refine go_iconst (pc := 213) (v := 4) dX6_makeBox_213 ci_4 ?_
      refine go_iload_n (pc := 214) dX6_makeBox_214 rfl rfl ?_
      refine go_imul (pc := 215) dX6_makeBox_215 ?_
      refine go_iconst (pc := 216) (v := 3) dX6_makeBox_216 ci_3 ?_
      refine go_iadd (pc := 217) dX6_makeBox_217 ?_
      refine go_aload_n (pc := 218) dX6_makeBox_218 rfl rfl ?_
      refine go_iconst (pc := 219) (v := 2) dX6_makeBox_219 ci_2 ?_
      obtain ⟨r25, e26, h⟩ := ok_bind h
      refine go_cV (pc := 220) (ci := 6) (As := [.int 2]) (st := [.int ((4 * (V 1 580)) + 3), .ref 1]) (E_X6_drafted e26) rfl oX6_drafted iX6_drafted sX6_drafted kX6_189 rfl (show TM 0 = (6 + 5, 29) from rfl) rfl (Nat.le_of_ble_eq_true rfl) ⟨Nat.le_of_ble_eq_true rfl, Nat.le_of_ble_eq_true rfl⟩ ⟨rfl, rfl⟩ dX6_makeBox_220 (st2 := [.int r25, .int ((4 * (V 1 580)) + 3), .ref 1]) rfl ?_
      obtain ⟨c27, h⟩ := ok_not h
      refine go_iast (pc := 223) (show TM 1 = (0, 586) from rfl) (vin c27) dX6_makeBox_223 ?_
      refine go_aload_n (pc := 224) dX6_makeBox_224 rfl rfl ?_
      refine go_aload_n (pc := 225) dX6_makeBox_225 rfl rfl ?_
      refine go_gI (pc := 226) (v := V 0 21) fX6_129 (by decide) (show TM 0 = (6 + 5, 29) from rfl) dX6_makeBox_226 rfl ?_
      refine go_iconst (pc := 229) (v := 1) dX6_makeBox_229 ci_1 ?_
      refine go_iload_n (pc := 230) dX6_makeBox_230 rfl rfl ?_
      obtain ⟨r28, e29, h⟩ := ok_bind h
      refine go_cV (pc := 231) (ci := 6) (As := [.int (V 0 21), .int 1, .int (V 1 580)]) (st := []) (E_X6_give e29) rfl oX6_give iX6_give sX6_give kX6_162 rfl (show TM 0 = (6 + 5, 29) from rfl) rfl (Nat.le_of_ble_eq_true rfl) ⟨Nat.le_of_ble_eq_true rfl, Nat.le_of_ble_eq_true rfl⟩ ⟨rfl, rfl⟩ dX6_makeBox_231 (st2 := []) rfl ?_
      refine go_iconst (pc := 234) (v := 0) dX6_makeBox_234 ci_0 ?_
      cases h
      exact go_iret (pc := 235) (Or.inl rfl) ⟨Nat.zero_le _, Nat.zero_le _⟩ dX6_makeBox_235
    · replace h := ifp h c19
      refine go_bipush (pc := 150) (v := (-4)) dX6_makeBox_150 cb_m4 ?_
      cases h
      exact go_iret (pc := 152) (Or.inl rfl) ⟨Nat.zero_le _, Nat.zero_le _⟩ dX6_makeBox_152
  · replace h := ifn h c18
    refine go_bipush (pc := 134) (v := (-3)) dX6_makeBox_134 cb_m3 ?_
    cases h
    exact go_iret (pc := 136) (Or.inl rfl) ⟨Nat.zero_le _, Nat.zero_le _⟩ dX6_makeBox_136
def eX6_makeBox_b79 (l1 : Int32) (s0 : Int32) (V : Mm) : Option (Int32 × Mm) :=
  if l1 = 0 then
    if l1 = 0 then
      eX6_makeBox_b115 s0 V
    else
      (eX6_deep 1 s0 V).bind fun r30 =>
      if r30 = 4 then
        some ((-3), V)
      else
        eX6_makeBox_b115 s0 V
  else
    (eX6_isBox 1 s0 V).bind fun r33 =>
    if r33 = 0 then
      some ((-1), V)
    else
      if l1 = 0 then
        eX6_makeBox_b115 s0 V
      else
        (eX6_deep 1 s0 V).bind fun r37 =>
        if r37 = 4 then
          some ((-3), V)
        else
          eX6_makeBox_b115 s0 V
set_option maxHeartbeats 4000000 in
set_option maxRecDepth 100000 in
theorem gX6_makeBox_b79 {l1 : Int32} {s0 : Int32} {V : Mm} {res : Int32 × Mm}  (h : eX6_makeBox_b79 l1 s0 V = some res) : Go mX6_makeBox 79 [some (.ref 0), some (.int l1), none, none] [.int s0] (hM V) 0 0 (some (.int res.1)) (hM res.2) := by
  unfold eX6_makeBox_b79 at h
  refine go_istore_n (pc := 79) (i := 2) dX6_makeBox_79 rfl (Nat.le_of_ble_eq_true rfl) (L2 := [some (.ref 0), some (.int l1), some (.int s0), none]) rfl ?_
  refine go_iload_n (pc := 80) dX6_makeBox_80 rfl rfl ?_
  refine go_if_eq (pc := 81) (tgt := 98) dX6_makeBox_81 rfl (fun c12 => ?_) (fun c12 => ?_)
  · replace h := ifp h c12
    refine go_iload_n (pc := 98) dX6_makeBox_98 rfl rfl ?_
    refine go_if_eq (pc := 99) (tgt := 115) dX6_makeBox_99 rfl (fun c13 => ?_) (fun c13 => ?_)
    · replace h := ifp h c13
      refine go_le (lle_s (lle_n (lle_s (lle_n lle_0)))) ?_
      exact gX6_makeBox_b115  h
    · replace h := ifn h c13
      refine go_aload_n (pc := 102) dX6_makeBox_102 rfl rfl ?_
      refine go_aload_n (pc := 103) dX6_makeBox_103 rfl rfl ?_
      refine go_getP (pc := 104) (a := 1) fX6_7 (by decide) (show TM 0 = (6 + 5, 29) from rfl) rfl dX6_makeBox_104 ?_
      refine go_iload_n (pc := 107) dX6_makeBox_107 rfl rfl ?_
      obtain ⟨r30, e31, h⟩ := ok_bind h
      refine go_cV (pc := 108) (ci := 6) (As := [.ref 1, .int s0]) (st := []) (E_X6_deep isW_1 e31) rfl oX6_deep iX6_deep sX6_deep kX6_195 rfl (show TM 0 = (6 + 5, 29) from rfl) rfl (Nat.le_of_ble_eq_true rfl) ⟨Nat.le_of_ble_eq_true rfl, Nat.le_of_ble_eq_true rfl⟩ ⟨rfl, rfl⟩ dX6_makeBox_108 (st2 := [.int r30]) rfl ?_
      refine go_iconst (pc := 111) (v := 4) dX6_makeBox_111 ci_4 ?_
      refine go_icmp_eq (pc := 112) (tgt := 134) dX6_makeBox_112 rfl (fun c32 => ?_) (fun c32 => ?_)
      · replace h := ifp h c32
        refine go_bipush (pc := 134) (v := (-3)) dX6_makeBox_134 cb_m3 ?_
        cases h
        exact go_iret (pc := 136) (Or.inl rfl) ⟨Nat.zero_le _, Nat.zero_le _⟩ dX6_makeBox_136
      · replace h := ifn h c32
        refine go_le (lle_s (lle_n (lle_s (lle_n lle_0)))) ?_
        exact gX6_makeBox_b115  h
  · replace h := ifn h c12
    refine go_aload_n (pc := 84) dX6_makeBox_84 rfl rfl ?_
    refine go_aload_n (pc := 85) dX6_makeBox_85 rfl rfl ?_
    refine go_getP (pc := 86) (a := 1) fX6_7 (by decide) (show TM 0 = (6 + 5, 29) from rfl) rfl dX6_makeBox_86 ?_
    refine go_iload_n (pc := 89) dX6_makeBox_89 rfl rfl ?_
    obtain ⟨r33, e34, h⟩ := ok_bind h
    refine go_cV (pc := 90) (ci := 6) (As := [.ref 1, .int s0]) (st := []) (E_X6_isBox isW_1 e34) rfl oX6_isBox iX6_isBox sX6_isBox kX6_89 rfl (show TM 0 = (6 + 5, 29) from rfl) rfl (Nat.le_of_ble_eq_true rfl) ⟨Nat.le_of_ble_eq_true rfl, Nat.le_of_ble_eq_true rfl⟩ ⟨rfl, rfl⟩ dX6_makeBox_90 (st2 := [.int r33]) rfl ?_
    refine go_if_ne (pc := 93) (tgt := 98) dX6_makeBox_93 rfl (fun c35 => ?_) (fun c35 => ?_)
    · replace h := ifn h c35
      refine go_iload_n (pc := 98) dX6_makeBox_98 rfl rfl ?_
      refine go_if_eq (pc := 99) (tgt := 115) dX6_makeBox_99 rfl (fun c36 => ?_) (fun c36 => ?_)
      · replace h := ifp h c36
        refine go_le (lle_s (lle_n (lle_s (lle_n lle_0)))) ?_
        exact gX6_makeBox_b115  h
      · replace h := ifn h c36
        refine go_aload_n (pc := 102) dX6_makeBox_102 rfl rfl ?_
        refine go_aload_n (pc := 103) dX6_makeBox_103 rfl rfl ?_
        refine go_getP (pc := 104) (a := 1) fX6_7 (by decide) (show TM 0 = (6 + 5, 29) from rfl) rfl dX6_makeBox_104 ?_
        refine go_iload_n (pc := 107) dX6_makeBox_107 rfl rfl ?_
        obtain ⟨r37, e38, h⟩ := ok_bind h
        refine go_cV (pc := 108) (ci := 6) (As := [.ref 1, .int s0]) (st := []) (E_X6_deep isW_1 e38) rfl oX6_deep iX6_deep sX6_deep kX6_195 rfl (show TM 0 = (6 + 5, 29) from rfl) rfl (Nat.le_of_ble_eq_true rfl) ⟨Nat.le_of_ble_eq_true rfl, Nat.le_of_ble_eq_true rfl⟩ ⟨rfl, rfl⟩ dX6_makeBox_108 (st2 := [.int r37]) rfl ?_
        refine go_iconst (pc := 111) (v := 4) dX6_makeBox_111 ci_4 ?_
        refine go_icmp_eq (pc := 112) (tgt := 134) dX6_makeBox_112 rfl (fun c39 => ?_) (fun c39 => ?_)
        · replace h := ifp h c39
          refine go_bipush (pc := 134) (v := (-3)) dX6_makeBox_134 cb_m3 ?_
          cases h
          exact go_iret (pc := 136) (Or.inl rfl) ⟨Nat.zero_le _, Nat.zero_le _⟩ dX6_makeBox_136
        · replace h := ifn h c39
          refine go_le (lle_s (lle_n (lle_s (lle_n lle_0)))) ?_
          exact gX6_makeBox_b115  h
    · replace h := ifp h c35
      refine go_iconst (pc := 96) (v := (-1)) dX6_makeBox_96 ci_m1 ?_
      cases h
      exact go_iret (pc := 97) (Or.inl rfl) ⟨Nat.zero_le _, Nat.zero_le _⟩ dX6_makeBox_97
def eX6_makeBox_b41 (s0 : Int32) (V : Mm) : Option (Int32 × Mm) :=
  if s0 = 0 then
    if s0 = 0 then
      eX6_makeBox_b79 s0 (-9) V
    else
      (eX6_drafted 1 V).bind fun r40 =>
      (eX6_oneOf r40 V).bind fun r42 =>
      eX6_makeBox_b79 s0 r42 V
  else
    (eX6_drafted 1 V).bind fun r44 =>
    (eX6_isOne r44 V).bind fun r46 =>
    if r46 = 0 then
      some ((-5), V)
    else
      if s0 = 0 then
        eX6_makeBox_b79 s0 (-9) V
      else
        (eX6_drafted 1 V).bind fun r50 =>
        (eX6_oneOf r50 V).bind fun r52 =>
        eX6_makeBox_b79 s0 r52 V
set_option maxHeartbeats 4000000 in
set_option maxRecDepth 100000 in
theorem gX6_makeBox_b41 {s0 : Int32} {V : Mm} {res : Int32 × Mm}  (h : eX6_makeBox_b41 s0 V = some res) : Go mX6_makeBox 41 [some (.ref 0), none, none, none] [.int s0] (hM V) 0 0 (some (.int res.1)) (hM res.2) := by
  unfold eX6_makeBox_b41 at h
  refine go_istore_n (pc := 41) (i := 1) dX6_makeBox_41 rfl (Nat.le_of_ble_eq_true rfl) (L2 := [some (.ref 0), some (.int s0), none, none]) rfl ?_
  refine go_iload_n (pc := 42) dX6_makeBox_42 rfl rfl ?_
  refine go_if_eq (pc := 43) (tgt := 61) dX6_makeBox_43 rfl (fun c10 => ?_) (fun c10 => ?_)
  · replace h := ifp h c10
    refine go_iload_n (pc := 61) dX6_makeBox_61 rfl rfl ?_
    refine go_if_eq (pc := 62) (tgt := 77) dX6_makeBox_62 rfl (fun c11 => ?_) (fun c11 => ?_)
    · replace h := ifp h c11
      refine go_bipush (pc := 77) (v := (-9)) dX6_makeBox_77 cb_m9 ?_
      exact gX6_makeBox_b79  h
    · replace h := ifn h c11
      refine go_aload_n (pc := 65) dX6_makeBox_65 rfl rfl ?_
      refine go_aload_n (pc := 66) dX6_makeBox_66 rfl rfl ?_
      refine go_iconst (pc := 67) (v := 1) dX6_makeBox_67 ci_1 ?_
      obtain ⟨r40, e41, h⟩ := ok_bind h
      refine go_cV (pc := 68) (ci := 6) (As := [.int 1]) (st := [.ref 0]) (E_X6_drafted e41) rfl oX6_drafted iX6_drafted sX6_drafted kX6_189 rfl (show TM 0 = (6 + 5, 29) from rfl) rfl (Nat.le_of_ble_eq_true rfl) ⟨Nat.le_of_ble_eq_true rfl, Nat.le_of_ble_eq_true rfl⟩ ⟨rfl, rfl⟩ dX6_makeBox_68 (st2 := [.int r40, .ref 0]) rfl ?_
      obtain ⟨r42, e43, h⟩ := ok_bind h
      refine go_cV (pc := 71) (ci := 6) (As := [.int r40]) (st := []) (E_X6_oneOf e43) rfl oX6_oneOf iX6_oneOf sX6_oneOf kX6_139 rfl (show TM 0 = (6 + 5, 29) from rfl) rfl (Nat.le_of_ble_eq_true rfl) ⟨Nat.le_of_ble_eq_true rfl, Nat.le_of_ble_eq_true rfl⟩ ⟨rfl, rfl⟩ dX6_makeBox_71 (st2 := [.int r42]) rfl ?_
      refine go_goto (pc := 74) (tgt := 79) dX6_makeBox_74 rfl ?_
      exact gX6_makeBox_b79  h
  · replace h := ifn h c10
    refine go_aload_n (pc := 46) dX6_makeBox_46 rfl rfl ?_
    refine go_aload_n (pc := 47) dX6_makeBox_47 rfl rfl ?_
    refine go_iconst (pc := 48) (v := 1) dX6_makeBox_48 ci_1 ?_
    obtain ⟨r44, e45, h⟩ := ok_bind h
    refine go_cV (pc := 49) (ci := 6) (As := [.int 1]) (st := [.ref 0]) (E_X6_drafted e45) rfl oX6_drafted iX6_drafted sX6_drafted kX6_189 rfl (show TM 0 = (6 + 5, 29) from rfl) rfl (Nat.le_of_ble_eq_true rfl) ⟨Nat.le_of_ble_eq_true rfl, Nat.le_of_ble_eq_true rfl⟩ ⟨rfl, rfl⟩ dX6_makeBox_49 (st2 := [.int r44, .ref 0]) rfl ?_
    obtain ⟨r46, e47, h⟩ := ok_bind h
    refine go_cV (pc := 52) (ci := 6) (As := [.int r44]) (st := []) (E_X6_isOne e47) rfl oX6_isOne iX6_isOne sX6_isOne kX6_136 rfl (show TM 0 = (6 + 5, 29) from rfl) rfl (Nat.le_of_ble_eq_true rfl) ⟨Nat.le_of_ble_eq_true rfl, Nat.le_of_ble_eq_true rfl⟩ ⟨rfl, rfl⟩ dX6_makeBox_52 (st2 := [.int r46]) rfl ?_
    refine go_if_ne (pc := 55) (tgt := 61) dX6_makeBox_55 rfl (fun c48 => ?_) (fun c48 => ?_)
    · replace h := ifn h c48
      refine go_iload_n (pc := 61) dX6_makeBox_61 rfl rfl ?_
      refine go_if_eq (pc := 62) (tgt := 77) dX6_makeBox_62 rfl (fun c49 => ?_) (fun c49 => ?_)
      · replace h := ifp h c49
        refine go_bipush (pc := 77) (v := (-9)) dX6_makeBox_77 cb_m9 ?_
        exact gX6_makeBox_b79  h
      · replace h := ifn h c49
        refine go_aload_n (pc := 65) dX6_makeBox_65 rfl rfl ?_
        refine go_aload_n (pc := 66) dX6_makeBox_66 rfl rfl ?_
        refine go_iconst (pc := 67) (v := 1) dX6_makeBox_67 ci_1 ?_
        obtain ⟨r50, e51, h⟩ := ok_bind h
        refine go_cV (pc := 68) (ci := 6) (As := [.int 1]) (st := [.ref 0]) (E_X6_drafted e51) rfl oX6_drafted iX6_drafted sX6_drafted kX6_189 rfl (show TM 0 = (6 + 5, 29) from rfl) rfl (Nat.le_of_ble_eq_true rfl) ⟨Nat.le_of_ble_eq_true rfl, Nat.le_of_ble_eq_true rfl⟩ ⟨rfl, rfl⟩ dX6_makeBox_68 (st2 := [.int r50, .ref 0]) rfl ?_
        obtain ⟨r52, e53, h⟩ := ok_bind h
        refine go_cV (pc := 71) (ci := 6) (As := [.int r50]) (st := []) (E_X6_oneOf e53) rfl oX6_oneOf iX6_oneOf sX6_oneOf kX6_139 rfl (show TM 0 = (6 + 5, 29) from rfl) rfl (Nat.le_of_ble_eq_true rfl) ⟨Nat.le_of_ble_eq_true rfl, Nat.le_of_ble_eq_true rfl⟩ ⟨rfl, rfl⟩ dX6_makeBox_71 (st2 := [.int r52]) rfl ?_
        refine go_goto (pc := 74) (tgt := 79) dX6_makeBox_74 rfl ?_
        exact gX6_makeBox_b79  h
    · replace h := ifp h c48
      refine go_bipush (pc := 58) (v := (-5)) dX6_makeBox_58 cb_m5 ?_
      cases h
      exact go_iret (pc := 60) (Or.inl rfl) ⟨Nat.zero_le _, Nat.zero_le _⟩ dX6_makeBox_60
def eX6_makeBox  (V : Mm) : Option (Int32 × Mm) :=
  (eX6_isDraft 0 0 99 V).bind fun r1 =>
  if r1 = 0 then
    some ((-2), V)
  else
    (eX6_isDraft 2 0 9 V).bind fun r4 =>
    if r4 = 0 then
      some ((-2), V)
    else
      (eX6_drafted 1 V).bind fun r7 =>
      if r7 = 1000 then
        eX6_makeBox_b41 0 V
      else
        eX6_makeBox_b41 1 V
set_option maxHeartbeats 4000000 in
set_option maxRecDepth 100000 in
theorem E_X6_makeBox  {V : Mm} {res : Int32 × Mm}  (h : eX6_makeBox V = some res) : Ev mX6_makeBox [.ref 0] (hM V) (some (.int res.1)) (hM res.2) := by
  refine Ev.of (n := 3) oX6_makeBox.1 (Nat.le_of_ble_eq_true rfl) ?_
  unfold eX6_makeBox at h
  show Go mX6_makeBox 0 [some (.ref 0), none, none, none] [] (hM V) 0 0 (some (.int res.1)) (hM res.2)
  refine go_aload_n (pc := 0) dX6_makeBox_0 rfl rfl ?_
  refine go_iconst (pc := 1) (v := 0) dX6_makeBox_1 ci_0 ?_
  refine go_iconst (pc := 2) (v := 0) dX6_makeBox_2 ci_0 ?_
  refine go_bipush (pc := 3) (v := 99) dX6_makeBox_3 cb_99 ?_
  obtain ⟨r1, e2, h⟩ := ok_bind h
  refine go_cV (pc := 5) (ci := 6) (As := [.int 0, .int 0, .int 99]) (st := []) (E_X6_isDraft e2) rfl oX6_isDraft iX6_isDraft sX6_isDraft kX6_192 rfl (show TM 0 = (6 + 5, 29) from rfl) rfl (Nat.le_of_ble_eq_true rfl) ⟨Nat.le_of_ble_eq_true rfl, Nat.le_of_ble_eq_true rfl⟩ ⟨rfl, rfl⟩ dX6_makeBox_5 (st2 := [.int r1]) rfl ?_
  refine go_if_eq (pc := 8) (tgt := 22) dX6_makeBox_8 rfl (fun c3 => ?_) (fun c3 => ?_)
  · replace h := ifp h c3
    refine go_bipush (pc := 22) (v := (-2)) dX6_makeBox_22 cb_m2 ?_
    cases h
    exact go_iret (pc := 24) (Or.inl rfl) ⟨Nat.zero_le _, Nat.zero_le _⟩ dX6_makeBox_24
  · replace h := ifn h c3
    refine go_aload_n (pc := 11) dX6_makeBox_11 rfl rfl ?_
    refine go_iconst (pc := 12) (v := 2) dX6_makeBox_12 ci_2 ?_
    refine go_iconst (pc := 13) (v := 0) dX6_makeBox_13 ci_0 ?_
    refine go_bipush (pc := 14) (v := 9) dX6_makeBox_14 cb_9 ?_
    obtain ⟨r4, e5, h⟩ := ok_bind h
    refine go_cV (pc := 16) (ci := 6) (As := [.int 2, .int 0, .int 9]) (st := []) (E_X6_isDraft e5) rfl oX6_isDraft iX6_isDraft sX6_isDraft kX6_192 rfl (show TM 0 = (6 + 5, 29) from rfl) rfl (Nat.le_of_ble_eq_true rfl) ⟨Nat.le_of_ble_eq_true rfl, Nat.le_of_ble_eq_true rfl⟩ ⟨rfl, rfl⟩ dX6_makeBox_16 (st2 := [.int r4]) rfl ?_
    refine go_if_ne (pc := 19) (tgt := 25) dX6_makeBox_19 rfl (fun c6 => ?_) (fun c6 => ?_)
    · replace h := ifn h c6
      refine go_aload_n (pc := 25) dX6_makeBox_25 rfl rfl ?_
      refine go_iconst (pc := 26) (v := 1) dX6_makeBox_26 ci_1 ?_
      obtain ⟨r7, e8, h⟩ := ok_bind h
      refine go_cV (pc := 27) (ci := 6) (As := [.int 1]) (st := []) (E_X6_drafted e8) rfl oX6_drafted iX6_drafted sX6_drafted kX6_189 rfl (show TM 0 = (6 + 5, 29) from rfl) rfl (Nat.le_of_ble_eq_true rfl) ⟨Nat.le_of_ble_eq_true rfl, Nat.le_of_ble_eq_true rfl⟩ ⟨rfl, rfl⟩ dX6_makeBox_27 (st2 := [.int r7]) rfl ?_
      refine go_sipush (pc := 30) (v := 1000) dX6_makeBox_30 cs_1000 ?_
      refine go_icmp_eq (pc := 33) (tgt := 40) dX6_makeBox_33 rfl (fun c9 => ?_) (fun c9 => ?_)
      · replace h := ifp h c9
        refine go_iconst (pc := 40) (v := 0) dX6_makeBox_40 ci_0 ?_
        exact gX6_makeBox_b41  h
      · replace h := ifn h c9
        refine go_iconst (pc := 36) (v := 1) dX6_makeBox_36 ci_1 ?_
        refine go_goto (pc := 37) (tgt := 41) dX6_makeBox_37 rfl ?_
        exact gX6_makeBox_b41  h
    · replace h := ifp h c6
      refine go_bipush (pc := 22) (v := (-2)) dX6_makeBox_22 cb_m2 ?_
      cases h
      exact go_iret (pc := 24) (Or.inl rfl) ⟨Nat.zero_le _, Nat.zero_le _⟩ dX6_makeBox_24
def eX6_hasNumber (a1 : Int32) (a2 : Int32) (V : Mm) : Option (Int32) :=
  (eX6_mailPart 1 a1 2 V).bind fun r1 =>
  if r1 = a2 then
    some 1
  else
    (eX6_mailPart 1 a1 3 V).bind fun r4 =>
    if r4 = a2 then
      some 1
    else
      (eX6_mailPart 1 a1 4 V).bind fun r7 =>
      if r7 = a2 then
        some 1
      else
        some 0
set_option maxHeartbeats 4000000 in
set_option maxRecDepth 100000 in
theorem E_X6_hasNumber {a1 : Int32} {a2 : Int32} {V : Mm} {res : Int32}  (h : eX6_hasNumber a1 a2 V = some res) : Ev mX6_hasNumber [.ref 0, .int a1, .int a2] (hM V) (some (.int res)) (hM V) := by
  refine Ev.of (n := 0) oX6_hasNumber.1 (Nat.le_of_ble_eq_true rfl) ?_
  unfold eX6_hasNumber at h
  show Go mX6_hasNumber 0 [some (.ref 0), some (.int a1), some (.int a2)] [] (hM V) 0 0 (some (.int res)) (hM V)
  refine go_aload_n (pc := 0) dX6_hasNumber_0 rfl rfl ?_
  refine go_aload_n (pc := 1) dX6_hasNumber_1 rfl rfl ?_
  refine go_getP (pc := 2) (a := 1) fX6_7 (by decide) (show TM 0 = (6 + 5, 29) from rfl) rfl dX6_hasNumber_2 ?_
  refine go_iload_n (pc := 5) dX6_hasNumber_5 rfl rfl ?_
  refine go_iconst (pc := 6) (v := 2) dX6_hasNumber_6 ci_2 ?_
  obtain ⟨r1, e2, h⟩ := ok_bind h
  refine go_cV (pc := 7) (ci := 6) (As := [.ref 1, .int a1, .int 2]) (st := []) (E_X6_mailPart isW_1 e2) rfl oX6_mailPart iX6_mailPart sX6_mailPart kX6_85 rfl (show TM 0 = (6 + 5, 29) from rfl) rfl (Nat.le_of_ble_eq_true rfl) ⟨Nat.le_of_ble_eq_true rfl, Nat.le_of_ble_eq_true rfl⟩ ⟨rfl, rfl⟩ dX6_hasNumber_7 (st2 := [.int r1]) rfl ?_
  refine go_iload_n (pc := 10) dX6_hasNumber_10 rfl rfl ?_
  refine go_icmp_eq (pc := 11) (tgt := 42) dX6_hasNumber_11 rfl (fun c3 => ?_) (fun c3 => ?_)
  · replace h := ifp h c3
    refine go_iconst (pc := 42) (v := 1) dX6_hasNumber_42 ci_1 ?_
    refine go_goto (pc := 43) (tgt := 47) dX6_hasNumber_43 rfl ?_
    cases h
    exact go_iret (pc := 47) (Or.inr ⟨rfl, Or.inr rfl⟩) ⟨Nat.zero_le _, Nat.zero_le _⟩ dX6_hasNumber_47
  · replace h := ifn h c3
    refine go_aload_n (pc := 14) dX6_hasNumber_14 rfl rfl ?_
    refine go_aload_n (pc := 15) dX6_hasNumber_15 rfl rfl ?_
    refine go_getP (pc := 16) (a := 1) fX6_7 (by decide) (show TM 0 = (6 + 5, 29) from rfl) rfl dX6_hasNumber_16 ?_
    refine go_iload_n (pc := 19) dX6_hasNumber_19 rfl rfl ?_
    refine go_iconst (pc := 20) (v := 3) dX6_hasNumber_20 ci_3 ?_
    obtain ⟨r4, e5, h⟩ := ok_bind h
    refine go_cV (pc := 21) (ci := 6) (As := [.ref 1, .int a1, .int 3]) (st := []) (E_X6_mailPart isW_1 e5) rfl oX6_mailPart iX6_mailPart sX6_mailPart kX6_85 rfl (show TM 0 = (6 + 5, 29) from rfl) rfl (Nat.le_of_ble_eq_true rfl) ⟨Nat.le_of_ble_eq_true rfl, Nat.le_of_ble_eq_true rfl⟩ ⟨rfl, rfl⟩ dX6_hasNumber_21 (st2 := [.int r4]) rfl ?_
    refine go_iload_n (pc := 24) dX6_hasNumber_24 rfl rfl ?_
    refine go_icmp_eq (pc := 25) (tgt := 42) dX6_hasNumber_25 rfl (fun c6 => ?_) (fun c6 => ?_)
    · replace h := ifp h c6
      refine go_iconst (pc := 42) (v := 1) dX6_hasNumber_42 ci_1 ?_
      refine go_goto (pc := 43) (tgt := 47) dX6_hasNumber_43 rfl ?_
      cases h
      exact go_iret (pc := 47) (Or.inr ⟨rfl, Or.inr rfl⟩) ⟨Nat.zero_le _, Nat.zero_le _⟩ dX6_hasNumber_47
    · replace h := ifn h c6
      refine go_aload_n (pc := 28) dX6_hasNumber_28 rfl rfl ?_
      refine go_aload_n (pc := 29) dX6_hasNumber_29 rfl rfl ?_
      refine go_getP (pc := 30) (a := 1) fX6_7 (by decide) (show TM 0 = (6 + 5, 29) from rfl) rfl dX6_hasNumber_30 ?_
      refine go_iload_n (pc := 33) dX6_hasNumber_33 rfl rfl ?_
      refine go_iconst (pc := 34) (v := 4) dX6_hasNumber_34 ci_4 ?_
      obtain ⟨r7, e8, h⟩ := ok_bind h
      refine go_cV (pc := 35) (ci := 6) (As := [.ref 1, .int a1, .int 4]) (st := []) (E_X6_mailPart isW_1 e8) rfl oX6_mailPart iX6_mailPart sX6_mailPart kX6_85 rfl (show TM 0 = (6 + 5, 29) from rfl) rfl (Nat.le_of_ble_eq_true rfl) ⟨Nat.le_of_ble_eq_true rfl, Nat.le_of_ble_eq_true rfl⟩ ⟨rfl, rfl⟩ dX6_hasNumber_35 (st2 := [.int r7]) rfl ?_
      refine go_iload_n (pc := 38) dX6_hasNumber_38 rfl rfl ?_
      refine go_icmp_ne (pc := 39) (tgt := 46) dX6_hasNumber_39 rfl (fun c9 => ?_) (fun c9 => ?_)
      · replace h := ifn h c9
        refine go_iconst (pc := 46) (v := 0) dX6_hasNumber_46 ci_0 ?_
        cases h
        exact go_iret (pc := 47) (Or.inr ⟨rfl, Or.inl rfl⟩) ⟨Nat.zero_le _, Nat.zero_le _⟩ dX6_hasNumber_47
      · replace h := ifp h c9
        refine go_iconst (pc := 42) (v := 1) dX6_hasNumber_42 ci_1 ?_
        refine go_goto (pc := 43) (tgt := 47) dX6_hasNumber_43 rfl ?_
        cases h
        exact go_iret (pc := 47) (Or.inr ⟨rfl, Or.inr rfl⟩) ⟨Nat.zero_le _, Nat.zero_le _⟩ dX6_hasNumber_47
def eX6_gathers_b61 (l1 : Int32) (s0 : Int32) (s1 : Int32) (V : Mm) : Option (Int32) :=
  (eX6_drafted 6 V).bind fun r13 =>
  if r13 = 1000 then
    if ((s0 ||| s1) ||| 0) = 0 ∨ ((s0 ||| s1) ||| 0) = 1 then
      some ((s0 ||| s1) ||| 0)
    else none
  else
    (eX6_drafted 6 V).bind fun r17 =>
    (eX6_hasNumber l1 r17 V).bind fun r19 =>
    if r19 = 0 then
      if ((s0 ||| s1) ||| 0) = 0 ∨ ((s0 ||| s1) ||| 0) = 1 then
        some ((s0 ||| s1) ||| 0)
      else none
    else
      if ((s0 ||| s1) ||| 1) = 0 ∨ ((s0 ||| s1) ||| 1) = 1 then
        some ((s0 ||| s1) ||| 1)
      else none
set_option maxHeartbeats 4000000 in
set_option maxRecDepth 100000 in
theorem gX6_gathers_b61 {l1 : Int32} {s0 : Int32} {s1 : Int32} {V : Mm} {res : Int32}  (h : eX6_gathers_b61 l1 s0 s1 V = some res) : Go mX6_gathers 61 [some (.ref 0), some (.int l1), none] [.int s1, .int s0] (hM V) 0 0 (some (.int res)) (hM V) := by
  unfold eX6_gathers_b61 at h
  refine go_ior (pc := 61) dX6_gathers_61 ?_
  refine go_istore_n (pc := 62) (i := 2) dX6_gathers_62 rfl (Nat.le_of_ble_eq_true rfl) (L2 := [some (.ref 0), some (.int l1), some (.int (s0 ||| s1))]) rfl ?_
  refine go_iload_n (pc := 63) dX6_gathers_63 rfl rfl ?_
  refine go_aload_n (pc := 64) dX6_gathers_64 rfl rfl ?_
  refine go_bipush (pc := 65) (v := 6) dX6_gathers_65 cb_6 ?_
  obtain ⟨r13, e14, h⟩ := ok_bind h
  refine go_cV (pc := 67) (ci := 6) (As := [.int 6]) (st := [.int (s0 ||| s1)]) (E_X6_drafted e14) rfl oX6_drafted iX6_drafted sX6_drafted kX6_189 rfl (show TM 0 = (6 + 5, 29) from rfl) rfl (Nat.le_of_ble_eq_true rfl) ⟨Nat.le_of_ble_eq_true rfl, Nat.le_of_ble_eq_true rfl⟩ ⟨rfl, rfl⟩ dX6_gathers_67 (st2 := [.int r13, .int (s0 ||| s1)]) rfl ?_
  refine go_sipush (pc := 70) (v := 1000) dX6_gathers_70 cs_1000 ?_
  refine go_icmp_eq (pc := 73) (tgt := 94) dX6_gathers_73 rfl (fun c15 => ?_) (fun c15 => ?_)
  · replace h := ifp h c15
    refine go_iconst (pc := 94) (v := 0) dX6_gathers_94 ci_0 ?_
    refine go_ior (pc := 95) dX6_gathers_95 ?_
    refine go_istore_n (pc := 96) (i := 2) dX6_gathers_96 rfl (Nat.le_of_ble_eq_true rfl) (L2 := [some (.ref 0), some (.int l1), some (.int ((s0 ||| s1) ||| 0))]) rfl ?_
    refine go_iload_n (pc := 97) dX6_gathers_97 rfl rfl ?_
    obtain ⟨c16, h⟩ := ok_if h
    cases h
    exact go_iret (pc := 98) (Or.inr ⟨rfl, c16⟩) ⟨Nat.zero_le _, Nat.zero_le _⟩ dX6_gathers_98
  · replace h := ifn h c15
    refine go_aload_n (pc := 76) dX6_gathers_76 rfl rfl ?_
    refine go_iload_n (pc := 77) dX6_gathers_77 rfl rfl ?_
    refine go_aload_n (pc := 78) dX6_gathers_78 rfl rfl ?_
    refine go_bipush (pc := 79) (v := 6) dX6_gathers_79 cb_6 ?_
    obtain ⟨r17, e18, h⟩ := ok_bind h
    refine go_cV (pc := 81) (ci := 6) (As := [.int 6]) (st := [.int l1, .ref 0, .int (s0 ||| s1)]) (E_X6_drafted e18) rfl oX6_drafted iX6_drafted sX6_drafted kX6_189 rfl (show TM 0 = (6 + 5, 29) from rfl) rfl (Nat.le_of_ble_eq_true rfl) ⟨Nat.le_of_ble_eq_true rfl, Nat.le_of_ble_eq_true rfl⟩ ⟨rfl, rfl⟩ dX6_gathers_81 (st2 := [.int r17, .int l1, .ref 0, .int (s0 ||| s1)]) rfl ?_
    obtain ⟨r19, e20, h⟩ := ok_bind h
    refine go_cV (pc := 84) (ci := 6) (As := [.int l1, .int r17]) (st := [.int (s0 ||| s1)]) (E_X6_hasNumber e20) rfl oX6_hasNumber iX6_hasNumber sX6_hasNumber kX6_202 rfl (show TM 0 = (6 + 5, 29) from rfl) rfl (Nat.le_of_ble_eq_true rfl) ⟨Nat.le_of_ble_eq_true rfl, Nat.le_of_ble_eq_true rfl⟩ ⟨rfl, rfl⟩ dX6_gathers_84 (st2 := [.int r19, .int (s0 ||| s1)]) rfl ?_
    refine go_if_eq (pc := 87) (tgt := 94) dX6_gathers_87 rfl (fun c21 => ?_) (fun c21 => ?_)
    · replace h := ifp h c21
      refine go_iconst (pc := 94) (v := 0) dX6_gathers_94 ci_0 ?_
      refine go_ior (pc := 95) dX6_gathers_95 ?_
      refine go_istore_n (pc := 96) (i := 2) dX6_gathers_96 rfl (Nat.le_of_ble_eq_true rfl) (L2 := [some (.ref 0), some (.int l1), some (.int ((s0 ||| s1) ||| 0))]) rfl ?_
      refine go_iload_n (pc := 97) dX6_gathers_97 rfl rfl ?_
      obtain ⟨c22, h⟩ := ok_if h
      cases h
      exact go_iret (pc := 98) (Or.inr ⟨rfl, c22⟩) ⟨Nat.zero_le _, Nat.zero_le _⟩ dX6_gathers_98
    · replace h := ifn h c21
      refine go_iconst (pc := 90) (v := 1) dX6_gathers_90 ci_1 ?_
      refine go_goto (pc := 91) (tgt := 95) dX6_gathers_91 rfl ?_
      refine go_ior (pc := 95) dX6_gathers_95 ?_
      refine go_istore_n (pc := 96) (i := 2) dX6_gathers_96 rfl (Nat.le_of_ble_eq_true rfl) (L2 := [some (.ref 0), some (.int l1), some (.int ((s0 ||| s1) ||| 1))]) rfl ?_
      refine go_iload_n (pc := 97) dX6_gathers_97 rfl rfl ?_
      obtain ⟨c23, h⟩ := ok_if h
      cases h
      exact go_iret (pc := 98) (Or.inr ⟨rfl, c23⟩) ⟨Nat.zero_le _, Nat.zero_le _⟩ dX6_gathers_98
def eX6_gathers (a1 : Int32) (V : Mm) : Option (Int32) :=
  (eX6_mailPart 1 a1 1 V).bind fun r1 =>
  (eX6_drafted 3 V).bind fun r3 =>
  if r1 = r3 then
    (eX6_drafted 4 V).bind fun r6 =>
    (eX6_hasNumber a1 r6 V).bind fun r8 =>
    (eX6_drafted 5 V).bind fun r10 =>
    if r10 = 1000 then
      eX6_gathers_b61 a1 r8 0 V
    else
      (eX6_drafted 5 V).bind fun r24 =>
      (eX6_hasNumber a1 r24 V).bind fun r26 =>
      if r26 = 0 then
        eX6_gathers_b61 a1 r8 0 V
      else
        eX6_gathers_b61 a1 r8 1 V
  else
    some 0
set_option maxHeartbeats 4000000 in
set_option maxRecDepth 100000 in
theorem E_X6_gathers {a1 : Int32} {V : Mm} {res : Int32}  (h : eX6_gathers a1 V = some res) : Ev mX6_gathers [.ref 0, .int a1] (hM V) (some (.int res)) (hM V) := by
  refine Ev.of (n := 1) oX6_gathers.1 (Nat.le_of_ble_eq_true rfl) ?_
  unfold eX6_gathers at h
  show Go mX6_gathers 0 [some (.ref 0), some (.int a1), none] [] (hM V) 0 0 (some (.int res)) (hM V)
  refine go_aload_n (pc := 0) dX6_gathers_0 rfl rfl ?_
  refine go_aload_n (pc := 1) dX6_gathers_1 rfl rfl ?_
  refine go_getP (pc := 2) (a := 1) fX6_7 (by decide) (show TM 0 = (6 + 5, 29) from rfl) rfl dX6_gathers_2 ?_
  refine go_iload_n (pc := 5) dX6_gathers_5 rfl rfl ?_
  refine go_iconst (pc := 6) (v := 1) dX6_gathers_6 ci_1 ?_
  obtain ⟨r1, e2, h⟩ := ok_bind h
  refine go_cV (pc := 7) (ci := 6) (As := [.ref 1, .int a1, .int 1]) (st := []) (E_X6_mailPart isW_1 e2) rfl oX6_mailPart iX6_mailPart sX6_mailPart kX6_85 rfl (show TM 0 = (6 + 5, 29) from rfl) rfl (Nat.le_of_ble_eq_true rfl) ⟨Nat.le_of_ble_eq_true rfl, Nat.le_of_ble_eq_true rfl⟩ ⟨rfl, rfl⟩ dX6_gathers_7 (st2 := [.int r1]) rfl ?_
  refine go_aload_n (pc := 10) dX6_gathers_10 rfl rfl ?_
  refine go_iconst (pc := 11) (v := 3) dX6_gathers_11 ci_3 ?_
  obtain ⟨r3, e4, h⟩ := ok_bind h
  refine go_cV (pc := 12) (ci := 6) (As := [.int 3]) (st := [.int r1]) (E_X6_drafted e4) rfl oX6_drafted iX6_drafted sX6_drafted kX6_189 rfl (show TM 0 = (6 + 5, 29) from rfl) rfl (Nat.le_of_ble_eq_true rfl) ⟨Nat.le_of_ble_eq_true rfl, Nat.le_of_ble_eq_true rfl⟩ ⟨rfl, rfl⟩ dX6_gathers_12 (st2 := [.int r3, .int r1]) rfl ?_
  refine go_icmp_eq (pc := 15) (tgt := 20) dX6_gathers_15 rfl (fun c5 => ?_) (fun c5 => ?_)
  · replace h := ifp h c5
    refine go_aload_n (pc := 20) dX6_gathers_20 rfl rfl ?_
    refine go_iload_n (pc := 21) dX6_gathers_21 rfl rfl ?_
    refine go_aload_n (pc := 22) dX6_gathers_22 rfl rfl ?_
    refine go_iconst (pc := 23) (v := 4) dX6_gathers_23 ci_4 ?_
    obtain ⟨r6, e7, h⟩ := ok_bind h
    refine go_cV (pc := 24) (ci := 6) (As := [.int 4]) (st := [.int a1, .ref 0]) (E_X6_drafted e7) rfl oX6_drafted iX6_drafted sX6_drafted kX6_189 rfl (show TM 0 = (6 + 5, 29) from rfl) rfl (Nat.le_of_ble_eq_true rfl) ⟨Nat.le_of_ble_eq_true rfl, Nat.le_of_ble_eq_true rfl⟩ ⟨rfl, rfl⟩ dX6_gathers_24 (st2 := [.int r6, .int a1, .ref 0]) rfl ?_
    obtain ⟨r8, e9, h⟩ := ok_bind h
    refine go_cV (pc := 27) (ci := 6) (As := [.int a1, .int r6]) (st := []) (E_X6_hasNumber e9) rfl oX6_hasNumber iX6_hasNumber sX6_hasNumber kX6_202 rfl (show TM 0 = (6 + 5, 29) from rfl) rfl (Nat.le_of_ble_eq_true rfl) ⟨Nat.le_of_ble_eq_true rfl, Nat.le_of_ble_eq_true rfl⟩ ⟨rfl, rfl⟩ dX6_gathers_27 (st2 := [.int r8]) rfl ?_
    refine go_istore_n (pc := 30) (i := 2) dX6_gathers_30 rfl (Nat.le_of_ble_eq_true rfl) (L2 := [some (.ref 0), some (.int a1), some (.int r8)]) rfl ?_
    refine go_iload_n (pc := 31) dX6_gathers_31 rfl rfl ?_
    refine go_aload_n (pc := 32) dX6_gathers_32 rfl rfl ?_
    refine go_iconst (pc := 33) (v := 5) dX6_gathers_33 ci_5 ?_
    obtain ⟨r10, e11, h⟩ := ok_bind h
    refine go_cV (pc := 34) (ci := 6) (As := [.int 5]) (st := [.int r8]) (E_X6_drafted e11) rfl oX6_drafted iX6_drafted sX6_drafted kX6_189 rfl (show TM 0 = (6 + 5, 29) from rfl) rfl (Nat.le_of_ble_eq_true rfl) ⟨Nat.le_of_ble_eq_true rfl, Nat.le_of_ble_eq_true rfl⟩ ⟨rfl, rfl⟩ dX6_gathers_34 (st2 := [.int r10, .int r8]) rfl ?_
    refine go_sipush (pc := 37) (v := 1000) dX6_gathers_37 cs_1000 ?_
    refine go_icmp_eq (pc := 40) (tgt := 60) dX6_gathers_40 rfl (fun c12 => ?_) (fun c12 => ?_)
    · replace h := ifp h c12
      refine go_iconst (pc := 60) (v := 0) dX6_gathers_60 ci_0 ?_
      refine go_le (lle_s (lle_s (lle_n lle_0))) ?_
      exact gX6_gathers_b61  h
    · replace h := ifn h c12
      refine go_aload_n (pc := 43) dX6_gathers_43 rfl rfl ?_
      refine go_iload_n (pc := 44) dX6_gathers_44 rfl rfl ?_
      refine go_aload_n (pc := 45) dX6_gathers_45 rfl rfl ?_
      refine go_iconst (pc := 46) (v := 5) dX6_gathers_46 ci_5 ?_
      obtain ⟨r24, e25, h⟩ := ok_bind h
      refine go_cV (pc := 47) (ci := 6) (As := [.int 5]) (st := [.int a1, .ref 0, .int r8]) (E_X6_drafted e25) rfl oX6_drafted iX6_drafted sX6_drafted kX6_189 rfl (show TM 0 = (6 + 5, 29) from rfl) rfl (Nat.le_of_ble_eq_true rfl) ⟨Nat.le_of_ble_eq_true rfl, Nat.le_of_ble_eq_true rfl⟩ ⟨rfl, rfl⟩ dX6_gathers_47 (st2 := [.int r24, .int a1, .ref 0, .int r8]) rfl ?_
      obtain ⟨r26, e27, h⟩ := ok_bind h
      refine go_cV (pc := 50) (ci := 6) (As := [.int a1, .int r24]) (st := [.int r8]) (E_X6_hasNumber e27) rfl oX6_hasNumber iX6_hasNumber sX6_hasNumber kX6_202 rfl (show TM 0 = (6 + 5, 29) from rfl) rfl (Nat.le_of_ble_eq_true rfl) ⟨Nat.le_of_ble_eq_true rfl, Nat.le_of_ble_eq_true rfl⟩ ⟨rfl, rfl⟩ dX6_gathers_50 (st2 := [.int r26, .int r8]) rfl ?_
      refine go_if_eq (pc := 53) (tgt := 60) dX6_gathers_53 rfl (fun c28 => ?_) (fun c28 => ?_)
      · replace h := ifp h c28
        refine go_iconst (pc := 60) (v := 0) dX6_gathers_60 ci_0 ?_
        refine go_le (lle_s (lle_s (lle_n lle_0))) ?_
        exact gX6_gathers_b61  h
      · replace h := ifn h c28
        refine go_iconst (pc := 56) (v := 1) dX6_gathers_56 ci_1 ?_
        refine go_goto (pc := 57) (tgt := 61) dX6_gathers_57 rfl ?_
        refine go_le (lle_s (lle_s (lle_n lle_0))) ?_
        exact gX6_gathers_b61  h
  · replace h := ifn h c5
    refine go_iconst (pc := 18) (v := 0) dX6_gathers_18 ci_0 ?_
    cases h
    exact go_iret (pc := 19) (Or.inr ⟨rfl, Or.inl rfl⟩) ⟨Nat.zero_le _, Nat.zero_le _⟩ dX6_gathers_19
def eX6_isName (a0 : Int32) (V : Mm) : Option (Int32) :=
  (eX6_within a0 0 999 V).bind fun r1 =>
  if r1 = 0 then
    if a0 = 1000 then
      some 1
    else
      some 0
  else
    some 1
set_option maxHeartbeats 4000000 in
set_option maxRecDepth 100000 in
theorem E_X6_isName {a0 : Int32} {V : Mm} {res : Int32}  (h : eX6_isName a0 V = some res) : Ev mX6_isName [.int a0] (hM V) (some (.int res)) (hM V) := by
  refine Ev.of (n := 0) oX6_isName.1 (Nat.le_of_ble_eq_true rfl) ?_
  unfold eX6_isName at h
  show Go mX6_isName 0 [some (.int a0)] [] (hM V) 0 0 (some (.int res)) (hM V)
  refine go_iload_n (pc := 0) dX6_isName_0 rfl rfl ?_
  refine go_iconst (pc := 1) (v := 0) dX6_isName_1 ci_0 ?_
  refine go_sipush (pc := 2) (v := 999) dX6_isName_2 cs_999 ?_
  obtain ⟨r1, e2, h⟩ := ok_bind h
  refine go_cS (pc := 5) (As := [.int a0, .int 0, .int 999]) (st := []) (E_X6_within e2) rfl oX6_within iX6_within kX6_99 rfl (Nat.le_of_ble_eq_true rfl) ⟨Nat.le_of_ble_eq_true rfl, Nat.le_of_ble_eq_true rfl⟩ ⟨rfl, rfl⟩ dX6_isName_5 (st2 := [.int r1]) rfl ?_
  refine go_if_ne (pc := 8) (tgt := 18) dX6_isName_8 rfl (fun c3 => ?_) (fun c3 => ?_)
  · replace h := ifn h c3
    refine go_iconst (pc := 18) (v := 1) dX6_isName_18 ci_1 ?_
    refine go_goto (pc := 19) (tgt := 23) dX6_isName_19 rfl ?_
    cases h
    exact go_iret (pc := 23) (Or.inr ⟨rfl, Or.inr rfl⟩) ⟨Nat.zero_le _, Nat.zero_le _⟩ dX6_isName_23
  · replace h := ifp h c3
    refine go_iload_n (pc := 11) dX6_isName_11 rfl rfl ?_
    refine go_sipush (pc := 12) (v := 1000) dX6_isName_12 cs_1000 ?_
    refine go_icmp_ne (pc := 15) (tgt := 22) dX6_isName_15 rfl (fun c4 => ?_) (fun c4 => ?_)
    · replace h := ifn h c4
      refine go_iconst (pc := 22) (v := 0) dX6_isName_22 ci_0 ?_
      cases h
      exact go_iret (pc := 23) (Or.inr ⟨rfl, Or.inl rfl⟩) ⟨Nat.zero_le _, Nat.zero_le _⟩ dX6_isName_23
    · replace h := ifp h c4
      refine go_iconst (pc := 18) (v := 1) dX6_isName_18 ci_1 ?_
      refine go_goto (pc := 19) (tgt := 23) dX6_isName_19 rfl ?_
      cases h
      exact go_iret (pc := 23) (Or.inr ⟨rfl, Or.inr rfl⟩) ⟨Nat.zero_le _, Nat.zero_le _⟩ dX6_isName_23
def eX6_makeMail_b369 (l2 : Int32) (l3 : Int32) (l4 : Int32) (l5 : Int32) (s1 : Int32) (s2 : Int32) (V : Mm) : Option (Int32 × Mm) :=
  if s1 < 0 ∨ 586 ≤ s1.toNatClampNeg then none else
  (eX6_drafted 7 (wr V 1 s1.toNatClampNeg s2)).bind fun r39 =>
  if (l5 + 5) < 0 ∨ 586 ≤ (l5 + 5).toNatClampNeg then none else
  (eX6_drafted 8 (wr (wr V 1 s1.toNatClampNeg s2) 1 ((l5 + 5).toNatClampNeg) r39)).bind fun r42 =>
  if (l5 + 6) < 0 ∨ 586 ≤ (l5 + 6).toNatClampNeg then none else
  (eX6_drafted 9 (wr (wr (wr V 1 s1.toNatClampNeg s2) 1 ((l5 + 5).toNatClampNeg) r39) 1 ((l5 + 6).toNatClampNeg) r42)).bind fun r45 =>
  if (l5 + 7) < 0 ∨ 586 ≤ (l5 + 7).toNatClampNeg then none else
  if (l5 + 8) < 0 ∨ 586 ≤ (l5 + 8).toNatClampNeg then none else
  if (l5 + 9) < 0 ∨ 586 ≤ (l5 + 9).toNatClampNeg then none else
  (eX6_give (V 0 21) 1 l4 (wr (wr (wr (wr (wr (wr V 1 s1.toNatClampNeg s2) 1 ((l5 + 5).toNatClampNeg) r39) 1 ((l5 + 6).toNatClampNeg) r42) 1 ((l5 + 7).toNatClampNeg) r45) 1 ((l5 + 8).toNatClampNeg) l3) 1 ((l5 + 9).toNatClampNeg) (1 <<< (l2 &&& 31)))).bind fun r50 =>
  some (0, r50)
set_option maxHeartbeats 4000000 in
set_option maxRecDepth 100000 in
theorem gX6_makeMail_b369 {l2 : Int32} {l3 : Int32} {l4 : Int32} {l5 : Int32} {s1 : Int32} {s2 : Int32} {V : Mm} {res : Int32 × Mm}  (h : eX6_makeMail_b369 l2 l3 l4 l5 s1 s2 V = some res) : Go mX6_makeMail 369 [some (.ref 0), none, some (.int l2), some (.int l3), some (.int l4), some (.int l5)] [.int s2, .int s1, .ref 1] (hM V) 0 0 (some (.int res.1)) (hM res.2) := by
  unfold eX6_makeMail_b369 at h
  obtain ⟨c38, h⟩ := ok_not h
  refine go_iast (pc := 369) (show TM 1 = (0, 586) from rfl) (vin c38) dX6_makeMail_369 ?_
  refine go_aload_n (pc := 370) dX6_makeMail_370 rfl rfl ?_
  refine go_getP (pc := 371) (a := 1) fX6_7 (by decide) (show TM 0 = (6 + 5, 29) from rfl) rfl dX6_makeMail_371 ?_
  refine go_iload (pc := 374) dX6_makeMail_374 rfl ?_
  refine go_iconst (pc := 376) (v := 5) dX6_makeMail_376 ci_5 ?_
  refine go_iadd (pc := 377) dX6_makeMail_377 ?_
  refine go_aload_n (pc := 378) dX6_makeMail_378 rfl rfl ?_
  refine go_bipush (pc := 379) (v := 7) dX6_makeMail_379 cb_7 ?_
  obtain ⟨r39, e40, h⟩ := ok_bind h
  refine go_cV (pc := 381) (ci := 6) (As := [.int 7]) (st := [.int (l5 + 5), .ref 1]) (E_X6_drafted e40) rfl oX6_drafted iX6_drafted sX6_drafted kX6_189 rfl (show TM 0 = (6 + 5, 29) from rfl) rfl (Nat.le_of_ble_eq_true rfl) ⟨Nat.le_of_ble_eq_true rfl, Nat.le_of_ble_eq_true rfl⟩ ⟨rfl, rfl⟩ dX6_makeMail_381 (st2 := [.int r39, .int (l5 + 5), .ref 1]) rfl ?_
  obtain ⟨c41, h⟩ := ok_not h
  refine go_iast (pc := 384) (show TM 1 = (0, 586) from rfl) (vin c41) dX6_makeMail_384 ?_
  refine go_aload_n (pc := 385) dX6_makeMail_385 rfl rfl ?_
  refine go_getP (pc := 386) (a := 1) fX6_7 (by decide) (show TM 0 = (6 + 5, 29) from rfl) rfl dX6_makeMail_386 ?_
  refine go_iload (pc := 389) dX6_makeMail_389 rfl ?_
  refine go_bipush (pc := 391) (v := 6) dX6_makeMail_391 cb_6 ?_
  refine go_iadd (pc := 393) dX6_makeMail_393 ?_
  refine go_aload_n (pc := 394) dX6_makeMail_394 rfl rfl ?_
  refine go_bipush (pc := 395) (v := 8) dX6_makeMail_395 cb_8 ?_
  obtain ⟨r42, e43, h⟩ := ok_bind h
  refine go_cV (pc := 397) (ci := 6) (As := [.int 8]) (st := [.int (l5 + 6), .ref 1]) (E_X6_drafted e43) rfl oX6_drafted iX6_drafted sX6_drafted kX6_189 rfl (show TM 0 = (6 + 5, 29) from rfl) rfl (Nat.le_of_ble_eq_true rfl) ⟨Nat.le_of_ble_eq_true rfl, Nat.le_of_ble_eq_true rfl⟩ ⟨rfl, rfl⟩ dX6_makeMail_397 (st2 := [.int r42, .int (l5 + 6), .ref 1]) rfl ?_
  obtain ⟨c44, h⟩ := ok_not h
  refine go_iast (pc := 400) (show TM 1 = (0, 586) from rfl) (vin c44) dX6_makeMail_400 ?_
  refine go_aload_n (pc := 401) dX6_makeMail_401 rfl rfl ?_
  refine go_getP (pc := 402) (a := 1) fX6_7 (by decide) (show TM 0 = (6 + 5, 29) from rfl) rfl dX6_makeMail_402 ?_
  refine go_iload (pc := 405) dX6_makeMail_405 rfl ?_
  refine go_bipush (pc := 407) (v := 7) dX6_makeMail_407 cb_7 ?_
  refine go_iadd (pc := 409) dX6_makeMail_409 ?_
  refine go_aload_n (pc := 410) dX6_makeMail_410 rfl rfl ?_
  refine go_bipush (pc := 411) (v := 9) dX6_makeMail_411 cb_9 ?_
  obtain ⟨r45, e46, h⟩ := ok_bind h
  refine go_cV (pc := 413) (ci := 6) (As := [.int 9]) (st := [.int (l5 + 7), .ref 1]) (E_X6_drafted e46) rfl oX6_drafted iX6_drafted sX6_drafted kX6_189 rfl (show TM 0 = (6 + 5, 29) from rfl) rfl (Nat.le_of_ble_eq_true rfl) ⟨Nat.le_of_ble_eq_true rfl, Nat.le_of_ble_eq_true rfl⟩ ⟨rfl, rfl⟩ dX6_makeMail_413 (st2 := [.int r45, .int (l5 + 7), .ref 1]) rfl ?_
  obtain ⟨c47, h⟩ := ok_not h
  refine go_iast (pc := 416) (show TM 1 = (0, 586) from rfl) (vin c47) dX6_makeMail_416 ?_
  refine go_aload_n (pc := 417) dX6_makeMail_417 rfl rfl ?_
  refine go_getP (pc := 418) (a := 1) fX6_7 (by decide) (show TM 0 = (6 + 5, 29) from rfl) rfl dX6_makeMail_418 ?_
  refine go_iload (pc := 421) dX6_makeMail_421 rfl ?_
  refine go_bipush (pc := 423) (v := 8) dX6_makeMail_423 cb_8 ?_
  refine go_iadd (pc := 425) dX6_makeMail_425 ?_
  refine go_iload_n (pc := 426) dX6_makeMail_426 rfl rfl ?_
  obtain ⟨c48, h⟩ := ok_not h
  refine go_iast (pc := 427) (show TM 1 = (0, 586) from rfl) (vin c48) dX6_makeMail_427 ?_
  refine go_aload_n (pc := 428) dX6_makeMail_428 rfl rfl ?_
  refine go_getP (pc := 429) (a := 1) fX6_7 (by decide) (show TM 0 = (6 + 5, 29) from rfl) rfl dX6_makeMail_429 ?_
  refine go_iload (pc := 432) dX6_makeMail_432 rfl ?_
  refine go_bipush (pc := 434) (v := 9) dX6_makeMail_434 cb_9 ?_
  refine go_iadd (pc := 436) dX6_makeMail_436 ?_
  refine go_iconst (pc := 437) (v := 1) dX6_makeMail_437 ci_1 ?_
  refine go_iload_n (pc := 438) dX6_makeMail_438 rfl rfl ?_
  refine go_ishl (pc := 439) dX6_makeMail_439 ?_
  obtain ⟨c49, h⟩ := ok_not h
  refine go_iast (pc := 440) (show TM 1 = (0, 586) from rfl) (vin c49) dX6_makeMail_440 ?_
  refine go_aload_n (pc := 441) dX6_makeMail_441 rfl rfl ?_
  refine go_aload_n (pc := 442) dX6_makeMail_442 rfl rfl ?_
  refine go_gI (pc := 443) (v := V 0 21) fX6_129 (by decide) (show TM 0 = (6 + 5, 29) from rfl) dX6_makeMail_443 rfl ?_
  refine go_iconst (pc := 446) (v := 1) dX6_makeMail_446 ci_1 ?_
  refine go_iload (pc := 447) dX6_makeMail_447 rfl ?_
  obtain ⟨r50, e51, h⟩ := ok_bind h
  refine go_cV (pc := 449) (ci := 6) (As := [.int (V 0 21), .int 1, .int l4]) (st := []) (E_X6_give e51) rfl oX6_give iX6_give sX6_give kX6_162 rfl (show TM 0 = (6 + 5, 29) from rfl) rfl (Nat.le_of_ble_eq_true rfl) ⟨Nat.le_of_ble_eq_true rfl, Nat.le_of_ble_eq_true rfl⟩ ⟨rfl, rfl⟩ dX6_makeMail_449 (st2 := []) rfl ?_
  refine go_iconst (pc := 452) (v := 0) dX6_makeMail_452 ci_0 ?_
  cases h
  exact go_iret (pc := 453) (Or.inl rfl) ⟨Nat.zero_le _, Nat.zero_le _⟩ dX6_makeMail_453
def eX6_makeMail_b240 (l2 : Int32) (l3 : Int32) (V : Mm) : Option (Int32 × Mm) :=
  if (80 + (10 * (V 1 581))) < 0 ∨ 586 ≤ (80 + (10 * (V 1 581))).toNatClampNeg then none else
  (eX6_drafted 3 (wr (wr V 1 581 ((V 1 581) + 1)) 1 ((80 + (10 * (V 1 581))).toNatClampNeg) 1)).bind fun r21 =>
  if ((80 + (10 * (V 1 581))) + 1) < 0 ∨ 586 ≤ ((80 + (10 * (V 1 581))) + 1).toNatClampNeg then none else
  (eX6_drafted 4 (wr (wr (wr V 1 581 ((V 1 581) + 1)) 1 ((80 + (10 * (V 1 581))).toNatClampNeg) 1) 1 (((80 + (10 * (V 1 581))) + 1).toNatClampNeg) r21)).bind fun r24 =>
  if ((80 + (10 * (V 1 581))) + 2) < 0 ∨ 586 ≤ ((80 + (10 * (V 1 581))) + 2).toNatClampNeg then none else
  (eX6_drafted 5 (wr (wr (wr (wr V 1 581 ((V 1 581) + 1)) 1 ((80 + (10 * (V 1 581))).toNatClampNeg) 1) 1 (((80 + (10 * (V 1 581))) + 1).toNatClampNeg) r21) 1 (((80 + (10 * (V 1 581))) + 2).toNatClampNeg) r24)).bind fun r27 =>
  if r27 = 1000 then
    if ((80 + (10 * (V 1 581))) + 3) < 0 ∨ 586 ≤ ((80 + (10 * (V 1 581))) + 3).toNatClampNeg then none else
    (eX6_drafted 6 (wr (wr (wr (wr (wr V 1 581 ((V 1 581) + 1)) 1 ((80 + (10 * (V 1 581))).toNatClampNeg) 1) 1 (((80 + (10 * (V 1 581))) + 1).toNatClampNeg) r21) 1 (((80 + (10 * (V 1 581))) + 2).toNatClampNeg) r24) 1 (((80 + (10 * (V 1 581))) + 3).toNatClampNeg) (-9))).bind fun r53 =>
    if r53 = 1000 then
      eX6_makeMail_b369 l2 l3 (V 1 581) (80 + (10 * (V 1 581))) ((80 + (10 * (V 1 581))) + 4) (-9) (wr (wr (wr (wr (wr V 1 581 ((V 1 581) + 1)) 1 ((80 + (10 * (V 1 581))).toNatClampNeg) 1) 1 (((80 + (10 * (V 1 581))) + 1).toNatClampNeg) r21) 1 (((80 + (10 * (V 1 581))) + 2).toNatClampNeg) r24) 1 (((80 + (10 * (V 1 581))) + 3).toNatClampNeg) (-9))
    else
      (eX6_drafted 6 (wr (wr (wr (wr (wr V 1 581 ((V 1 581) + 1)) 1 ((80 + (10 * (V 1 581))).toNatClampNeg) 1) 1 (((80 + (10 * (V 1 581))) + 1).toNatClampNeg) r21) 1 (((80 + (10 * (V 1 581))) + 2).toNatClampNeg) r24) 1 (((80 + (10 * (V 1 581))) + 3).toNatClampNeg) (-9))).bind fun r56 =>
      eX6_makeMail_b369 l2 l3 (V 1 581) (80 + (10 * (V 1 581))) ((80 + (10 * (V 1 581))) + 4) r56 (wr (wr (wr (wr (wr V 1 581 ((V 1 581) + 1)) 1 ((80 + (10 * (V 1 581))).toNatClampNeg) 1) 1 (((80 + (10 * (V 1 581))) + 1).toNatClampNeg) r21) 1 (((80 + (10 * (V 1 581))) + 2).toNatClampNeg) r24) 1 (((80 + (10 * (V 1 581))) + 3).toNatClampNeg) (-9))
  else
    (eX6_drafted 5 (wr (wr (wr (wr V 1 581 ((V 1 581) + 1)) 1 ((80 + (10 * (V 1 581))).toNatClampNeg) 1) 1 (((80 + (10 * (V 1 581))) + 1).toNatClampNeg) r21) 1 (((80 + (10 * (V 1 581))) + 2).toNatClampNeg) r24)).bind fun r30 =>
    if ((80 + (10 * (V 1 581))) + 3) < 0 ∨ 586 ≤ ((80 + (10 * (V 1 581))) + 3).toNatClampNeg then none else
    (eX6_drafted 6 (wr (wr (wr (wr (wr V 1 581 ((V 1 581) + 1)) 1 ((80 + (10 * (V 1 581))).toNatClampNeg) 1) 1 (((80 + (10 * (V 1 581))) + 1).toNatClampNeg) r21) 1 (((80 + (10 * (V 1 581))) + 2).toNatClampNeg) r24) 1 (((80 + (10 * (V 1 581))) + 3).toNatClampNeg) r30)).bind fun r33 =>
    if r33 = 1000 then
      eX6_makeMail_b369 l2 l3 (V 1 581) (80 + (10 * (V 1 581))) ((80 + (10 * (V 1 581))) + 4) (-9) (wr (wr (wr (wr (wr V 1 581 ((V 1 581) + 1)) 1 ((80 + (10 * (V 1 581))).toNatClampNeg) 1) 1 (((80 + (10 * (V 1 581))) + 1).toNatClampNeg) r21) 1 (((80 + (10 * (V 1 581))) + 2).toNatClampNeg) r24) 1 (((80 + (10 * (V 1 581))) + 3).toNatClampNeg) r30)
    else
      (eX6_drafted 6 (wr (wr (wr (wr (wr V 1 581 ((V 1 581) + 1)) 1 ((80 + (10 * (V 1 581))).toNatClampNeg) 1) 1 (((80 + (10 * (V 1 581))) + 1).toNatClampNeg) r21) 1 (((80 + (10 * (V 1 581))) + 2).toNatClampNeg) r24) 1 (((80 + (10 * (V 1 581))) + 3).toNatClampNeg) r30)).bind fun r36 =>
      eX6_makeMail_b369 l2 l3 (V 1 581) (80 + (10 * (V 1 581))) ((80 + (10 * (V 1 581))) + 4) r36 (wr (wr (wr (wr (wr V 1 581 ((V 1 581) + 1)) 1 ((80 + (10 * (V 1 581))).toNatClampNeg) 1) 1 (((80 + (10 * (V 1 581))) + 1).toNatClampNeg) r21) 1 (((80 + (10 * (V 1 581))) + 2).toNatClampNeg) r24) 1 (((80 + (10 * (V 1 581))) + 3).toNatClampNeg) r30)
set_option maxHeartbeats 4000000 in
set_option maxRecDepth 100000 in
theorem gX6_makeMail_b240 {l2 : Int32} {l3 : Int32} {V : Mm} {res : Int32 × Mm}  (h : eX6_makeMail_b240 l2 l3 V = some res) : Go mX6_makeMail 240 [some (.ref 0), none, some (.int l2), some (.int l3), none, none] [] (hM V) 0 0 (some (.int res.1)) (hM res.2) := by
  unfold eX6_makeMail_b240 at h
  refine go_aload_n (pc := 240) dX6_makeMail_240 rfl rfl ?_
  refine go_getP (pc := 241) (a := 1) fX6_7 (by decide) (show TM 0 = (6 + 5, 29) from rfl) rfl dX6_makeMail_241 ?_
  refine go_sipush (pc := 244) (v := 581) dX6_makeMail_244 cs_581 ?_
  refine go_ia (pc := 247) (v := V 1 581) (show TM 1 = (0, 586) from rfl) (vin (by decide)) dX6_makeMail_247 rfl ?_
  refine go_istore (pc := 248) (i := 4) dX6_makeMail_248 (Nat.le_of_ble_eq_true rfl) (L2 := [some (.ref 0), none, some (.int l2), some (.int l3), some (.int (V 1 581)), none]) rfl ?_
  refine go_aload_n (pc := 250) dX6_makeMail_250 rfl rfl ?_
  refine go_getP (pc := 251) (a := 1) fX6_7 (by decide) (show TM 0 = (6 + 5, 29) from rfl) rfl dX6_makeMail_251 ?_
  refine go_sipush (pc := 254) (v := 581) dX6_makeMail_254 cs_581 ?_
  refine go_dup2 (pc := 257) dX6_makeMail_257 ?_
  refine go_ia (pc := 258) (v := V 1 581) (show TM 1 = (0, 586) from rfl) (vin (by decide)) dX6_makeMail_258 rfl ?_
  refine go_iconst (pc := 259) (v := 1) dX6_makeMail_259 ci_1 ?_
  refine go_iadd (pc := 260) dX6_makeMail_260 ?_
  refine go_iast (pc := 261) (show TM 1 = (0, 586) from rfl) (vin (by decide)) dX6_makeMail_261 ?_
  refine go_bipush (pc := 262) (v := 80) dX6_makeMail_262 cb_80 ?_
  refine go_bipush (pc := 264) (v := 10) dX6_makeMail_264 cb_10 ?_
  refine go_iload (pc := 266) dX6_makeMail_266 rfl ?_
  refine go_imul (pc := 268) dX6_makeMail_268 ?_
  refine go_iadd (pc := 269) dX6_makeMail_269 ?_
  refine go_istore (pc := 270) (i := 5) dX6_makeMail_270 (Nat.le_of_ble_eq_true rfl) (L2 := [some (.ref 0), none, some (.int l2), some (.int l3), some (.int (V 1 581)), some (.int (80 + (10 * (V 1 581))))]) rfl ?_
  refine go_aload_n (pc := 272) dX6_makeMail_272 rfl rfl ?_
  refine go_getP (pc := 273) (a := 1) fX6_7 (by decide) (show TM 0 = (6 + 5, 29) from rfl) rfl dX6_makeMail_273 ?_
  refine go_iload (pc := 276) dX6_makeMail_276 rfl ?_
  refine go_iconst (pc := 278) (v := 1) dX6_makeMail_278 ci_1 ?_
  obtain ⟨c20, h⟩ := ok_not h
  refine go_iast (pc := 279) (show TM 1 = (0, 586) from rfl) (vin c20) dX6_makeMail_279 ?_
  refine go_aload_n (pc := 280) dX6_makeMail_280 rfl rfl ?_
  refine go_getP (pc := 281) (a := 1) fX6_7 (by decide) (show TM 0 = (6 + 5, 29) from rfl) rfl dX6_makeMail_281 ?_
  refine go_iload (pc := 284) dX6_makeMail_284 rfl ?_
  refine go_iconst (pc := 286) (v := 1) dX6_makeMail_286 ci_1 ?_
  refine go_iadd (pc := 287) dX6_makeMail_287 ?_
  refine go_aload_n (pc := 288) dX6_makeMail_288 rfl rfl ?_
  refine go_iconst (pc := 289) (v := 3) dX6_makeMail_289 ci_3 ?_
  obtain ⟨r21, e22, h⟩ := ok_bind h
  refine go_cV (pc := 290) (ci := 6) (As := [.int 3]) (st := [.int ((80 + (10 * (V 1 581))) + 1), .ref 1]) (E_X6_drafted e22) rfl oX6_drafted iX6_drafted sX6_drafted kX6_189 rfl (show TM 0 = (6 + 5, 29) from rfl) rfl (Nat.le_of_ble_eq_true rfl) ⟨Nat.le_of_ble_eq_true rfl, Nat.le_of_ble_eq_true rfl⟩ ⟨rfl, rfl⟩ dX6_makeMail_290 (st2 := [.int r21, .int ((80 + (10 * (V 1 581))) + 1), .ref 1]) rfl ?_
  obtain ⟨c23, h⟩ := ok_not h
  refine go_iast (pc := 293) (show TM 1 = (0, 586) from rfl) (vin c23) dX6_makeMail_293 ?_
  refine go_aload_n (pc := 294) dX6_makeMail_294 rfl rfl ?_
  refine go_getP (pc := 295) (a := 1) fX6_7 (by decide) (show TM 0 = (6 + 5, 29) from rfl) rfl dX6_makeMail_295 ?_
  refine go_iload (pc := 298) dX6_makeMail_298 rfl ?_
  refine go_iconst (pc := 300) (v := 2) dX6_makeMail_300 ci_2 ?_
  refine go_iadd (pc := 301) dX6_makeMail_301 ?_
  refine go_aload_n (pc := 302) dX6_makeMail_302 rfl rfl ?_
  refine go_iconst (pc := 303) (v := 4) dX6_makeMail_303 ci_4 ?_
  obtain ⟨r24, e25, h⟩ := ok_bind h
  refine go_cV (pc := 304) (ci := 6) (As := [.int 4]) (st := [.int ((80 + (10 * (V 1 581))) + 2), .ref 1]) (E_X6_drafted e25) rfl oX6_drafted iX6_drafted sX6_drafted kX6_189 rfl (show TM 0 = (6 + 5, 29) from rfl) rfl (Nat.le_of_ble_eq_true rfl) ⟨Nat.le_of_ble_eq_true rfl, Nat.le_of_ble_eq_true rfl⟩ ⟨rfl, rfl⟩ dX6_makeMail_304 (st2 := [.int r24, .int ((80 + (10 * (V 1 581))) + 2), .ref 1]) rfl ?_
  obtain ⟨c26, h⟩ := ok_not h
  refine go_iast (pc := 307) (show TM 1 = (0, 586) from rfl) (vin c26) dX6_makeMail_307 ?_
  refine go_aload_n (pc := 308) dX6_makeMail_308 rfl rfl ?_
  refine go_getP (pc := 309) (a := 1) fX6_7 (by decide) (show TM 0 = (6 + 5, 29) from rfl) rfl dX6_makeMail_309 ?_
  refine go_iload (pc := 312) dX6_makeMail_312 rfl ?_
  refine go_iconst (pc := 314) (v := 3) dX6_makeMail_314 ci_3 ?_
  refine go_iadd (pc := 315) dX6_makeMail_315 ?_
  refine go_aload_n (pc := 316) dX6_makeMail_316 rfl rfl ?_
  refine go_iconst (pc := 317) (v := 5) dX6_makeMail_317 ci_5 ?_
  obtain ⟨r27, e28, h⟩ := ok_bind h
  refine go_cV (pc := 318) (ci := 6) (As := [.int 5]) (st := [.int ((80 + (10 * (V 1 581))) + 3), .ref 1]) (E_X6_drafted e28) rfl oX6_drafted iX6_drafted sX6_drafted kX6_189 rfl (show TM 0 = (6 + 5, 29) from rfl) rfl (Nat.le_of_ble_eq_true rfl) ⟨Nat.le_of_ble_eq_true rfl, Nat.le_of_ble_eq_true rfl⟩ ⟨rfl, rfl⟩ dX6_makeMail_318 (st2 := [.int r27, .int ((80 + (10 * (V 1 581))) + 3), .ref 1]) rfl ?_
  refine go_sipush (pc := 321) (v := 1000) dX6_makeMail_321 cs_1000 ?_
  refine go_icmp_ne (pc := 324) (tgt := 332) dX6_makeMail_324 rfl (fun c29 => ?_) (fun c29 => ?_)
  · replace h := ifn h c29
    refine go_aload_n (pc := 332) dX6_makeMail_332 rfl rfl ?_
    refine go_iconst (pc := 333) (v := 5) dX6_makeMail_333 ci_5 ?_
    obtain ⟨r30, e31, h⟩ := ok_bind h
    refine go_cV (pc := 334) (ci := 6) (As := [.int 5]) (st := [.int ((80 + (10 * (V 1 581))) + 3), .ref 1]) (E_X6_drafted e31) rfl oX6_drafted iX6_drafted sX6_drafted kX6_189 rfl (show TM 0 = (6 + 5, 29) from rfl) rfl (Nat.le_of_ble_eq_true rfl) ⟨Nat.le_of_ble_eq_true rfl, Nat.le_of_ble_eq_true rfl⟩ ⟨rfl, rfl⟩ dX6_makeMail_334 (st2 := [.int r30, .int ((80 + (10 * (V 1 581))) + 3), .ref 1]) rfl ?_
    obtain ⟨c32, h⟩ := ok_not h
    refine go_iast (pc := 337) (show TM 1 = (0, 586) from rfl) (vin c32) dX6_makeMail_337 ?_
    refine go_aload_n (pc := 338) dX6_makeMail_338 rfl rfl ?_
    refine go_getP (pc := 339) (a := 1) fX6_7 (by decide) (show TM 0 = (6 + 5, 29) from rfl) rfl dX6_makeMail_339 ?_
    refine go_iload (pc := 342) dX6_makeMail_342 rfl ?_
    refine go_iconst (pc := 344) (v := 4) dX6_makeMail_344 ci_4 ?_
    refine go_iadd (pc := 345) dX6_makeMail_345 ?_
    refine go_aload_n (pc := 346) dX6_makeMail_346 rfl rfl ?_
    refine go_bipush (pc := 347) (v := 6) dX6_makeMail_347 cb_6 ?_
    obtain ⟨r33, e34, h⟩ := ok_bind h
    refine go_cV (pc := 349) (ci := 6) (As := [.int 6]) (st := [.int ((80 + (10 * (V 1 581))) + 4), .ref 1]) (E_X6_drafted e34) rfl oX6_drafted iX6_drafted sX6_drafted kX6_189 rfl (show TM 0 = (6 + 5, 29) from rfl) rfl (Nat.le_of_ble_eq_true rfl) ⟨Nat.le_of_ble_eq_true rfl, Nat.le_of_ble_eq_true rfl⟩ ⟨rfl, rfl⟩ dX6_makeMail_349 (st2 := [.int r33, .int ((80 + (10 * (V 1 581))) + 4), .ref 1]) rfl ?_
    refine go_sipush (pc := 352) (v := 1000) dX6_makeMail_352 cs_1000 ?_
    refine go_icmp_ne (pc := 355) (tgt := 363) dX6_makeMail_355 rfl (fun c35 => ?_) (fun c35 => ?_)
    · replace h := ifn h c35
      refine go_aload_n (pc := 363) dX6_makeMail_363 rfl rfl ?_
      refine go_bipush (pc := 364) (v := 6) dX6_makeMail_364 cb_6 ?_
      obtain ⟨r36, e37, h⟩ := ok_bind h
      refine go_cV (pc := 366) (ci := 6) (As := [.int 6]) (st := [.int ((80 + (10 * (V 1 581))) + 4), .ref 1]) (E_X6_drafted e37) rfl oX6_drafted iX6_drafted sX6_drafted kX6_189 rfl (show TM 0 = (6 + 5, 29) from rfl) rfl (Nat.le_of_ble_eq_true rfl) ⟨Nat.le_of_ble_eq_true rfl, Nat.le_of_ble_eq_true rfl⟩ ⟨rfl, rfl⟩ dX6_makeMail_366 (st2 := [.int r36, .int ((80 + (10 * (V 1 581))) + 4), .ref 1]) rfl ?_
      exact gX6_makeMail_b369  h
    · replace h := ifp h c35
      refine go_bipush (pc := 358) (v := (-9)) dX6_makeMail_358 cb_m9 ?_
      refine go_goto (pc := 360) (tgt := 369) dX6_makeMail_360 rfl ?_
      exact gX6_makeMail_b369  h
  · replace h := ifp h c29
    refine go_bipush (pc := 327) (v := (-9)) dX6_makeMail_327 cb_m9 ?_
    refine go_goto (pc := 329) (tgt := 337) dX6_makeMail_329 rfl ?_
    obtain ⟨c52, h⟩ := ok_not h
    refine go_iast (pc := 337) (show TM 1 = (0, 586) from rfl) (vin c52) dX6_makeMail_337 ?_
    refine go_aload_n (pc := 338) dX6_makeMail_338 rfl rfl ?_
    refine go_getP (pc := 339) (a := 1) fX6_7 (by decide) (show TM 0 = (6 + 5, 29) from rfl) rfl dX6_makeMail_339 ?_
    refine go_iload (pc := 342) dX6_makeMail_342 rfl ?_
    refine go_iconst (pc := 344) (v := 4) dX6_makeMail_344 ci_4 ?_
    refine go_iadd (pc := 345) dX6_makeMail_345 ?_
    refine go_aload_n (pc := 346) dX6_makeMail_346 rfl rfl ?_
    refine go_bipush (pc := 347) (v := 6) dX6_makeMail_347 cb_6 ?_
    obtain ⟨r53, e54, h⟩ := ok_bind h
    refine go_cV (pc := 349) (ci := 6) (As := [.int 6]) (st := [.int ((80 + (10 * (V 1 581))) + 4), .ref 1]) (E_X6_drafted e54) rfl oX6_drafted iX6_drafted sX6_drafted kX6_189 rfl (show TM 0 = (6 + 5, 29) from rfl) rfl (Nat.le_of_ble_eq_true rfl) ⟨Nat.le_of_ble_eq_true rfl, Nat.le_of_ble_eq_true rfl⟩ ⟨rfl, rfl⟩ dX6_makeMail_349 (st2 := [.int r53, .int ((80 + (10 * (V 1 581))) + 4), .ref 1]) rfl ?_
    refine go_sipush (pc := 352) (v := 1000) dX6_makeMail_352 cs_1000 ?_
    refine go_icmp_ne (pc := 355) (tgt := 363) dX6_makeMail_355 rfl (fun c55 => ?_) (fun c55 => ?_)
    · replace h := ifn h c55
      refine go_aload_n (pc := 363) dX6_makeMail_363 rfl rfl ?_
      refine go_bipush (pc := 364) (v := 6) dX6_makeMail_364 cb_6 ?_
      obtain ⟨r56, e57, h⟩ := ok_bind h
      refine go_cV (pc := 366) (ci := 6) (As := [.int 6]) (st := [.int ((80 + (10 * (V 1 581))) + 4), .ref 1]) (E_X6_drafted e57) rfl oX6_drafted iX6_drafted sX6_drafted kX6_189 rfl (show TM 0 = (6 + 5, 29) from rfl) rfl (Nat.le_of_ble_eq_true rfl) ⟨Nat.le_of_ble_eq_true rfl, Nat.le_of_ble_eq_true rfl⟩ ⟨rfl, rfl⟩ dX6_makeMail_366 (st2 := [.int r56, .int ((80 + (10 * (V 1 581))) + 4), .ref 1]) rfl ?_
      exact gX6_makeMail_b369  h
    · replace h := ifp h c55
      refine go_bipush (pc := 358) (v := (-9)) dX6_makeMail_358 cb_m9 ?_
      refine go_goto (pc := 360) (tgt := 369) dX6_makeMail_360 rfl ?_
      exact gX6_makeMail_b369  h
def eX6_makeMail_b167 : Nat → Int32 → Int32 → Int32 → Mm → Option (Int32 × Mm)
  | 0, _, _, _, _ => none
  | n + 1, l2, l3, l4, V => 
    if l4 < 0 then
      if l3 = (-9) then
        eX6_makeMail_b240 l2 (V 1 582) (wr V 1 582 ((V 1 582) + 1))
      else
        eX6_makeMail_b240 l2 l3 V
    else
      (eX6_isMail 1 l4 V).bind fun r58 =>
      if r58 = 0 then
        eX6_makeMail_b167 n l2 l3 (l4 + (-1)) V
      else
        (eX6_gathers l4 V).bind fun r61 =>
        if r61 = 0 then
          eX6_makeMail_b167 n l2 l3 (l4 + (-1)) V
        else
          (eX6_mailPart 1 l4 8 V).bind fun r64 =>
          eX6_makeMail_b167 n l2 r64 (l4 + (-1)) V
set_option maxHeartbeats 4000000 in
set_option maxRecDepth 100000 in
theorem gX6_makeMail_b167 : ∀ (n : Nat) (l2 : Int32) (l3 : Int32) (l4 : Int32) (V : Mm) (res : Int32 × Mm) , eX6_makeMail_b167 n l2 l3 l4 V = some res → Go mX6_makeMail 167 [some (.ref 0), none, some (.int l2), some (.int l3), some (.int l4), none] [] (hM V) 0 0 (some (.int res.1)) (hM res.2) := by
  intro n
  induction n with
  | zero =>
    intro l2 l3 l4 V res  h
    cases h
  | succ n ih =>
    intro l2 l3 l4 V res  h
    rw [eX6_makeMail_b167] at h
    refine go_iload (pc := 167) dX6_makeMail_167 rfl ?_
    refine go_if_lt (pc := 169) (tgt := 213) dX6_makeMail_169 rfl (fun c18 => ?_) (fun c18 => ?_)
    · replace h := ifp h c18
      refine go_iload_n (pc := 213) dX6_makeMail_213 rfl rfl ?_
      refine go_bipush (pc := 214) (v := (-9)) dX6_makeMail_214 cb_m9 ?_
      refine go_icmp_ne (pc := 216) (tgt := 240) dX6_makeMail_216 rfl (fun c19 => ?_) (fun c19 => ?_)
      · replace h := ifn h c19
        refine go_le (lle_s (lle_n (lle_s (lle_s (lle_n (lle_n lle_0)))))) ?_
        exact gX6_makeMail_b240  h
      · replace h := ifp h c19
        refine go_aload_n (pc := 219) dX6_makeMail_219 rfl rfl ?_
        refine go_getP (pc := 220) (a := 1) fX6_7 (by decide) (show TM 0 = (6 + 5, 29) from rfl) rfl dX6_makeMail_220 ?_
        refine go_sipush (pc := 223) (v := 582) dX6_makeMail_223 cs_582 ?_
        refine go_ia (pc := 226) (v := V 1 582) (show TM 1 = (0, 586) from rfl) (vin (by decide)) dX6_makeMail_226 rfl ?_
        refine go_istore_n (pc := 227) (i := 3) dX6_makeMail_227 rfl (Nat.le_of_ble_eq_true rfl) (L2 := [some (.ref 0), none, some (.int l2), some (.int (V 1 582)), some (.int l4), none]) rfl ?_
        refine go_aload_n (pc := 228) dX6_makeMail_228 rfl rfl ?_
        refine go_getP (pc := 229) (a := 1) fX6_7 (by decide) (show TM 0 = (6 + 5, 29) from rfl) rfl dX6_makeMail_229 ?_
        refine go_sipush (pc := 232) (v := 582) dX6_makeMail_232 cs_582 ?_
        refine go_dup2 (pc := 235) dX6_makeMail_235 ?_
        refine go_ia (pc := 236) (v := V 1 582) (show TM 1 = (0, 586) from rfl) (vin (by decide)) dX6_makeMail_236 rfl ?_
        refine go_iconst (pc := 237) (v := 1) dX6_makeMail_237 ci_1 ?_
        refine go_iadd (pc := 238) dX6_makeMail_238 ?_
        refine go_iast (pc := 239) (show TM 1 = (0, 586) from rfl) (vin (by decide)) dX6_makeMail_239 ?_
        refine go_le (lle_s (lle_n (lle_s (lle_s (lle_n (lle_n lle_0)))))) ?_
        exact gX6_makeMail_b240  h
    · replace h := ifn h c18
      refine go_aload_n (pc := 172) dX6_makeMail_172 rfl rfl ?_
      refine go_aload_n (pc := 173) dX6_makeMail_173 rfl rfl ?_
      refine go_getP (pc := 174) (a := 1) fX6_7 (by decide) (show TM 0 = (6 + 5, 29) from rfl) rfl dX6_makeMail_174 ?_
      refine go_iload (pc := 177) dX6_makeMail_177 rfl ?_
      obtain ⟨r58, e59, h⟩ := ok_bind h
      refine go_cV (pc := 179) (ci := 6) (As := [.ref 1, .int l4]) (st := []) (E_X6_isMail isW_1 e59) rfl oX6_isMail iX6_isMail sX6_isMail kX6_81 rfl (show TM 0 = (6 + 5, 29) from rfl) rfl (Nat.le_of_ble_eq_true rfl) ⟨Nat.le_of_ble_eq_true rfl, Nat.le_of_ble_eq_true rfl⟩ ⟨rfl, rfl⟩ dX6_makeMail_179 (st2 := [.int r58]) rfl ?_
      refine go_if_eq (pc := 182) (tgt := 207) dX6_makeMail_182 rfl (fun c60 => ?_) (fun c60 => ?_)
      · replace h := ifp h c60
        refine go_iinc (pc := 207) (v := (l4 + (-1))) dX6_makeMail_207 rfl (by rw [ci_m1]) (Nat.le_of_ble_eq_true rfl) (L2 := [some (.ref 0), none, some (.int l2), some (.int l3), some (.int (l4 + (-1))), none]) rfl ?_
        refine go_goto (pc := 210) (tgt := 167) dX6_makeMail_210 rfl ?_
        exact ih _ _ _ _ _  h
      · replace h := ifn h c60
        refine go_aload_n (pc := 185) dX6_makeMail_185 rfl rfl ?_
        refine go_iload (pc := 186) dX6_makeMail_186 rfl ?_
        obtain ⟨r61, e62, h⟩ := ok_bind h
        refine go_cV (pc := 188) (ci := 6) (As := [.int l4]) (st := []) (E_X6_gathers e62) rfl oX6_gathers iX6_gathers sX6_gathers kX6_208 rfl (show TM 0 = (6 + 5, 29) from rfl) rfl (Nat.le_of_ble_eq_true rfl) ⟨Nat.le_of_ble_eq_true rfl, Nat.le_of_ble_eq_true rfl⟩ ⟨rfl, rfl⟩ dX6_makeMail_188 (st2 := [.int r61]) rfl ?_
        refine go_if_eq (pc := 191) (tgt := 207) dX6_makeMail_191 rfl (fun c63 => ?_) (fun c63 => ?_)
        · replace h := ifp h c63
          refine go_iinc (pc := 207) (v := (l4 + (-1))) dX6_makeMail_207 rfl (by rw [ci_m1]) (Nat.le_of_ble_eq_true rfl) (L2 := [some (.ref 0), none, some (.int l2), some (.int l3), some (.int (l4 + (-1))), none]) rfl ?_
          refine go_goto (pc := 210) (tgt := 167) dX6_makeMail_210 rfl ?_
          exact ih _ _ _ _ _  h
        · replace h := ifn h c63
          refine go_aload_n (pc := 194) dX6_makeMail_194 rfl rfl ?_
          refine go_aload_n (pc := 195) dX6_makeMail_195 rfl rfl ?_
          refine go_getP (pc := 196) (a := 1) fX6_7 (by decide) (show TM 0 = (6 + 5, 29) from rfl) rfl dX6_makeMail_196 ?_
          refine go_iload (pc := 199) dX6_makeMail_199 rfl ?_
          refine go_bipush (pc := 201) (v := 8) dX6_makeMail_201 cb_8 ?_
          obtain ⟨r64, e65, h⟩ := ok_bind h
          refine go_cV (pc := 203) (ci := 6) (As := [.ref 1, .int l4, .int 8]) (st := []) (E_X6_mailPart isW_1 e65) rfl oX6_mailPart iX6_mailPart sX6_mailPart kX6_85 rfl (show TM 0 = (6 + 5, 29) from rfl) rfl (Nat.le_of_ble_eq_true rfl) ⟨Nat.le_of_ble_eq_true rfl, Nat.le_of_ble_eq_true rfl⟩ ⟨rfl, rfl⟩ dX6_makeMail_203 (st2 := [.int r64]) rfl ?_
          refine go_istore_n (pc := 206) (i := 3) dX6_makeMail_206 rfl (Nat.le_of_ble_eq_true rfl) (L2 := [some (.ref 0), none, some (.int l2), some (.int r64), some (.int l4), none]) rfl ?_
          refine go_iinc (pc := 207) (v := (l4 + (-1))) dX6_makeMail_207 rfl (by rw [ci_m1]) (Nat.le_of_ble_eq_true rfl) (L2 := [some (.ref 0), none, some (.int l2), some (.int r64), some (.int (l4 + (-1))), none]) rfl ?_
          refine go_goto (pc := 210) (tgt := 167) dX6_makeMail_210 rfl ?_
          exact ih _ _ _ _ _  h
def eX6_makeMail_b89 (s0 : Int32) (V : Mm) : Option (Int32 × Mm) :=
  if s0 = 0 then
    some ((-2), V)
  else
    (eX6_number 1 V).bind fun r5 =>
    (eX6_isOne r5 V).bind fun r7 =>
    if r7 = 0 then
      some ((-5), V)
    else
      (eX6_number 1 V).bind fun r10 =>
      (eX6_oneOf r10 V).bind fun r12 =>
      (eX6_isBox 1 r12 V).bind fun r14 =>
      if r14 = 0 then
        some ((-1), V)
      else
        if (V 1 581) = 50 then
          some ((-4), V)
        else
          eX6_makeMail_b167 fu r12 (-9) ((V 1 581) - 1) V
set_option maxHeartbeats 4000000 in
set_option maxRecDepth 100000 in
theorem gX6_makeMail_b89 {s0 : Int32} {V : Mm} {res : Int32 × Mm}  (h : eX6_makeMail_b89 s0 V = some res) : Go mX6_makeMail 89 [some (.ref 0), none, none, none, none, none] [.int s0] (hM V) 0 0 (some (.int res.1)) (hM res.2) := by
  unfold eX6_makeMail_b89 at h
  refine go_istore_n (pc := 89) (i := 1) dX6_makeMail_89 rfl (Nat.le_of_ble_eq_true rfl) (L2 := [some (.ref 0), some (.int s0), none, none, none, none]) rfl ?_
  refine go_iload_n (pc := 90) dX6_makeMail_90 rfl rfl ?_
  refine go_if_ne (pc := 91) (tgt := 97) dX6_makeMail_91 rfl (fun c4 => ?_) (fun c4 => ?_)
  · replace h := ifn h c4
    refine go_aload_n (pc := 97) dX6_makeMail_97 rfl rfl ?_
    refine go_aload_n (pc := 98) dX6_makeMail_98 rfl rfl ?_
    refine go_iconst (pc := 99) (v := 1) dX6_makeMail_99 ci_1 ?_
    obtain ⟨r5, e6, h⟩ := ok_bind h
    refine go_cV (pc := 100) (ci := 6) (As := [.int 1]) (st := [.ref 0]) (E_X6_number e6) rfl oX6_number iX6_number sX6_number kX6_146 rfl (show TM 0 = (6 + 5, 29) from rfl) rfl (Nat.le_of_ble_eq_true rfl) ⟨Nat.le_of_ble_eq_true rfl, Nat.le_of_ble_eq_true rfl⟩ ⟨rfl, rfl⟩ dX6_makeMail_100 (st2 := [.int r5, .ref 0]) rfl ?_
    obtain ⟨r7, e8, h⟩ := ok_bind h
    refine go_cV (pc := 103) (ci := 6) (As := [.int r5]) (st := []) (E_X6_isOne e8) rfl oX6_isOne iX6_isOne sX6_isOne kX6_136 rfl (show TM 0 = (6 + 5, 29) from rfl) rfl (Nat.le_of_ble_eq_true rfl) ⟨Nat.le_of_ble_eq_true rfl, Nat.le_of_ble_eq_true rfl⟩ ⟨rfl, rfl⟩ dX6_makeMail_103 (st2 := [.int r7]) rfl ?_
    refine go_if_ne (pc := 106) (tgt := 112) dX6_makeMail_106 rfl (fun c9 => ?_) (fun c9 => ?_)
    · replace h := ifn h c9
      refine go_aload_n (pc := 112) dX6_makeMail_112 rfl rfl ?_
      refine go_aload_n (pc := 113) dX6_makeMail_113 rfl rfl ?_
      refine go_iconst (pc := 114) (v := 1) dX6_makeMail_114 ci_1 ?_
      obtain ⟨r10, e11, h⟩ := ok_bind h
      refine go_cV (pc := 115) (ci := 6) (As := [.int 1]) (st := [.ref 0]) (E_X6_number e11) rfl oX6_number iX6_number sX6_number kX6_146 rfl (show TM 0 = (6 + 5, 29) from rfl) rfl (Nat.le_of_ble_eq_true rfl) ⟨Nat.le_of_ble_eq_true rfl, Nat.le_of_ble_eq_true rfl⟩ ⟨rfl, rfl⟩ dX6_makeMail_115 (st2 := [.int r10, .ref 0]) rfl ?_
      obtain ⟨r12, e13, h⟩ := ok_bind h
      refine go_cV (pc := 118) (ci := 6) (As := [.int r10]) (st := []) (E_X6_oneOf e13) rfl oX6_oneOf iX6_oneOf sX6_oneOf kX6_139 rfl (show TM 0 = (6 + 5, 29) from rfl) rfl (Nat.le_of_ble_eq_true rfl) ⟨Nat.le_of_ble_eq_true rfl, Nat.le_of_ble_eq_true rfl⟩ ⟨rfl, rfl⟩ dX6_makeMail_118 (st2 := [.int r12]) rfl ?_
      refine go_istore_n (pc := 121) (i := 2) dX6_makeMail_121 rfl (Nat.le_of_ble_eq_true rfl) (L2 := [some (.ref 0), some (.int s0), some (.int r12), none, none, none]) rfl ?_
      refine go_aload_n (pc := 122) dX6_makeMail_122 rfl rfl ?_
      refine go_aload_n (pc := 123) dX6_makeMail_123 rfl rfl ?_
      refine go_getP (pc := 124) (a := 1) fX6_7 (by decide) (show TM 0 = (6 + 5, 29) from rfl) rfl dX6_makeMail_124 ?_
      refine go_iload_n (pc := 127) dX6_makeMail_127 rfl rfl ?_
      obtain ⟨r14, e15, h⟩ := ok_bind h
      refine go_cV (pc := 128) (ci := 6) (As := [.ref 1, .int r12]) (st := []) (E_X6_isBox isW_1 e15) rfl oX6_isBox iX6_isBox sX6_isBox kX6_89 rfl (show TM 0 = (6 + 5, 29) from rfl) rfl (Nat.le_of_ble_eq_true rfl) ⟨Nat.le_of_ble_eq_true rfl, Nat.le_of_ble_eq_true rfl⟩ ⟨rfl, rfl⟩ dX6_makeMail_128 (st2 := [.int r14]) rfl ?_
      refine go_if_ne (pc := 131) (tgt := 136) dX6_makeMail_131 rfl (fun c16 => ?_) (fun c16 => ?_)
      · replace h := ifn h c16
        refine go_aload_n (pc := 136) dX6_makeMail_136 rfl rfl ?_
        refine go_getP (pc := 137) (a := 1) fX6_7 (by decide) (show TM 0 = (6 + 5, 29) from rfl) rfl dX6_makeMail_137 ?_
        refine go_sipush (pc := 140) (v := 581) dX6_makeMail_140 cs_581 ?_
        refine go_ia (pc := 143) (v := V 1 581) (show TM 1 = (0, 586) from rfl) (vin (by decide)) dX6_makeMail_143 rfl ?_
        refine go_bipush (pc := 144) (v := 50) dX6_makeMail_144 cb_50 ?_
        refine go_icmp_ne (pc := 146) (tgt := 152) dX6_makeMail_146 rfl (fun c17 => ?_) (fun c17 => ?_)
        · replace h := ifn h c17
          refine go_bipush (pc := 152) (v := (-9)) dX6_makeMail_152 cb_m9 ?_
          refine go_istore_n (pc := 154) (i := 3) dX6_makeMail_154 rfl (Nat.le_of_ble_eq_true rfl) (L2 := [some (.ref 0), some (.int s0), some (.int r12), some (.int (-9)), none, none]) rfl ?_
          refine go_aload_n (pc := 155) dX6_makeMail_155 rfl rfl ?_
          refine go_getP (pc := 156) (a := 1) fX6_7 (by decide) (show TM 0 = (6 + 5, 29) from rfl) rfl dX6_makeMail_156 ?_
          refine go_sipush (pc := 159) (v := 581) dX6_makeMail_159 cs_581 ?_
          refine go_ia (pc := 162) (v := V 1 581) (show TM 1 = (0, 586) from rfl) (vin (by decide)) dX6_makeMail_162 rfl ?_
          refine go_iconst (pc := 163) (v := 1) dX6_makeMail_163 ci_1 ?_
          refine go_isub (pc := 164) dX6_makeMail_164 ?_
          refine go_istore (pc := 165) (i := 4) dX6_makeMail_165 (Nat.le_of_ble_eq_true rfl) (L2 := [some (.ref 0), some (.int s0), some (.int r12), some (.int (-9)), some (.int ((V 1 581) - 1)), none]) rfl ?_
          refine go_le (lle_s (lle_n (lle_s (lle_s (lle_s (lle_n lle_0)))))) ?_
          exact gX6_makeMail_b167 _ _ _ _ _ _  h
        · replace h := ifp h c17
          refine go_bipush (pc := 149) (v := (-4)) dX6_makeMail_149 cb_m4 ?_
          cases h
          exact go_iret (pc := 151) (Or.inl rfl) ⟨Nat.zero_le _, Nat.zero_le _⟩ dX6_makeMail_151
      · replace h := ifp h c16
        refine go_iconst (pc := 134) (v := (-1)) dX6_makeMail_134 ci_m1 ?_
        cases h
        exact go_iret (pc := 135) (Or.inl rfl) ⟨Nat.zero_le _, Nat.zero_le _⟩ dX6_makeMail_135
    · replace h := ifp h c9
      refine go_bipush (pc := 109) (v := (-5)) dX6_makeMail_109 cb_m5 ?_
      cases h
      exact go_iret (pc := 111) (Or.inl rfl) ⟨Nat.zero_le _, Nat.zero_le _⟩ dX6_makeMail_111
  · replace h := ifp h c4
    refine go_bipush (pc := 94) (v := (-2)) dX6_makeMail_94 cb_m2 ?_
    cases h
    exact go_iret (pc := 96) (Or.inl rfl) ⟨Nat.zero_le _, Nat.zero_le _⟩ dX6_makeMail_96
def eX6_makeMail  (V : Mm) : Option (Int32 × Mm) :=
  (eX6_isDraft 3 0 99 V).bind fun r1 =>
  if r1 = 0 then
    eX6_makeMail_b89 0 V
  else
    (eX6_isDraft 4 0 999 V).bind fun r66 =>
    if r66 = 0 then
      eX6_makeMail_b89 0 V
    else
      (eX6_drafted 5 V).bind fun r69 =>
      (eX6_isName r69 V).bind fun r71 =>
      if r71 = 0 then
        eX6_makeMail_b89 0 V
      else
        (eX6_drafted 6 V).bind fun r74 =>
        (eX6_isName r74 V).bind fun r76 =>
        if r76 = 0 then
          eX6_makeMail_b89 0 V
        else
          (eX6_isDraft 7 0 9999 V).bind fun r79 =>
          if r79 = 0 then
            eX6_makeMail_b89 0 V
          else
            (eX6_isDraft 8 0 9999 V).bind fun r82 =>
            if r82 = 0 then
              eX6_makeMail_b89 0 V
            else
              (eX6_isDraft 9 0 15 V).bind fun r85 =>
              if r85 = 0 then
                eX6_makeMail_b89 0 V
              else
                eX6_makeMail_b89 1 V
set_option maxHeartbeats 4000000 in
set_option maxRecDepth 100000 in
theorem E_X6_makeMail  {V : Mm} {res : Int32 × Mm}  (h : eX6_makeMail V = some res) : Ev mX6_makeMail [.ref 0] (hM V) (some (.int res.1)) (hM res.2) := by
  refine Ev.of (n := 5) oX6_makeMail.1 (Nat.le_of_ble_eq_true rfl) ?_
  unfold eX6_makeMail at h
  show Go mX6_makeMail 0 [some (.ref 0), none, none, none, none, none] [] (hM V) 0 0 (some (.int res.1)) (hM res.2)
  refine go_aload_n (pc := 0) dX6_makeMail_0 rfl rfl ?_
  refine go_iconst (pc := 1) (v := 3) dX6_makeMail_1 ci_3 ?_
  refine go_iconst (pc := 2) (v := 0) dX6_makeMail_2 ci_0 ?_
  refine go_bipush (pc := 3) (v := 99) dX6_makeMail_3 cb_99 ?_
  obtain ⟨r1, e2, h⟩ := ok_bind h
  refine go_cV (pc := 5) (ci := 6) (As := [.int 3, .int 0, .int 99]) (st := []) (E_X6_isDraft e2) rfl oX6_isDraft iX6_isDraft sX6_isDraft kX6_192 rfl (show TM 0 = (6 + 5, 29) from rfl) rfl (Nat.le_of_ble_eq_true rfl) ⟨Nat.le_of_ble_eq_true rfl, Nat.le_of_ble_eq_true rfl⟩ ⟨rfl, rfl⟩ dX6_makeMail_5 (st2 := [.int r1]) rfl ?_
  refine go_if_eq (pc := 8) (tgt := 88) dX6_makeMail_8 rfl (fun c3 => ?_) (fun c3 => ?_)
  · replace h := ifp h c3
    refine go_iconst (pc := 88) (v := 0) dX6_makeMail_88 ci_0 ?_
    exact gX6_makeMail_b89  h
  · replace h := ifn h c3
    refine go_aload_n (pc := 11) dX6_makeMail_11 rfl rfl ?_
    refine go_iconst (pc := 12) (v := 4) dX6_makeMail_12 ci_4 ?_
    refine go_iconst (pc := 13) (v := 0) dX6_makeMail_13 ci_0 ?_
    refine go_sipush (pc := 14) (v := 999) dX6_makeMail_14 cs_999 ?_
    obtain ⟨r66, e67, h⟩ := ok_bind h
    refine go_cV (pc := 17) (ci := 6) (As := [.int 4, .int 0, .int 999]) (st := []) (E_X6_isDraft e67) rfl oX6_isDraft iX6_isDraft sX6_isDraft kX6_192 rfl (show TM 0 = (6 + 5, 29) from rfl) rfl (Nat.le_of_ble_eq_true rfl) ⟨Nat.le_of_ble_eq_true rfl, Nat.le_of_ble_eq_true rfl⟩ ⟨rfl, rfl⟩ dX6_makeMail_17 (st2 := [.int r66]) rfl ?_
    refine go_if_eq (pc := 20) (tgt := 88) dX6_makeMail_20 rfl (fun c68 => ?_) (fun c68 => ?_)
    · replace h := ifp h c68
      refine go_iconst (pc := 88) (v := 0) dX6_makeMail_88 ci_0 ?_
      exact gX6_makeMail_b89  h
    · replace h := ifn h c68
      refine go_aload_n (pc := 23) dX6_makeMail_23 rfl rfl ?_
      refine go_iconst (pc := 24) (v := 5) dX6_makeMail_24 ci_5 ?_
      obtain ⟨r69, e70, h⟩ := ok_bind h
      refine go_cV (pc := 25) (ci := 6) (As := [.int 5]) (st := []) (E_X6_drafted e70) rfl oX6_drafted iX6_drafted sX6_drafted kX6_189 rfl (show TM 0 = (6 + 5, 29) from rfl) rfl (Nat.le_of_ble_eq_true rfl) ⟨Nat.le_of_ble_eq_true rfl, Nat.le_of_ble_eq_true rfl⟩ ⟨rfl, rfl⟩ dX6_makeMail_25 (st2 := [.int r69]) rfl ?_
      obtain ⟨r71, e72, h⟩ := ok_bind h
      refine go_cS (pc := 28) (As := [.int r69]) (st := []) (E_X6_isName e72) rfl oX6_isName iX6_isName kX6_205 rfl (Nat.le_of_ble_eq_true rfl) ⟨Nat.le_of_ble_eq_true rfl, Nat.le_of_ble_eq_true rfl⟩ ⟨rfl, rfl⟩ dX6_makeMail_28 (st2 := [.int r71]) rfl ?_
      refine go_if_eq (pc := 31) (tgt := 88) dX6_makeMail_31 rfl (fun c73 => ?_) (fun c73 => ?_)
      · replace h := ifp h c73
        refine go_iconst (pc := 88) (v := 0) dX6_makeMail_88 ci_0 ?_
        exact gX6_makeMail_b89  h
      · replace h := ifn h c73
        refine go_aload_n (pc := 34) dX6_makeMail_34 rfl rfl ?_
        refine go_bipush (pc := 35) (v := 6) dX6_makeMail_35 cb_6 ?_
        obtain ⟨r74, e75, h⟩ := ok_bind h
        refine go_cV (pc := 37) (ci := 6) (As := [.int 6]) (st := []) (E_X6_drafted e75) rfl oX6_drafted iX6_drafted sX6_drafted kX6_189 rfl (show TM 0 = (6 + 5, 29) from rfl) rfl (Nat.le_of_ble_eq_true rfl) ⟨Nat.le_of_ble_eq_true rfl, Nat.le_of_ble_eq_true rfl⟩ ⟨rfl, rfl⟩ dX6_makeMail_37 (st2 := [.int r74]) rfl ?_
        obtain ⟨r76, e77, h⟩ := ok_bind h
        refine go_cS (pc := 40) (As := [.int r74]) (st := []) (E_X6_isName e77) rfl oX6_isName iX6_isName kX6_205 rfl (Nat.le_of_ble_eq_true rfl) ⟨Nat.le_of_ble_eq_true rfl, Nat.le_of_ble_eq_true rfl⟩ ⟨rfl, rfl⟩ dX6_makeMail_40 (st2 := [.int r76]) rfl ?_
        refine go_if_eq (pc := 43) (tgt := 88) dX6_makeMail_43 rfl (fun c78 => ?_) (fun c78 => ?_)
        · replace h := ifp h c78
          refine go_iconst (pc := 88) (v := 0) dX6_makeMail_88 ci_0 ?_
          exact gX6_makeMail_b89  h
        · replace h := ifn h c78
          refine go_aload_n (pc := 46) dX6_makeMail_46 rfl rfl ?_
          refine go_bipush (pc := 47) (v := 7) dX6_makeMail_47 cb_7 ?_
          refine go_iconst (pc := 49) (v := 0) dX6_makeMail_49 ci_0 ?_
          refine go_sipush (pc := 50) (v := 9999) dX6_makeMail_50 cs_9999 ?_
          obtain ⟨r79, e80, h⟩ := ok_bind h
          refine go_cV (pc := 53) (ci := 6) (As := [.int 7, .int 0, .int 9999]) (st := []) (E_X6_isDraft e80) rfl oX6_isDraft iX6_isDraft sX6_isDraft kX6_192 rfl (show TM 0 = (6 + 5, 29) from rfl) rfl (Nat.le_of_ble_eq_true rfl) ⟨Nat.le_of_ble_eq_true rfl, Nat.le_of_ble_eq_true rfl⟩ ⟨rfl, rfl⟩ dX6_makeMail_53 (st2 := [.int r79]) rfl ?_
          refine go_if_eq (pc := 56) (tgt := 88) dX6_makeMail_56 rfl (fun c81 => ?_) (fun c81 => ?_)
          · replace h := ifp h c81
            refine go_iconst (pc := 88) (v := 0) dX6_makeMail_88 ci_0 ?_
            exact gX6_makeMail_b89  h
          · replace h := ifn h c81
            refine go_aload_n (pc := 59) dX6_makeMail_59 rfl rfl ?_
            refine go_bipush (pc := 60) (v := 8) dX6_makeMail_60 cb_8 ?_
            refine go_iconst (pc := 62) (v := 0) dX6_makeMail_62 ci_0 ?_
            refine go_sipush (pc := 63) (v := 9999) dX6_makeMail_63 cs_9999 ?_
            obtain ⟨r82, e83, h⟩ := ok_bind h
            refine go_cV (pc := 66) (ci := 6) (As := [.int 8, .int 0, .int 9999]) (st := []) (E_X6_isDraft e83) rfl oX6_isDraft iX6_isDraft sX6_isDraft kX6_192 rfl (show TM 0 = (6 + 5, 29) from rfl) rfl (Nat.le_of_ble_eq_true rfl) ⟨Nat.le_of_ble_eq_true rfl, Nat.le_of_ble_eq_true rfl⟩ ⟨rfl, rfl⟩ dX6_makeMail_66 (st2 := [.int r82]) rfl ?_
            refine go_if_eq (pc := 69) (tgt := 88) dX6_makeMail_69 rfl (fun c84 => ?_) (fun c84 => ?_)
            · replace h := ifp h c84
              refine go_iconst (pc := 88) (v := 0) dX6_makeMail_88 ci_0 ?_
              exact gX6_makeMail_b89  h
            · replace h := ifn h c84
              refine go_aload_n (pc := 72) dX6_makeMail_72 rfl rfl ?_
              refine go_bipush (pc := 73) (v := 9) dX6_makeMail_73 cb_9 ?_
              refine go_iconst (pc := 75) (v := 0) dX6_makeMail_75 ci_0 ?_
              refine go_bipush (pc := 76) (v := 15) dX6_makeMail_76 cb_15 ?_
              obtain ⟨r85, e86, h⟩ := ok_bind h
              refine go_cV (pc := 78) (ci := 6) (As := [.int 9, .int 0, .int 15]) (st := []) (E_X6_isDraft e86) rfl oX6_isDraft iX6_isDraft sX6_isDraft kX6_192 rfl (show TM 0 = (6 + 5, 29) from rfl) rfl (Nat.le_of_ble_eq_true rfl) ⟨Nat.le_of_ble_eq_true rfl, Nat.le_of_ble_eq_true rfl⟩ ⟨rfl, rfl⟩ dX6_makeMail_78 (st2 := [.int r85]) rfl ?_
              refine go_if_eq (pc := 81) (tgt := 88) dX6_makeMail_81 rfl (fun c87 => ?_) (fun c87 => ?_)
              · replace h := ifp h c87
                refine go_iconst (pc := 88) (v := 0) dX6_makeMail_88 ci_0 ?_
                exact gX6_makeMail_b89  h
              · replace h := ifn h c87
                refine go_iconst (pc := 84) (v := 1) dX6_makeMail_84 ci_1 ?_
                refine go_goto (pc := 85) (tgt := 89) dX6_makeMail_85 rfl ?_
                exact gX6_makeMail_b89  h
def eX6_doMake  (V : Mm) : Option (Int32 × Mm) :=
  (eX6_number 0 V).bind fun r1 =>
  (eX6_within r1 0 1 V).bind fun r3 =>
  if r3 = 0 then
    some ((-2), V)
  else
    if r1 = 0 then
      (eX6_makeBox V).bind fun r9 =>
      some (r9.1, r9.2)
    else
      (eX6_makeMail V).bind fun r7 =>
      some (r7.1, r7.2)
set_option maxHeartbeats 4000000 in
set_option maxRecDepth 100000 in
theorem E_X6_doMake  {V : Mm} {res : Int32 × Mm}  (h : eX6_doMake V = some res) : Ev mX6_doMake [.ref 0] (hM V) (some (.int res.1)) (hM res.2) := by
  refine Ev.of (n := 1) oX6_doMake.1 (Nat.le_of_ble_eq_true rfl) ?_
  unfold eX6_doMake at h
  show Go mX6_doMake 0 [some (.ref 0), none] [] (hM V) 0 0 (some (.int res.1)) (hM res.2)
  refine go_aload_n (pc := 0) dX6_doMake_0 rfl rfl ?_
  refine go_iconst (pc := 1) (v := 0) dX6_doMake_1 ci_0 ?_
  obtain ⟨r1, e2, h⟩ := ok_bind h
  refine go_cV (pc := 2) (ci := 6) (As := [.int 0]) (st := []) (E_X6_number e2) rfl oX6_number iX6_number sX6_number kX6_146 rfl (show TM 0 = (6 + 5, 29) from rfl) rfl (Nat.le_of_ble_eq_true rfl) ⟨Nat.le_of_ble_eq_true rfl, Nat.le_of_ble_eq_true rfl⟩ ⟨rfl, rfl⟩ dX6_doMake_2 (st2 := [.int r1]) rfl ?_
  refine go_istore_n (pc := 5) (i := 1) dX6_doMake_5 rfl (Nat.le_of_ble_eq_true rfl) (L2 := [some (.ref 0), some (.int r1)]) rfl ?_
  refine go_iload_n (pc := 6) dX6_doMake_6 rfl rfl ?_
  refine go_iconst (pc := 7) (v := 0) dX6_doMake_7 ci_0 ?_
  refine go_iconst (pc := 8) (v := 1) dX6_doMake_8 ci_1 ?_
  obtain ⟨r3, e4, h⟩ := ok_bind h
  refine go_cS (pc := 9) (As := [.int r1, .int 0, .int 1]) (st := []) (E_X6_within e4) rfl oX6_within iX6_within kX6_99 rfl (Nat.le_of_ble_eq_true rfl) ⟨Nat.le_of_ble_eq_true rfl, Nat.le_of_ble_eq_true rfl⟩ ⟨rfl, rfl⟩ dX6_doMake_9 (st2 := [.int r3]) rfl ?_
  refine go_if_ne (pc := 12) (tgt := 18) dX6_doMake_12 rfl (fun c5 => ?_) (fun c5 => ?_)
  · replace h := ifn h c5
    refine go_iload_n (pc := 18) dX6_doMake_18 rfl rfl ?_
    refine go_if_ne (pc := 19) (tgt := 29) dX6_doMake_19 rfl (fun c6 => ?_) (fun c6 => ?_)
    · replace h := ifn h c6
      refine go_aload_n (pc := 29) dX6_doMake_29 rfl rfl ?_
      obtain ⟨r7, e8, h⟩ := ok_bind h
      refine go_cV (pc := 30) (ci := 6) (As := []) (st := []) (E_X6_makeMail e8) rfl oX6_makeMail iX6_makeMail sX6_makeMail kX6_215 rfl (show TM 0 = (6 + 5, 29) from rfl) rfl (Nat.le_of_ble_eq_true rfl) ⟨Nat.le_of_ble_eq_true rfl, Nat.le_of_ble_eq_true rfl⟩ ⟨rfl, rfl⟩ dX6_doMake_30 (st2 := [.int r7.1]) rfl ?_
      cases h
      exact go_iret (pc := 33) (Or.inl rfl) ⟨Nat.zero_le _, Nat.zero_le _⟩ dX6_doMake_33
    · replace h := ifp h c6
      refine go_aload_n (pc := 22) dX6_doMake_22 rfl rfl ?_
      obtain ⟨r9, e10, h⟩ := ok_bind h
      refine go_cV (pc := 23) (ci := 6) (As := []) (st := []) (E_X6_makeBox e10) rfl oX6_makeBox iX6_makeBox sX6_makeBox kX6_211 rfl (show TM 0 = (6 + 5, 29) from rfl) rfl (Nat.le_of_ble_eq_true rfl) ⟨Nat.le_of_ble_eq_true rfl, Nat.le_of_ble_eq_true rfl⟩ ⟨rfl, rfl⟩ dX6_doMake_23 (st2 := [.int r9.1]) rfl ?_
      refine go_goto (pc := 26) (tgt := 33) dX6_doMake_26 rfl ?_
      cases h
      exact go_iret (pc := 33) (Or.inl rfl) ⟨Nat.zero_le _, Nat.zero_le _⟩ dX6_doMake_33
  · replace h := ifp h c5
    refine go_bipush (pc := 15) (v := (-2)) dX6_doMake_15 cb_m2 ?_
    cases h
    exact go_iret (pc := 17) (Or.inl rfl) ⟨Nat.zero_le _, Nat.zero_le _⟩ dX6_doMake_17
def eX6_changeBox_b178 (l1 : Int32) (l2 : Int32) (l3 : Int32) (l4 : Int32) (l5 : Int32) (V : Mm) : Option (Int32 × Mm) :=
  if ((4 * l1) + 1) < 0 ∨ 586 ≤ ((4 * l1) + 1).toNatClampNeg then none else
  if ((4 * l1) + 2) < 0 ∨ 586 ≤ ((4 * l1) + 2).toNatClampNeg then none else
  if l2 = 2 then
    if ((4 * l1) + 3) < 0 ∨ 586 ≤ ((4 * l1) + 3).toNatClampNeg then none else
    some (0, (wr (wr (wr V 1 (((4 * l1) + 1).toNatClampNeg) l5) 1 (((4 * l1) + 2).toNatClampNeg) l4) 1 (((4 * l1) + 3).toNatClampNeg) l3))
  else
    some (0, (wr (wr V 1 (((4 * l1) + 1).toNatClampNeg) l5) 1 (((4 * l1) + 2).toNatClampNeg) l4))
set_option maxHeartbeats 4000000 in
set_option maxRecDepth 100000 in
theorem gX6_changeBox_b178 {l1 : Int32} {l2 : Int32} {l3 : Int32} {l4 : Int32} {l5 : Int32} {V : Mm} {res : Int32 × Mm}  (h : eX6_changeBox_b178 l1 l2 l3 l4 l5 V = some res) : Go mX6_changeBox 178 [some (.ref 0), some (.int l1), some (.int l2), some (.int l3), some (.int l4), some (.int l5), none] [] (hM V) 0 0 (some (.int res.1)) (hM res.2) := by
  unfold eX6_changeBox_b178 at h
  refine go_aload_n (pc := 178) dX6_changeBox_178 rfl rfl ?_
  refine go_getP (pc := 179) (a := 1) fX6_7 (by decide) (show TM 0 = (6 + 5, 29) from rfl) rfl dX6_changeBox_179 ?_
  refine go_iconst (pc := 182) (v := 4) dX6_changeBox_182 ci_4 ?_
  refine go_iload_n (pc := 183) dX6_changeBox_183 rfl rfl ?_
  refine go_imul (pc := 184) dX6_changeBox_184 ?_
  refine go_iconst (pc := 185) (v := 1) dX6_changeBox_185 ci_1 ?_
  refine go_iadd (pc := 186) dX6_changeBox_186 ?_
  refine go_iload (pc := 187) dX6_changeBox_187 rfl ?_
  obtain ⟨c11, h⟩ := ok_not h
  refine go_iast (pc := 189) (show TM 1 = (0, 586) from rfl) (vin c11) dX6_changeBox_189 ?_
  refine go_aload_n (pc := 190) dX6_changeBox_190 rfl rfl ?_
  refine go_getP (pc := 191) (a := 1) fX6_7 (by decide) (show TM 0 = (6 + 5, 29) from rfl) rfl dX6_changeBox_191 ?_
  refine go_iconst (pc := 194) (v := 4) dX6_changeBox_194 ci_4 ?_
  refine go_iload_n (pc := 195) dX6_changeBox_195 rfl rfl ?_
  refine go_imul (pc := 196) dX6_changeBox_196 ?_
  refine go_iconst (pc := 197) (v := 2) dX6_changeBox_197 ci_2 ?_
  refine go_iadd (pc := 198) dX6_changeBox_198 ?_
  refine go_iload (pc := 199) dX6_changeBox_199 rfl ?_
  obtain ⟨c12, h⟩ := ok_not h
  refine go_iast (pc := 201) (show TM 1 = (0, 586) from rfl) (vin c12) dX6_changeBox_201 ?_
  refine go_iload_n (pc := 202) dX6_changeBox_202 rfl rfl ?_
  refine go_iconst (pc := 203) (v := 2) dX6_changeBox_203 ci_2 ?_
  refine go_icmp_ne (pc := 204) (tgt := 218) dX6_changeBox_204 rfl (fun c13 => ?_) (fun c13 => ?_)
  · replace h := ifn h c13
    refine go_iconst (pc := 218) (v := 0) dX6_changeBox_218 ci_0 ?_
    cases h
    exact go_iret (pc := 219) (Or.inl rfl) ⟨Nat.zero_le _, Nat.zero_le _⟩ dX6_changeBox_219
  · replace h := ifp h c13
    refine go_aload_n (pc := 207) dX6_changeBox_207 rfl rfl ?_
    refine go_getP (pc := 208) (a := 1) fX6_7 (by decide) (show TM 0 = (6 + 5, 29) from rfl) rfl dX6_changeBox_208 ?_
    refine go_iconst (pc := 211) (v := 4) dX6_changeBox_211 ci_4 ?_
    refine go_iload_n (pc := 212) dX6_changeBox_212 rfl rfl ?_
    refine go_imul (pc := 213) dX6_changeBox_213 ?_
    refine go_iconst (pc := 214) (v := 3) dX6_changeBox_214 ci_3 ?_
    refine go_iadd (pc := 215) dX6_changeBox_215 ?_
    refine go_iload_n (pc := 216) dX6_changeBox_216 rfl rfl ?_
    obtain ⟨c14, h⟩ := ok_not h
    refine go_iast (pc := 217) (show TM 1 = (0, 586) from rfl) (vin c14) dX6_changeBox_217 ?_
    refine go_iconst (pc := 218) (v := 0) dX6_changeBox_218 ci_0 ?_
    cases h
    exact go_iret (pc := 219) (Or.inl rfl) ⟨Nat.zero_le _, Nat.zero_le _⟩ dX6_changeBox_219
def eX6_changeBox_b154 (l1 : Int32) (l2 : Int32) (l3 : Int32) (l4 : Int32) (l5 : Int32) (V : Mm) : Option (Int32 × Mm) :=
  if 2 ≤ l2 then
    eX6_changeBox_b178 l1 l2 l3 l4 l5 V
  else
    (eX6_isNamed 1 l1 l4 l5 V).bind fun r15 =>
    if r15 = 0 then
      eX6_changeBox_b178 l1 l2 l3 l4 l5 V
    else
      some ((-3), V)
set_option maxHeartbeats 4000000 in
set_option maxRecDepth 100000 in
theorem gX6_changeBox_b154 {l1 : Int32} {l2 : Int32} {l3 : Int32} {l4 : Int32} {l5 : Int32} {V : Mm} {res : Int32 × Mm}  (h : eX6_changeBox_b154 l1 l2 l3 l4 l5 V = some res) : Go mX6_changeBox 154 [some (.ref 0), some (.int l1), some (.int l2), some (.int l3), some (.int l4), some (.int l5), none] [] (hM V) 0 0 (some (.int res.1)) (hM res.2) := by
  unfold eX6_changeBox_b154 at h
  refine go_iload_n (pc := 154) dX6_changeBox_154 rfl rfl ?_
  refine go_iconst (pc := 155) (v := 2) dX6_changeBox_155 ci_2 ?_
  refine go_icmp_ge (pc := 156) (tgt := 178) dX6_changeBox_156 rfl (fun c10 => ?_) (fun c10 => ?_)
  · replace h := ifp h c10
    exact gX6_changeBox_b178  h
  · replace h := ifn h c10
    refine go_aload_n (pc := 159) dX6_changeBox_159 rfl rfl ?_
    refine go_aload_n (pc := 160) dX6_changeBox_160 rfl rfl ?_
    refine go_getP (pc := 161) (a := 1) fX6_7 (by decide) (show TM 0 = (6 + 5, 29) from rfl) rfl dX6_changeBox_161 ?_
    refine go_iload_n (pc := 164) dX6_changeBox_164 rfl rfl ?_
    refine go_iload (pc := 165) dX6_changeBox_165 rfl ?_
    refine go_iload (pc := 167) dX6_changeBox_167 rfl ?_
    obtain ⟨r15, e16, h⟩ := ok_bind h
    refine go_cV (pc := 169) (ci := 6) (As := [.ref 1, .int l1, .int l4, .int l5]) (st := []) (E_X6_isNamed isW_1 e16) rfl oX6_isNamed iX6_isNamed sX6_isNamed kX6_198 rfl (show TM 0 = (6 + 5, 29) from rfl) rfl (Nat.le_of_ble_eq_true rfl) ⟨Nat.le_of_ble_eq_true rfl, Nat.le_of_ble_eq_true rfl⟩ ⟨rfl, rfl⟩ dX6_changeBox_169 (st2 := [.int r15]) rfl ?_
    refine go_if_eq (pc := 172) (tgt := 178) dX6_changeBox_172 rfl (fun c17 => ?_) (fun c17 => ?_)
    · replace h := ifp h c17
      exact gX6_changeBox_b178  h
    · replace h := ifn h c17
      refine go_bipush (pc := 175) (v := (-3)) dX6_changeBox_175 cb_m3 ?_
      cases h
      exact go_iret (pc := 177) (Or.inl rfl) ⟨Nat.zero_le _, Nat.zero_le _⟩ dX6_changeBox_177
def eX6_changeBox_b82 : Nat → Int32 → Int32 → Int32 → Int32 → Int32 → Int32 → Mm → Option (Int32 × Mm)
  | 0, _, _, _, _, _, _, _ => none
  | n + 1, l1, l2, l3, l4, l5, l6, V => 
    if l6 = (-9) then
      if l4 = (-9) then
        (eX6_under 1 l1 V).bind fun r26 =>
        if ((1 + 0) + r26) ≤ 4 then
          eX6_changeBox_b154 l1 l2 l3 l4 l5 V
        else
          some ((-3), V)
      else
        (eX6_deep 1 l4 V).bind fun r21 =>
        (eX6_under 1 l1 V).bind fun r23 =>
        if ((1 + r21) + r23) ≤ 4 then
          eX6_changeBox_b154 l1 l2 l3 l4 l5 V
        else
          some ((-3), V)
    else
      if l6 = l1 then
        some ((-3), V)
      else
        (eX6_boxPart 1 l6 2 V).bind fun r30 =>
        eX6_changeBox_b82 n l1 l2 l3 l4 l5 r30 V
set_option maxHeartbeats 4000000 in
set_option maxRecDepth 100000 in
theorem gX6_changeBox_b82 : ∀ (n : Nat) (l1 : Int32) (l2 : Int32) (l3 : Int32) (l4 : Int32) (l5 : Int32) (l6 : Int32) (V : Mm) (res : Int32 × Mm) , eX6_changeBox_b82 n l1 l2 l3 l4 l5 l6 V = some res → Go mX6_changeBox 82 [some (.ref 0), some (.int l1), some (.int l2), some (.int l3), some (.int l4), some (.int l5), some (.int l6)] [] (hM V) 0 0 (some (.int res.1)) (hM res.2) := by
  intro n
  induction n with
  | zero =>
    intro l1 l2 l3 l4 l5 l6 V res  h
    cases h
  | succ n ih =>
    intro l1 l2 l3 l4 l5 l6 V res  h
    rw [eX6_changeBox_b82] at h
    refine go_iload (pc := 82) dX6_changeBox_82 rfl ?_
    refine go_bipush (pc := 84) (v := (-9)) dX6_changeBox_84 cb_m9 ?_
    refine go_icmp_eq (pc := 86) (tgt := 114) dX6_changeBox_86 rfl (fun c19 => ?_) (fun c19 => ?_)
    · replace h := ifp h c19
      refine go_iconst (pc := 114) (v := 1) dX6_changeBox_114 ci_1 ?_
      refine go_iload (pc := 115) dX6_changeBox_115 rfl ?_
      refine go_bipush (pc := 117) (v := (-9)) dX6_changeBox_117 cb_m9 ?_
      refine go_icmp_ne (pc := 119) (tgt := 126) dX6_changeBox_119 rfl (fun c20 => ?_) (fun c20 => ?_)
      · replace h := ifn h c20
        refine go_aload_n (pc := 126) dX6_changeBox_126 rfl rfl ?_
        refine go_aload_n (pc := 127) dX6_changeBox_127 rfl rfl ?_
        refine go_getP (pc := 128) (a := 1) fX6_7 (by decide) (show TM 0 = (6 + 5, 29) from rfl) rfl dX6_changeBox_128 ?_
        refine go_iload (pc := 131) dX6_changeBox_131 rfl ?_
        obtain ⟨r21, e22, h⟩ := ok_bind h
        refine go_cV (pc := 133) (ci := 6) (As := [.ref 1, .int l4]) (st := [.int 1]) (E_X6_deep isW_1 e22) rfl oX6_deep iX6_deep sX6_deep kX6_195 rfl (show TM 0 = (6 + 5, 29) from rfl) rfl (Nat.le_of_ble_eq_true rfl) ⟨Nat.le_of_ble_eq_true rfl, Nat.le_of_ble_eq_true rfl⟩ ⟨rfl, rfl⟩ dX6_changeBox_133 (st2 := [.int r21, .int 1]) rfl ?_
        refine go_iadd (pc := 136) dX6_changeBox_136 ?_
        refine go_aload_n (pc := 137) dX6_changeBox_137 rfl rfl ?_
        refine go_aload_n (pc := 138) dX6_changeBox_138 rfl rfl ?_
        refine go_getP (pc := 139) (a := 1) fX6_7 (by decide) (show TM 0 = (6 + 5, 29) from rfl) rfl dX6_changeBox_139 ?_
        refine go_iload_n (pc := 142) dX6_changeBox_142 rfl rfl ?_
        obtain ⟨r23, e24, h⟩ := ok_bind h
        refine go_cV (pc := 143) (ci := 6) (As := [.ref 1, .int l1]) (st := [.int (1 + r21)]) (E_X6_under isW_1 e24) rfl oX6_under iX6_under sX6_under kX6_218 rfl (show TM 0 = (6 + 5, 29) from rfl) rfl (Nat.le_of_ble_eq_true rfl) ⟨Nat.le_of_ble_eq_true rfl, Nat.le_of_ble_eq_true rfl⟩ ⟨rfl, rfl⟩ dX6_changeBox_143 (st2 := [.int r23, .int (1 + r21)]) rfl ?_
        refine go_iadd (pc := 146) dX6_changeBox_146 ?_
        refine go_iconst (pc := 147) (v := 4) dX6_changeBox_147 ci_4 ?_
        refine go_icmp_le (pc := 148) (tgt := 154) dX6_changeBox_148 rfl (fun c25 => ?_) (fun c25 => ?_)
        · replace h := ifp h c25
          refine go_le (lle_s (lle_s (lle_s (lle_s (lle_s (lle_s (lle_n lle_0))))))) ?_
          exact gX6_changeBox_b154  h
        · replace h := ifn h c25
          refine go_bipush (pc := 151) (v := (-3)) dX6_changeBox_151 cb_m3 ?_
          cases h
          exact go_iret (pc := 153) (Or.inl rfl) ⟨Nat.zero_le _, Nat.zero_le _⟩ dX6_changeBox_153
      · replace h := ifp h c20
        refine go_iconst (pc := 122) (v := 0) dX6_changeBox_122 ci_0 ?_
        refine go_goto (pc := 123) (tgt := 136) dX6_changeBox_123 rfl ?_
        refine go_iadd (pc := 136) dX6_changeBox_136 ?_
        refine go_aload_n (pc := 137) dX6_changeBox_137 rfl rfl ?_
        refine go_aload_n (pc := 138) dX6_changeBox_138 rfl rfl ?_
        refine go_getP (pc := 139) (a := 1) fX6_7 (by decide) (show TM 0 = (6 + 5, 29) from rfl) rfl dX6_changeBox_139 ?_
        refine go_iload_n (pc := 142) dX6_changeBox_142 rfl rfl ?_
        obtain ⟨r26, e27, h⟩ := ok_bind h
        refine go_cV (pc := 143) (ci := 6) (As := [.ref 1, .int l1]) (st := [.int (1 + 0)]) (E_X6_under isW_1 e27) rfl oX6_under iX6_under sX6_under kX6_218 rfl (show TM 0 = (6 + 5, 29) from rfl) rfl (Nat.le_of_ble_eq_true rfl) ⟨Nat.le_of_ble_eq_true rfl, Nat.le_of_ble_eq_true rfl⟩ ⟨rfl, rfl⟩ dX6_changeBox_143 (st2 := [.int r26, .int (1 + 0)]) rfl ?_
        refine go_iadd (pc := 146) dX6_changeBox_146 ?_
        refine go_iconst (pc := 147) (v := 4) dX6_changeBox_147 ci_4 ?_
        refine go_icmp_le (pc := 148) (tgt := 154) dX6_changeBox_148 rfl (fun c28 => ?_) (fun c28 => ?_)
        · replace h := ifp h c28
          refine go_le (lle_s (lle_s (lle_s (lle_s (lle_s (lle_s (lle_n lle_0))))))) ?_
          exact gX6_changeBox_b154  h
        · replace h := ifn h c28
          refine go_bipush (pc := 151) (v := (-3)) dX6_changeBox_151 cb_m3 ?_
          cases h
          exact go_iret (pc := 153) (Or.inl rfl) ⟨Nat.zero_le _, Nat.zero_le _⟩ dX6_changeBox_153
    · replace h := ifn h c19
      refine go_iload (pc := 89) dX6_changeBox_89 rfl ?_
      refine go_iload_n (pc := 91) dX6_changeBox_91 rfl rfl ?_
      refine go_icmp_ne (pc := 92) (tgt := 98) dX6_changeBox_92 rfl (fun c29 => ?_) (fun c29 => ?_)
      · replace h := ifn h c29
        refine go_aload_n (pc := 98) dX6_changeBox_98 rfl rfl ?_
        refine go_aload_n (pc := 99) dX6_changeBox_99 rfl rfl ?_
        refine go_getP (pc := 100) (a := 1) fX6_7 (by decide) (show TM 0 = (6 + 5, 29) from rfl) rfl dX6_changeBox_100 ?_
        refine go_iload (pc := 103) dX6_changeBox_103 rfl ?_
        refine go_iconst (pc := 105) (v := 2) dX6_changeBox_105 ci_2 ?_
        obtain ⟨r30, e31, h⟩ := ok_bind h
        refine go_cV (pc := 106) (ci := 6) (As := [.ref 1, .int l6, .int 2]) (st := []) (E_X6_boxPart isW_1 e31) rfl oX6_boxPart iX6_boxPart sX6_boxPart kX6_96 rfl (show TM 0 = (6 + 5, 29) from rfl) rfl (Nat.le_of_ble_eq_true rfl) ⟨Nat.le_of_ble_eq_true rfl, Nat.le_of_ble_eq_true rfl⟩ ⟨rfl, rfl⟩ dX6_changeBox_106 (st2 := [.int r30]) rfl ?_
        refine go_istore (pc := 109) (i := 6) dX6_changeBox_109 (Nat.le_of_ble_eq_true rfl) (L2 := [some (.ref 0), some (.int l1), some (.int l2), some (.int l3), some (.int l4), some (.int l5), some (.int r30)]) rfl ?_
        refine go_goto (pc := 111) (tgt := 82) dX6_changeBox_111 rfl ?_
        exact ih _ _ _ _ _ _ _ _  h
      · replace h := ifp h c29
        refine go_bipush (pc := 95) (v := (-3)) dX6_changeBox_95 cb_m3 ?_
        cases h
        exact go_iret (pc := 97) (Or.inl rfl) ⟨Nat.zero_le _, Nat.zero_le _⟩ dX6_changeBox_97
def eX6_changeBox (a1 : Int32) (a2 : Int32) (a3 : Int32) (V : Mm) : Option (Int32 × Mm) :=
  (eX6_isBox 1 a1 V).bind fun r1 =>
  if r1 = 0 then
    some ((-1), V)
  else
    (eX6_boxPart 1 a1 2 V).bind fun r4 =>
    (eX6_boxPart 1 a1 1 V).bind fun r6 =>
    if a2 = 0 then
      eX6_changeBox_b154 a1 a2 a3 r4 a3 V
    else
      if a2 = 1 then
        if a3 = (-9) then
          eX6_changeBox_b82 fu a1 a2 a3 a3 r6 a3 V
        else
          (eX6_isBox 1 a3 V).bind fun r32 =>
          if r32 = 0 then
            some ((-1), V)
          else
            eX6_changeBox_b82 fu a1 a2 a3 a3 r6 a3 V
      else
        eX6_changeBox_b154 a1 a2 a3 r4 r6 V
set_option maxHeartbeats 4000000 in
set_option maxRecDepth 100000 in
theorem E_X6_changeBox {a1 : Int32} {a2 : Int32} {a3 : Int32} {V : Mm} {res : Int32 × Mm}  (h : eX6_changeBox a1 a2 a3 V = some res) : Ev mX6_changeBox [.ref 0, .int a1, .int a2, .int a3] (hM V) (some (.int res.1)) (hM res.2) := by
  refine Ev.of (n := 3) oX6_changeBox.1 (Nat.le_of_ble_eq_true rfl) ?_
  unfold eX6_changeBox at h
  show Go mX6_changeBox 0 [some (.ref 0), some (.int a1), some (.int a2), some (.int a3), none, none, none] [] (hM V) 0 0 (some (.int res.1)) (hM res.2)
  refine go_aload_n (pc := 0) dX6_changeBox_0 rfl rfl ?_
  refine go_aload_n (pc := 1) dX6_changeBox_1 rfl rfl ?_
  refine go_getP (pc := 2) (a := 1) fX6_7 (by decide) (show TM 0 = (6 + 5, 29) from rfl) rfl dX6_changeBox_2 ?_
  refine go_iload_n (pc := 5) dX6_changeBox_5 rfl rfl ?_
  obtain ⟨r1, e2, h⟩ := ok_bind h
  refine go_cV (pc := 6) (ci := 6) (As := [.ref 1, .int a1]) (st := []) (E_X6_isBox isW_1 e2) rfl oX6_isBox iX6_isBox sX6_isBox kX6_89 rfl (show TM 0 = (6 + 5, 29) from rfl) rfl (Nat.le_of_ble_eq_true rfl) ⟨Nat.le_of_ble_eq_true rfl, Nat.le_of_ble_eq_true rfl⟩ ⟨rfl, rfl⟩ dX6_changeBox_6 (st2 := [.int r1]) rfl ?_
  refine go_if_ne (pc := 9) (tgt := 14) dX6_changeBox_9 rfl (fun c3 => ?_) (fun c3 => ?_)
  · replace h := ifn h c3
    refine go_aload_n (pc := 14) dX6_changeBox_14 rfl rfl ?_
    refine go_aload_n (pc := 15) dX6_changeBox_15 rfl rfl ?_
    refine go_getP (pc := 16) (a := 1) fX6_7 (by decide) (show TM 0 = (6 + 5, 29) from rfl) rfl dX6_changeBox_16 ?_
    refine go_iload_n (pc := 19) dX6_changeBox_19 rfl rfl ?_
    refine go_iconst (pc := 20) (v := 2) dX6_changeBox_20 ci_2 ?_
    obtain ⟨r4, e5, h⟩ := ok_bind h
    refine go_cV (pc := 21) (ci := 6) (As := [.ref 1, .int a1, .int 2]) (st := []) (E_X6_boxPart isW_1 e5) rfl oX6_boxPart iX6_boxPart sX6_boxPart kX6_96 rfl (show TM 0 = (6 + 5, 29) from rfl) rfl (Nat.le_of_ble_eq_true rfl) ⟨Nat.le_of_ble_eq_true rfl, Nat.le_of_ble_eq_true rfl⟩ ⟨rfl, rfl⟩ dX6_changeBox_21 (st2 := [.int r4]) rfl ?_
    refine go_istore (pc := 24) (i := 4) dX6_changeBox_24 (Nat.le_of_ble_eq_true rfl) (L2 := [some (.ref 0), some (.int a1), some (.int a2), some (.int a3), some (.int r4), none, none]) rfl ?_
    refine go_aload_n (pc := 26) dX6_changeBox_26 rfl rfl ?_
    refine go_aload_n (pc := 27) dX6_changeBox_27 rfl rfl ?_
    refine go_getP (pc := 28) (a := 1) fX6_7 (by decide) (show TM 0 = (6 + 5, 29) from rfl) rfl dX6_changeBox_28 ?_
    refine go_iload_n (pc := 31) dX6_changeBox_31 rfl rfl ?_
    refine go_iconst (pc := 32) (v := 1) dX6_changeBox_32 ci_1 ?_
    obtain ⟨r6, e7, h⟩ := ok_bind h
    refine go_cV (pc := 33) (ci := 6) (As := [.ref 1, .int a1, .int 1]) (st := []) (E_X6_boxPart isW_1 e7) rfl oX6_boxPart iX6_boxPart sX6_boxPart kX6_96 rfl (show TM 0 = (6 + 5, 29) from rfl) rfl (Nat.le_of_ble_eq_true rfl) ⟨Nat.le_of_ble_eq_true rfl, Nat.le_of_ble_eq_true rfl⟩ ⟨rfl, rfl⟩ dX6_changeBox_33 (st2 := [.int r6]) rfl ?_
    refine go_istore (pc := 36) (i := 5) dX6_changeBox_36 (Nat.le_of_ble_eq_true rfl) (L2 := [some (.ref 0), some (.int a1), some (.int a2), some (.int a3), some (.int r4), some (.int r6), none]) rfl ?_
    refine go_iload_n (pc := 38) dX6_changeBox_38 rfl rfl ?_
    refine go_if_ne (pc := 39) (tgt := 48) dX6_changeBox_39 rfl (fun c8 => ?_) (fun c8 => ?_)
    · replace h := ifn h c8
      refine go_iload_n (pc := 48) dX6_changeBox_48 rfl rfl ?_
      refine go_iconst (pc := 49) (v := 1) dX6_changeBox_49 ci_1 ?_
      refine go_icmp_ne (pc := 50) (tgt := 154) dX6_changeBox_50 rfl (fun c9 => ?_) (fun c9 => ?_)
      · replace h := ifn h c9
        exact gX6_changeBox_b154  h
      · replace h := ifp h c9
        refine go_iload_n (pc := 53) dX6_changeBox_53 rfl rfl ?_
        refine go_istore (pc := 54) (i := 4) dX6_changeBox_54 (Nat.le_of_ble_eq_true rfl) (L2 := [some (.ref 0), some (.int a1), some (.int a2), some (.int a3), some (.int a3), some (.int r6), none]) rfl ?_
        refine go_iload (pc := 56) dX6_changeBox_56 rfl ?_
        refine go_bipush (pc := 58) (v := (-9)) dX6_changeBox_58 cb_m9 ?_
        refine go_icmp_eq (pc := 60) (tgt := 78) dX6_changeBox_60 rfl (fun c18 => ?_) (fun c18 => ?_)
        · replace h := ifp h c18
          refine go_iload (pc := 78) dX6_changeBox_78 rfl ?_
          refine go_istore (pc := 80) (i := 6) dX6_changeBox_80 (Nat.le_of_ble_eq_true rfl) (L2 := [some (.ref 0), some (.int a1), some (.int a2), some (.int a3), some (.int a3), some (.int r6), some (.int a3)]) rfl ?_
          exact gX6_changeBox_b82 _ _ _ _ _ _ _ _ _  h
        · replace h := ifn h c18
          refine go_aload_n (pc := 63) dX6_changeBox_63 rfl rfl ?_
          refine go_aload_n (pc := 64) dX6_changeBox_64 rfl rfl ?_
          refine go_getP (pc := 65) (a := 1) fX6_7 (by decide) (show TM 0 = (6 + 5, 29) from rfl) rfl dX6_changeBox_65 ?_
          refine go_iload (pc := 68) dX6_changeBox_68 rfl ?_
          obtain ⟨r32, e33, h⟩ := ok_bind h
          refine go_cV (pc := 70) (ci := 6) (As := [.ref 1, .int a3]) (st := []) (E_X6_isBox isW_1 e33) rfl oX6_isBox iX6_isBox sX6_isBox kX6_89 rfl (show TM 0 = (6 + 5, 29) from rfl) rfl (Nat.le_of_ble_eq_true rfl) ⟨Nat.le_of_ble_eq_true rfl, Nat.le_of_ble_eq_true rfl⟩ ⟨rfl, rfl⟩ dX6_changeBox_70 (st2 := [.int r32]) rfl ?_
          refine go_if_ne (pc := 73) (tgt := 78) dX6_changeBox_73 rfl (fun c34 => ?_) (fun c34 => ?_)
          · replace h := ifn h c34
            refine go_iload (pc := 78) dX6_changeBox_78 rfl ?_
            refine go_istore (pc := 80) (i := 6) dX6_changeBox_80 (Nat.le_of_ble_eq_true rfl) (L2 := [some (.ref 0), some (.int a1), some (.int a2), some (.int a3), some (.int a3), some (.int r6), some (.int a3)]) rfl ?_
            exact gX6_changeBox_b82 _ _ _ _ _ _ _ _ _  h
          · replace h := ifp h c34
            refine go_iconst (pc := 76) (v := (-1)) dX6_changeBox_76 ci_m1 ?_
            cases h
            exact go_iret (pc := 77) (Or.inl rfl) ⟨Nat.zero_le _, Nat.zero_le _⟩ dX6_changeBox_77
    · replace h := ifp h c8
      refine go_iload_n (pc := 42) dX6_changeBox_42 rfl rfl ?_
      refine go_istore (pc := 43) (i := 5) dX6_changeBox_43 (Nat.le_of_ble_eq_true rfl) (L2 := [some (.ref 0), some (.int a1), some (.int a2), some (.int a3), some (.int r4), some (.int a3), none]) rfl ?_
      refine go_goto (pc := 45) (tgt := 154) dX6_changeBox_45 rfl ?_
      exact gX6_changeBox_b154  h
  · replace h := ifp h c3
    refine go_iconst (pc := 12) (v := (-1)) dX6_changeBox_12 ci_m1 ?_
    cases h
    exact go_iret (pc := 13) (Or.inl rfl) ⟨Nat.zero_le _, Nat.zero_le _⟩ dX6_changeBox_13
