def eX5_bringAllBack  (V : Mm) : Option (Mm) :=
  (eX2_bringBack 4 V).bind fun r1 =>
  (eX2_bringBack 28 r1).bind fun r3 =>
  (eX2_bringBack 52 r3).bind fun r5 =>
  some r5
set_option maxHeartbeats 4000000 in
set_option maxRecDepth 100000 in
theorem E_X5_bringAllBack  {V : Mm} {res : Mm}  (h : eX5_bringAllBack V = some res) : Ev mX5_bringAllBack [.ref 0] (hC V) none (hC res) := by
  refine Ev.of (n := 0) oX5_bringAllBack.1 (Nat.le_of_ble_eq_true rfl) ?_
  unfold eX5_bringAllBack at h
  show Go mX5_bringAllBack 0 [some (.ref 0)] [] (hC V) 0 0 none (hC res)
  refine go_aload_n (pc := 0) dX5_bringAllBack_0 rfl rfl ?_
  refine go_getP (pc := 1) (a := 4) fX5_30 (by decide) (show TC 0 = (5 + 5, 13) from rfl) rfl dX5_bringAllBack_1 ?_
  obtain ⟨r1, e2, h⟩ := ok_bind h
  refine go_cV (pc := 4) (ci := 2) (As := []) (st := []) (E_X2_bringBack isK_4 e2) rfl oX2_bringBack iX2_bringBack sX2_bringBack kX5_274 rfl (K_T isK_4) rfl (Nat.le_of_ble_eq_true rfl) ⟨Nat.le_of_ble_eq_true rfl, Nat.le_of_ble_eq_true rfl⟩ ⟨rfl, rfl⟩ dX5_bringAllBack_4 (st2 := []) rfl ?_
  refine go_aload_n (pc := 7) dX5_bringAllBack_7 rfl rfl ?_
  refine go_getP (pc := 8) (a := 28) fX5_34 (by decide) (show TC 0 = (5 + 5, 13) from rfl) rfl dX5_bringAllBack_8 ?_
  obtain ⟨r3, e4, h⟩ := ok_bind h
  refine go_cV (pc := 11) (ci := 2) (As := []) (st := []) (E_X2_bringBack isK_28 e4) rfl oX2_bringBack iX2_bringBack sX2_bringBack kX5_274 rfl (K_T isK_28) rfl (Nat.le_of_ble_eq_true rfl) ⟨Nat.le_of_ble_eq_true rfl, Nat.le_of_ble_eq_true rfl⟩ ⟨rfl, rfl⟩ dX5_bringAllBack_11 (st2 := []) rfl ?_
  refine go_aload_n (pc := 14) dX5_bringAllBack_14 rfl rfl ?_
  refine go_getP (pc := 15) (a := 52) fX5_37 (by decide) (show TC 0 = (5 + 5, 13) from rfl) rfl dX5_bringAllBack_15 ?_
  obtain ⟨r5, e6, h⟩ := ok_bind h
  refine go_cV (pc := 18) (ci := 2) (As := []) (st := []) (E_X2_bringBack isK_52 e6) rfl oX2_bringBack iX2_bringBack sX2_bringBack kX5_274 rfl (K_T isK_52) rfl (Nat.le_of_ble_eq_true rfl) ⟨Nat.le_of_ble_eq_true rfl, Nat.le_of_ble_eq_true rfl⟩ ⟨rfl, rfl⟩ dX5_bringAllBack_18 (st2 := []) rfl ?_
  cases h
  exact go_vret (pc := 21) rfl ⟨Nat.zero_le _, Nat.zero_le _⟩ dX5_bringAllBack_21
def eX5_changeIds_b67 : Nat → Nat → Nat → Nat → Int32 → Int32 → Mm → Option (Int32 × Mm)
  | 0, _, _, _, _, _, _ => none
  | n + 1, l1, l2, l3, l5, l6, V => 
    if (V 0 9) ≤ l6 then
      some (0, V)
    else
      if l6 < 0 ∨ 50 ≤ l6.toNatClampNeg then none else
      if (V l1 2) = 0 then
        (eX5_changeBox (V 88 l6.toNatClampNeg) (V l1 5) l5 V).bind fun r27 =>
        if r27.1 = 0 then
          (eX2_isTouched l3 (V 88 l6.toNatClampNeg) r27.2).bind fun r30 =>
          if r30 = 0 then
            eX5_changeIds_b67 n l1 l2 l3 l5 (l6 + 1) r27.2
          else
            (eX4_add l2 2 (V 88 l6.toNatClampNeg) r27.2).bind fun r33 =>
            eX5_changeIds_b67 n l1 l2 l3 l5 (l6 + 1) r33
        else
          (eX5_bringAllBack r27.2).bind fun r35 =>
          some (r27.1, r35)
      else
        (eX5_changeMail (V 88 l6.toNatClampNeg) (V l1 5) l5 V).bind fun r17 =>
        if r17.1 = 0 then
          (eX2_isTouched l3 (V 88 l6.toNatClampNeg) r17.2).bind fun r20 =>
          if r20 = 0 then
            eX5_changeIds_b67 n l1 l2 l3 l5 (l6 + 1) r17.2
          else
            (eX4_add l2 2 (V 88 l6.toNatClampNeg) r17.2).bind fun r23 =>
            eX5_changeIds_b67 n l1 l2 l3 l5 (l6 + 1) r23
        else
          (eX5_bringAllBack r17.2).bind fun r25 =>
          some (r17.1, r25)
set_option maxHeartbeats 4000000 in
set_option maxRecDepth 100000 in
theorem gX5_changeIds_b67 : ∀ (n : Nat) (l1 : Nat) (l2 : Nat) (l3 : Nat) (l5 : Int32) (l6 : Int32) (V : Mm) (res : Int32 × Mm) (hl1 : isCall l1) (hl2 : isOut l2) (hl3 : isK l3), eX5_changeIds_b67 n l1 l2 l3 l5 l6 V = some res → Go mX5_changeIds 67 [some (.ref 0), some (.ref l1), some (.ref l2), some (.ref l3), none, some (.int l5), some (.int l6), none, none] [] (hC V) 0 0 (some (.int res.1)) (hC res.2) := by
  intro n
  induction n with
  | zero =>
    intro l1 l2 l3 l5 l6 V res hl1 hl2 hl3 h
    cases h
  | succ n ih =>
    intro l1 l2 l3 l5 l6 V res hl1 hl2 hl3 h
    rw [eX5_changeIds_b67] at h
    refine go_iload (pc := 67) dX5_changeIds_67 rfl ?_
    refine go_aload_n (pc := 69) dX5_changeIds_69 rfl rfl ?_
    refine go_gI (pc := 70) (v := V 0 9) fX5_237 (by decide) (show TC 0 = (5 + 5, 13) from rfl) dX5_changeIds_70 rfl ?_
    refine go_icmp_ge (pc := 73) (tgt := 155) dX5_changeIds_73 rfl (fun c14 => ?_) (fun c14 => ?_)
    · replace h := ifp h c14
      refine go_iconst (pc := 155) (v := 0) dX5_changeIds_155 ci_0 ?_
      cases h
      exact go_iret (pc := 156) (Or.inl rfl) ⟨Nat.zero_le _, Nat.zero_le _⟩ dX5_changeIds_156
    · replace h := ifn h c14
      refine go_aload_n (pc := 76) dX5_changeIds_76 rfl rfl ?_
      refine go_getP (pc := 77) (a := 88) fX5_54 (by decide) (show TC 0 = (5 + 5, 13) from rfl) rfl dX5_changeIds_77 ?_
      refine go_iload (pc := 80) dX5_changeIds_80 rfl ?_
      obtain ⟨c15, h⟩ := ok_not h
      refine go_ia (pc := 82) (v := V 88 l6.toNatClampNeg) (show TC 88 = (0, 50) from rfl) (vin c15) dX5_changeIds_82 rfl ?_
      refine go_istore (pc := 83) (i := 7) dX5_changeIds_83 (Nat.le_of_ble_eq_true rfl) (L2 := [some (.ref 0), some (.ref l1), some (.ref l2), some (.ref l3), none, some (.int l5), some (.int l6), some (.int (V 88 l6.toNatClampNeg)), none]) rfl ?_
      refine go_aload_n (pc := 85) dX5_changeIds_85 rfl rfl ?_
      refine go_gI (pc := 86) (v := V l1 2) fX5_201 (by decide) (C_T hl1) dX5_changeIds_86 rfl ?_
      refine go_if_ne (pc := 89) (tgt := 107) dX5_changeIds_89 rfl (fun c16 => ?_) (fun c16 => ?_)
      · replace h := ifn h c16
        refine go_aload_n (pc := 107) dX5_changeIds_107 rfl rfl ?_
        refine go_iload (pc := 108) dX5_changeIds_108 rfl ?_
        refine go_aload_n (pc := 110) dX5_changeIds_110 rfl rfl ?_
        refine go_gI (pc := 111) (v := V l1 5) fX5_191 (by decide) (C_T hl1) dX5_changeIds_111 rfl ?_
        refine go_iload (pc := 114) dX5_changeIds_114 rfl ?_
        obtain ⟨r17, e18, h⟩ := ok_bind h
        refine go_cV (pc := 116) (ci := 5) (As := [.int (V 88 l6.toNatClampNeg), .int (V l1 5), .int l5]) (st := []) (E_X5_changeMail e18) rfl oX5_changeMail iX5_changeMail sX5_changeMail kX5_332 rfl (show TC 0 = (5 + 5, 13) from rfl) rfl (Nat.le_of_ble_eq_true rfl) ⟨Nat.le_of_ble_eq_true rfl, Nat.le_of_ble_eq_true rfl⟩ ⟨rfl, rfl⟩ dX5_changeIds_116 (st2 := [.int r17.1]) rfl ?_
        refine go_istore (pc := 119) (i := 8) dX5_changeIds_119 (Nat.le_of_ble_eq_true rfl) (L2 := [some (.ref 0), some (.ref l1), some (.ref l2), some (.ref l3), none, some (.int l5), some (.int l6), some (.int (V 88 l6.toNatClampNeg)), some (.int r17.1)]) rfl ?_
        refine go_iload (pc := 121) dX5_changeIds_121 rfl ?_
        refine go_if_eq (pc := 123) (tgt := 133) dX5_changeIds_123 rfl (fun c19 => ?_) (fun c19 => ?_)
        · replace h := ifp h c19
          refine go_aload_n (pc := 133) dX5_changeIds_133 rfl rfl ?_
          refine go_iload (pc := 134) dX5_changeIds_134 rfl ?_
          obtain ⟨r20, e21, h⟩ := ok_bind h
          refine go_cV (pc := 136) (ci := 2) (As := [.int (V 88 l6.toNatClampNeg)]) (st := []) (E_X2_isTouched hl3 e21) rfl oX2_isTouched iX2_isTouched sX2_isTouched kX5_280 rfl (K_T hl3) rfl (Nat.le_of_ble_eq_true rfl) ⟨Nat.le_of_ble_eq_true rfl, Nat.le_of_ble_eq_true rfl⟩ ⟨rfl, rfl⟩ dX5_changeIds_136 (st2 := [.int r20]) rfl ?_
          refine go_if_eq (pc := 139) (tgt := 149) dX5_changeIds_139 rfl (fun c22 => ?_) (fun c22 => ?_)
          · replace h := ifp h c22
            refine go_iinc (pc := 149) (v := (l6 + 1)) dX5_changeIds_149 rfl (by rw [ci_1]) (Nat.le_of_ble_eq_true rfl) (L2 := [some (.ref 0), some (.ref l1), some (.ref l2), some (.ref l3), none, some (.int l5), some (.int (l6 + 1)), some (.int (V 88 l6.toNatClampNeg)), some (.int r17.1)]) rfl ?_
            refine go_goto (pc := 152) (tgt := 67) dX5_changeIds_152 rfl ?_
            refine go_le (lle_s (lle_s (lle_s (lle_s (lle_n (lle_s (lle_s (lle_n (lle_n lle_0))))))))) ?_
            exact ih _ _ _ _ _ _ _ hl1 hl2 hl3 h
          · replace h := ifn h c22
            refine go_aload_n (pc := 142) dX5_changeIds_142 rfl rfl ?_
            refine go_iconst (pc := 143) (v := 2) dX5_changeIds_143 ci_2 ?_
            refine go_iload (pc := 144) dX5_changeIds_144 rfl ?_
            obtain ⟨r23, e24, h⟩ := ok_bind h
            refine go_cV (pc := 146) (ci := 4) (As := [.int 2, .int (V 88 l6.toNatClampNeg)]) (st := []) (E_X4_add hl2 e24) rfl oX4_add iX4_add sX4_add kX5_296 rfl (O_T hl2) rfl (Nat.le_of_ble_eq_true rfl) ⟨Nat.le_of_ble_eq_true rfl, Nat.le_of_ble_eq_true rfl⟩ ⟨rfl, rfl⟩ dX5_changeIds_146 (st2 := []) rfl ?_
            refine go_iinc (pc := 149) (v := (l6 + 1)) dX5_changeIds_149 rfl (by rw [ci_1]) (Nat.le_of_ble_eq_true rfl) (L2 := [some (.ref 0), some (.ref l1), some (.ref l2), some (.ref l3), none, some (.int l5), some (.int (l6 + 1)), some (.int (V 88 l6.toNatClampNeg)), some (.int r17.1)]) rfl ?_
            refine go_goto (pc := 152) (tgt := 67) dX5_changeIds_152 rfl ?_
            refine go_le (lle_s (lle_s (lle_s (lle_s (lle_n (lle_s (lle_s (lle_n (lle_n lle_0))))))))) ?_
            exact ih _ _ _ _ _ _ _ hl1 hl2 hl3 h
        · replace h := ifn h c19
          refine go_aload_n (pc := 126) dX5_changeIds_126 rfl rfl ?_
          obtain ⟨r25, e26, h⟩ := ok_bind h
          refine go_cV (pc := 127) (ci := 5) (As := []) (st := []) (E_X5_bringAllBack e26) rfl oX5_bringAllBack iX5_bringAllBack sX5_bringAllBack kX5_335 rfl (show TC 0 = (5 + 5, 13) from rfl) rfl (Nat.le_of_ble_eq_true rfl) ⟨Nat.le_of_ble_eq_true rfl, Nat.le_of_ble_eq_true rfl⟩ ⟨rfl, rfl⟩ dX5_changeIds_127 (st2 := []) rfl ?_
          refine go_iload (pc := 130) dX5_changeIds_130 rfl ?_
          cases h
          exact go_iret (pc := 132) (Or.inl rfl) ⟨Nat.zero_le _, Nat.zero_le _⟩ dX5_changeIds_132
      · replace h := ifp h c16
        refine go_aload_n (pc := 92) dX5_changeIds_92 rfl rfl ?_
        refine go_iload (pc := 93) dX5_changeIds_93 rfl ?_
        refine go_aload_n (pc := 95) dX5_changeIds_95 rfl rfl ?_
        refine go_gI (pc := 96) (v := V l1 5) fX5_191 (by decide) (C_T hl1) dX5_changeIds_96 rfl ?_
        refine go_iload (pc := 99) dX5_changeIds_99 rfl ?_
        obtain ⟨r27, e28, h⟩ := ok_bind h
        refine go_cV (pc := 101) (ci := 5) (As := [.int (V 88 l6.toNatClampNeg), .int (V l1 5), .int l5]) (st := []) (E_X5_changeBox e28) rfl oX5_changeBox iX5_changeBox sX5_changeBox kX5_329 rfl (show TC 0 = (5 + 5, 13) from rfl) rfl (Nat.le_of_ble_eq_true rfl) ⟨Nat.le_of_ble_eq_true rfl, Nat.le_of_ble_eq_true rfl⟩ ⟨rfl, rfl⟩ dX5_changeIds_101 (st2 := [.int r27.1]) rfl ?_
        refine go_goto (pc := 104) (tgt := 119) dX5_changeIds_104 rfl ?_
        refine go_istore (pc := 119) (i := 8) dX5_changeIds_119 (Nat.le_of_ble_eq_true rfl) (L2 := [some (.ref 0), some (.ref l1), some (.ref l2), some (.ref l3), none, some (.int l5), some (.int l6), some (.int (V 88 l6.toNatClampNeg)), some (.int r27.1)]) rfl ?_
        refine go_iload (pc := 121) dX5_changeIds_121 rfl ?_
        refine go_if_eq (pc := 123) (tgt := 133) dX5_changeIds_123 rfl (fun c29 => ?_) (fun c29 => ?_)
        · replace h := ifp h c29
          refine go_aload_n (pc := 133) dX5_changeIds_133 rfl rfl ?_
          refine go_iload (pc := 134) dX5_changeIds_134 rfl ?_
          obtain ⟨r30, e31, h⟩ := ok_bind h
          refine go_cV (pc := 136) (ci := 2) (As := [.int (V 88 l6.toNatClampNeg)]) (st := []) (E_X2_isTouched hl3 e31) rfl oX2_isTouched iX2_isTouched sX2_isTouched kX5_280 rfl (K_T hl3) rfl (Nat.le_of_ble_eq_true rfl) ⟨Nat.le_of_ble_eq_true rfl, Nat.le_of_ble_eq_true rfl⟩ ⟨rfl, rfl⟩ dX5_changeIds_136 (st2 := [.int r30]) rfl ?_
          refine go_if_eq (pc := 139) (tgt := 149) dX5_changeIds_139 rfl (fun c32 => ?_) (fun c32 => ?_)
          · replace h := ifp h c32
            refine go_iinc (pc := 149) (v := (l6 + 1)) dX5_changeIds_149 rfl (by rw [ci_1]) (Nat.le_of_ble_eq_true rfl) (L2 := [some (.ref 0), some (.ref l1), some (.ref l2), some (.ref l3), none, some (.int l5), some (.int (l6 + 1)), some (.int (V 88 l6.toNatClampNeg)), some (.int r27.1)]) rfl ?_
            refine go_goto (pc := 152) (tgt := 67) dX5_changeIds_152 rfl ?_
            refine go_le (lle_s (lle_s (lle_s (lle_s (lle_n (lle_s (lle_s (lle_n (lle_n lle_0))))))))) ?_
            exact ih _ _ _ _ _ _ _ hl1 hl2 hl3 h
          · replace h := ifn h c32
            refine go_aload_n (pc := 142) dX5_changeIds_142 rfl rfl ?_
            refine go_iconst (pc := 143) (v := 2) dX5_changeIds_143 ci_2 ?_
            refine go_iload (pc := 144) dX5_changeIds_144 rfl ?_
            obtain ⟨r33, e34, h⟩ := ok_bind h
            refine go_cV (pc := 146) (ci := 4) (As := [.int 2, .int (V 88 l6.toNatClampNeg)]) (st := []) (E_X4_add hl2 e34) rfl oX4_add iX4_add sX4_add kX5_296 rfl (O_T hl2) rfl (Nat.le_of_ble_eq_true rfl) ⟨Nat.le_of_ble_eq_true rfl, Nat.le_of_ble_eq_true rfl⟩ ⟨rfl, rfl⟩ dX5_changeIds_146 (st2 := []) rfl ?_
            refine go_iinc (pc := 149) (v := (l6 + 1)) dX5_changeIds_149 rfl (by rw [ci_1]) (Nat.le_of_ble_eq_true rfl) (L2 := [some (.ref 0), some (.ref l1), some (.ref l2), some (.ref l3), none, some (.int l5), some (.int (l6 + 1)), some (.int (V 88 l6.toNatClampNeg)), some (.int r27.1)]) rfl ?_
            refine go_goto (pc := 152) (tgt := 67) dX5_changeIds_152 rfl ?_
            refine go_le (lle_s (lle_s (lle_s (lle_s (lle_n (lle_s (lle_s (lle_n (lle_n lle_0))))))))) ?_
            exact ih _ _ _ _ _ _ _ hl1 hl2 hl3 h
        · replace h := ifn h c29
          refine go_aload_n (pc := 126) dX5_changeIds_126 rfl rfl ?_
          obtain ⟨r35, e36, h⟩ := ok_bind h
          refine go_cV (pc := 127) (ci := 5) (As := []) (st := []) (E_X5_bringAllBack e36) rfl oX5_bringAllBack iX5_bringAllBack sX5_bringAllBack kX5_335 rfl (show TC 0 = (5 + 5, 13) from rfl) rfl (Nat.le_of_ble_eq_true rfl) ⟨Nat.le_of_ble_eq_true rfl, Nat.le_of_ble_eq_true rfl⟩ ⟨rfl, rfl⟩ dX5_changeIds_127 (st2 := []) rfl ?_
          refine go_iload (pc := 130) dX5_changeIds_130 rfl ?_
          cases h
          exact go_iret (pc := 132) (Or.inl rfl) ⟨Nat.zero_le _, Nat.zero_le _⟩ dX5_changeIds_132
def eX5_changeIds (a1 : Nat) (a2 : Nat) (V : Mm) : Option (Int32 × Mm) :=
  (eX5_takeIds a1 V).bind fun r1 =>
  (eX5_kindOf (r1 a1 2) r1).bind fun r3 =>
  (eX5_tellsOneByV a1 r1).bind fun r6 =>
  if r6 = 0 then
    (eX5_keepAll r1).bind fun r41 =>
    eX5_changeIds_b67 fu a1 a2 r3 (r1 a1 6) 0 r41
  else
    if (r1 a1 2) = 0 then
      (eX5_parentOf (r1 a1 6) r1).bind fun r37 =>
      (eX5_keepAll r1).bind fun r39 =>
      eX5_changeIds_b67 fu a1 a2 r3 r37 0 r39
    else
      (eX5_idOf (r1 a1 6) r1).bind fun r10 =>
      (eX5_keepAll r1).bind fun r12 =>
      eX5_changeIds_b67 fu a1 a2 r3 r10 0 r12
set_option maxHeartbeats 4000000 in
set_option maxRecDepth 100000 in
theorem E_X5_changeIds {a1 : Nat} {a2 : Nat} {V : Mm} {res : Int32 × Mm} (ha1 : isCall a1) (ha2 : isOut a2) (h : eX5_changeIds a1 a2 V = some res) : Ev mX5_changeIds [.ref 0, .ref a1, .ref a2] (hC V) (some (.int res.1)) (hC res.2) := by
  refine Ev.of (n := 6) oX5_changeIds.1 (Nat.le_of_ble_eq_true rfl) ?_
  unfold eX5_changeIds at h
  show Go mX5_changeIds 0 [some (.ref 0), some (.ref a1), some (.ref a2), none, none, none, none, none, none] [] (hC V) 0 0 (some (.int res.1)) (hC res.2)
  refine go_aload_n (pc := 0) dX5_changeIds_0 rfl rfl ?_
  refine go_aload_n (pc := 1) dX5_changeIds_1 rfl rfl ?_
  obtain ⟨r1, e2, h⟩ := ok_bind h
  refine go_cV (pc := 2) (ci := 5) (As := [.ref a1]) (st := []) (E_X5_takeIds ha1 e2) rfl oX5_takeIds iX5_takeIds sX5_takeIds kX5_292 rfl (show TC 0 = (5 + 5, 13) from rfl) rfl (Nat.le_of_ble_eq_true rfl) ⟨Nat.le_of_ble_eq_true rfl, Nat.le_of_ble_eq_true rfl⟩ ⟨rfl, rfl⟩ dX5_changeIds_2 (st2 := []) rfl ?_
  refine go_aload_n (pc := 5) dX5_changeIds_5 rfl rfl ?_
  refine go_aload_n (pc := 6) dX5_changeIds_6 rfl rfl ?_
  refine go_gI (pc := 7) (v := r1 a1 2) fX5_201 (by decide) (C_T ha1) dX5_changeIds_7 rfl ?_
  obtain ⟨r3, e4, h⟩ := ok_bind h
  have hr5 : isK r3 := kindOf_isK e4
  refine go_cV (pc := 10) (ci := 5) (As := [.int (r1 a1 2)]) (st := []) (E_X5_kindOf e4) rfl oX5_kindOf iX5_kindOf sX5_kindOf kX5_132 rfl (show TC 0 = (5 + 5, 13) from rfl) rfl (Nat.le_of_ble_eq_true rfl) ⟨Nat.le_of_ble_eq_true rfl, Nat.le_of_ble_eq_true rfl⟩ ⟨rfl, rfl⟩ dX5_changeIds_10 (st2 := [.ref r3]) rfl ?_
  refine go_astore_n (pc := 13) (i := 3) dX5_changeIds_13 rfl (Nat.le_of_ble_eq_true rfl) (L2 := [some (.ref 0), some (.ref a1), some (.ref a2), some (.ref r3), none, none, none, none, none]) rfl ?_
  refine go_aload_n (pc := 14) dX5_changeIds_14 rfl rfl ?_
  obtain ⟨r6, e7, h⟩ := ok_bind h
  refine go_cS (pc := 15) (As := [.ref a1]) (st := []) (E_X5_tellsOneByV ha1 e7) rfl oX5_tellsOneByV iX5_tellsOneByV kX5_221 rfl (Nat.le_of_ble_eq_true rfl) ⟨Nat.le_of_ble_eq_true rfl, Nat.le_of_ble_eq_true rfl⟩ ⟨rfl, rfl⟩ dX5_changeIds_15 (st2 := [.int r6]) rfl ?_
  refine go_istore (pc := 18) (i := 4) dX5_changeIds_18 (Nat.le_of_ble_eq_true rfl) (L2 := [some (.ref 0), some (.ref a1), some (.ref a2), some (.ref r3), some (.int r6), none, none, none, none]) rfl ?_
  refine go_iload (pc := 20) dX5_changeIds_20 rfl ?_
  refine go_if_ne (pc := 22) (tgt := 32) dX5_changeIds_22 rfl (fun c8 => ?_) (fun c8 => ?_)
  · replace h := ifn h c8
    refine go_aload_n (pc := 32) dX5_changeIds_32 rfl rfl ?_
    refine go_gI (pc := 33) (v := r1 a1 2) fX5_201 (by decide) (C_T ha1) dX5_changeIds_33 rfl ?_
    refine go_if_ne (pc := 36) (tgt := 50) dX5_changeIds_36 rfl (fun c9 => ?_) (fun c9 => ?_)
    · replace h := ifn h c9
      refine go_aload_n (pc := 50) dX5_changeIds_50 rfl rfl ?_
      refine go_aload_n (pc := 51) dX5_changeIds_51 rfl rfl ?_
      refine go_gI (pc := 52) (v := r1 a1 6) fX5_86 (by decide) (C_T ha1) dX5_changeIds_52 rfl ?_
      obtain ⟨r10, e11, h⟩ := ok_bind h
      refine go_cV (pc := 55) (ci := 5) (As := [.int (r1 a1 6)]) (st := []) (E_X5_idOf e11) rfl oX5_idOf iX5_idOf sX5_idOf kX5_234 rfl (show TC 0 = (5 + 5, 13) from rfl) rfl (Nat.le_of_ble_eq_true rfl) ⟨Nat.le_of_ble_eq_true rfl, Nat.le_of_ble_eq_true rfl⟩ ⟨rfl, rfl⟩ dX5_changeIds_55 (st2 := [.int r10]) rfl ?_
      refine go_istore (pc := 58) (i := 5) dX5_changeIds_58 (Nat.le_of_ble_eq_true rfl) (L2 := [some (.ref 0), some (.ref a1), some (.ref a2), some (.ref r3), some (.int r6), some (.int r10), none, none, none]) rfl ?_
      refine go_aload_n (pc := 60) dX5_changeIds_60 rfl rfl ?_
      obtain ⟨r12, e13, h⟩ := ok_bind h
      refine go_cV (pc := 61) (ci := 5) (As := []) (st := []) (E_X5_keepAll e13) rfl oX5_keepAll iX5_keepAll sX5_keepAll kX5_326 rfl (show TC 0 = (5 + 5, 13) from rfl) rfl (Nat.le_of_ble_eq_true rfl) ⟨Nat.le_of_ble_eq_true rfl, Nat.le_of_ble_eq_true rfl⟩ ⟨rfl, rfl⟩ dX5_changeIds_61 (st2 := []) rfl ?_
      refine go_iconst (pc := 64) (v := 0) dX5_changeIds_64 ci_0 ?_
      refine go_istore (pc := 65) (i := 6) dX5_changeIds_65 (Nat.le_of_ble_eq_true rfl) (L2 := [some (.ref 0), some (.ref a1), some (.ref a2), some (.ref r3), some (.int r6), some (.int r10), some (.int 0), none, none]) rfl ?_
      refine go_le (lle_s (lle_s (lle_s (lle_s (lle_n (lle_s (lle_s (lle_n (lle_n lle_0))))))))) ?_
      exact gX5_changeIds_b67 _ _ _ _ _ _ _ _ ha1 ha2 hr5 h
    · replace h := ifp h c9
      refine go_aload_n (pc := 39) dX5_changeIds_39 rfl rfl ?_
      refine go_aload_n (pc := 40) dX5_changeIds_40 rfl rfl ?_
      refine go_gI (pc := 41) (v := r1 a1 6) fX5_86 (by decide) (C_T ha1) dX5_changeIds_41 rfl ?_
      obtain ⟨r37, e38, h⟩ := ok_bind h
      refine go_cV (pc := 44) (ci := 5) (As := [.int (r1 a1 6)]) (st := []) (E_X5_parentOf e38) rfl oX5_parentOf iX5_parentOf sX5_parentOf kX5_304 rfl (show TC 0 = (5 + 5, 13) from rfl) rfl (Nat.le_of_ble_eq_true rfl) ⟨Nat.le_of_ble_eq_true rfl, Nat.le_of_ble_eq_true rfl⟩ ⟨rfl, rfl⟩ dX5_changeIds_44 (st2 := [.int r37]) rfl ?_
      refine go_goto (pc := 47) (tgt := 58) dX5_changeIds_47 rfl ?_
      refine go_istore (pc := 58) (i := 5) dX5_changeIds_58 (Nat.le_of_ble_eq_true rfl) (L2 := [some (.ref 0), some (.ref a1), some (.ref a2), some (.ref r3), some (.int r6), some (.int r37), none, none, none]) rfl ?_
      refine go_aload_n (pc := 60) dX5_changeIds_60 rfl rfl ?_
      obtain ⟨r39, e40, h⟩ := ok_bind h
      refine go_cV (pc := 61) (ci := 5) (As := []) (st := []) (E_X5_keepAll e40) rfl oX5_keepAll iX5_keepAll sX5_keepAll kX5_326 rfl (show TC 0 = (5 + 5, 13) from rfl) rfl (Nat.le_of_ble_eq_true rfl) ⟨Nat.le_of_ble_eq_true rfl, Nat.le_of_ble_eq_true rfl⟩ ⟨rfl, rfl⟩ dX5_changeIds_61 (st2 := []) rfl ?_
      refine go_iconst (pc := 64) (v := 0) dX5_changeIds_64 ci_0 ?_
      refine go_istore (pc := 65) (i := 6) dX5_changeIds_65 (Nat.le_of_ble_eq_true rfl) (L2 := [some (.ref 0), some (.ref a1), some (.ref a2), some (.ref r3), some (.int r6), some (.int r37), some (.int 0), none, none]) rfl ?_
      refine go_le (lle_s (lle_s (lle_s (lle_s (lle_n (lle_s (lle_s (lle_n (lle_n lle_0))))))))) ?_
      exact gX5_changeIds_b67 _ _ _ _ _ _ _ _ ha1 ha2 hr5 h
  · replace h := ifp h c8
    refine go_aload_n (pc := 25) dX5_changeIds_25 rfl rfl ?_
    refine go_gI (pc := 26) (v := r1 a1 6) fX5_86 (by decide) (C_T ha1) dX5_changeIds_26 rfl ?_
    refine go_goto (pc := 29) (tgt := 58) dX5_changeIds_29 rfl ?_
    refine go_istore (pc := 58) (i := 5) dX5_changeIds_58 (Nat.le_of_ble_eq_true rfl) (L2 := [some (.ref 0), some (.ref a1), some (.ref a2), some (.ref r3), some (.int r6), some (.int (r1 a1 6)), none, none, none]) rfl ?_
    refine go_aload_n (pc := 60) dX5_changeIds_60 rfl rfl ?_
    obtain ⟨r41, e42, h⟩ := ok_bind h
    refine go_cV (pc := 61) (ci := 5) (As := []) (st := []) (E_X5_keepAll e42) rfl oX5_keepAll iX5_keepAll sX5_keepAll kX5_326 rfl (show TC 0 = (5 + 5, 13) from rfl) rfl (Nat.le_of_ble_eq_true rfl) ⟨Nat.le_of_ble_eq_true rfl, Nat.le_of_ble_eq_true rfl⟩ ⟨rfl, rfl⟩ dX5_changeIds_61 (st2 := []) rfl ?_
    refine go_iconst (pc := 64) (v := 0) dX5_changeIds_64 ci_0 ?_
    refine go_istore (pc := 65) (i := 6) dX5_changeIds_65 (Nat.le_of_ble_eq_true rfl) (L2 := [some (.ref 0), some (.ref a1), some (.ref a2), some (.ref r3), some (.int r6), some (.int (r1 a1 6)), some (.int 0), none, none]) rfl ?_
    refine go_le (lle_s (lle_s (lle_s (lle_s (lle_n (lle_s (lle_s (lle_n (lle_n lle_0))))))))) ?_
    exact gX5_changeIds_b67 _ _ _ _ _ _ _ _ ha1 ha2 hr5 h
def eX5_mailsIn_b4 : Nat → Int32 → Int32 → Int32 → Mm → Option (Int32)
  | 0, _, _, _, _ => none
  | n + 1, l1, l2, l3, V => 
    if (V 28 4) ≤ l3 then
      some l2
    else
      (eX2_isThere 28 l3 V).bind fun r2 =>
      if r2 = 0 then
        eX5_mailsIn_b4 n l1 l2 (l3 + 1) V
      else
        (eX5_isIn l3 l1 V).bind fun r5 =>
        if r5 = 0 then
          eX5_mailsIn_b4 n l1 l2 (l3 + 1) V
        else
          eX5_mailsIn_b4 n l1 (l2 + 1) (l3 + 1) V
set_option maxHeartbeats 4000000 in
set_option maxRecDepth 100000 in
theorem gX5_mailsIn_b4 : ∀ (n : Nat) (l1 : Int32) (l2 : Int32) (l3 : Int32) (V : Mm) (res : Int32) , eX5_mailsIn_b4 n l1 l2 l3 V = some res → Go mX5_mailsIn 4 [some (.ref 0), some (.int l1), some (.int l2), some (.int l3)] [] (hC V) 0 0 (some (.int res)) (hC V) := by
  intro n
  induction n with
  | zero =>
    intro l1 l2 l3 V res  h
    cases h
  | succ n ih =>
    intro l1 l2 l3 V res  h
    rw [eX5_mailsIn_b4] at h
    refine go_iload_n (pc := 4) dX5_mailsIn_4 rfl rfl ?_
    refine go_aload_n (pc := 5) dX5_mailsIn_5 rfl rfl ?_
    refine go_getP (pc := 6) (a := 28) fX5_34 (by decide) (show TC 0 = (5 + 5, 13) from rfl) rfl dX5_mailsIn_6 ?_
    refine go_gI (pc := 9) (v := V 28 4) fX5_146 (by decide) (K_T isK_28) dX5_mailsIn_9 rfl ?_
    refine go_icmp_ge (pc := 12) (tgt := 44) dX5_mailsIn_12 rfl (fun c1 => ?_) (fun c1 => ?_)
    · replace h := ifp h c1
      refine go_iload_n (pc := 44) dX5_mailsIn_44 rfl rfl ?_
      cases h
      exact go_iret (pc := 45) (Or.inl rfl) ⟨Nat.zero_le _, Nat.zero_le _⟩ dX5_mailsIn_45
    · replace h := ifn h c1
      refine go_aload_n (pc := 15) dX5_mailsIn_15 rfl rfl ?_
      refine go_getP (pc := 16) (a := 28) fX5_34 (by decide) (show TC 0 = (5 + 5, 13) from rfl) rfl dX5_mailsIn_16 ?_
      refine go_iload_n (pc := 19) dX5_mailsIn_19 rfl rfl ?_
      obtain ⟨r2, e3, h⟩ := ok_bind h
      refine go_cV (pc := 20) (ci := 2) (As := [.int l3]) (st := []) (E_X2_isThere isK_28 e3) rfl oX2_isThere iX2_isThere sX2_isThere kX5_149 rfl (K_T isK_28) rfl (Nat.le_of_ble_eq_true rfl) ⟨Nat.le_of_ble_eq_true rfl, Nat.le_of_ble_eq_true rfl⟩ ⟨rfl, rfl⟩ dX5_mailsIn_20 (st2 := [.int r2]) rfl ?_
      refine go_if_eq (pc := 23) (tgt := 38) dX5_mailsIn_23 rfl (fun c4 => ?_) (fun c4 => ?_)
      · replace h := ifp h c4
        refine go_iinc (pc := 38) (v := (l3 + 1)) dX5_mailsIn_38 rfl (by rw [ci_1]) (Nat.le_of_ble_eq_true rfl) (L2 := [some (.ref 0), some (.int l1), some (.int l2), some (.int (l3 + 1))]) rfl ?_
        refine go_goto (pc := 41) (tgt := 4) dX5_mailsIn_41 rfl ?_
        exact ih _ _ _ _ _  h
      · replace h := ifn h c4
        refine go_aload_n (pc := 26) dX5_mailsIn_26 rfl rfl ?_
        refine go_iload_n (pc := 27) dX5_mailsIn_27 rfl rfl ?_
        refine go_iload_n (pc := 28) dX5_mailsIn_28 rfl rfl ?_
        obtain ⟨r5, e6, h⟩ := ok_bind h
        refine go_cV (pc := 29) (ci := 5) (As := [.int l3, .int l1]) (st := []) (E_X5_isIn e6) rfl oX5_isIn iX5_isIn sX5_isIn kX5_169 rfl (show TC 0 = (5 + 5, 13) from rfl) rfl (Nat.le_of_ble_eq_true rfl) ⟨Nat.le_of_ble_eq_true rfl, Nat.le_of_ble_eq_true rfl⟩ ⟨rfl, rfl⟩ dX5_mailsIn_29 (st2 := [.int r5]) rfl ?_
        refine go_if_eq (pc := 32) (tgt := 38) dX5_mailsIn_32 rfl (fun c7 => ?_) (fun c7 => ?_)
        · replace h := ifp h c7
          refine go_iinc (pc := 38) (v := (l3 + 1)) dX5_mailsIn_38 rfl (by rw [ci_1]) (Nat.le_of_ble_eq_true rfl) (L2 := [some (.ref 0), some (.int l1), some (.int l2), some (.int (l3 + 1))]) rfl ?_
          refine go_goto (pc := 41) (tgt := 4) dX5_mailsIn_41 rfl ?_
          exact ih _ _ _ _ _  h
        · replace h := ifn h c7
          refine go_iinc (pc := 35) (v := (l2 + 1)) dX5_mailsIn_35 rfl (by rw [ci_1]) (Nat.le_of_ble_eq_true rfl) (L2 := [some (.ref 0), some (.int l1), some (.int (l2 + 1)), some (.int l3)]) rfl ?_
          refine go_iinc (pc := 38) (v := (l3 + 1)) dX5_mailsIn_38 rfl (by rw [ci_1]) (Nat.le_of_ble_eq_true rfl) (L2 := [some (.ref 0), some (.int l1), some (.int (l2 + 1)), some (.int (l3 + 1))]) rfl ?_
          refine go_goto (pc := 41) (tgt := 4) dX5_mailsIn_41 rfl ?_
          exact ih _ _ _ _ _  h
def eX5_mailsIn (a1 : Int32) (V : Mm) : Option (Int32) :=
  eX5_mailsIn_b4 fu a1 0 0 V
set_option maxHeartbeats 4000000 in
set_option maxRecDepth 100000 in
theorem E_X5_mailsIn {a1 : Int32} {V : Mm} {res : Int32}  (h : eX5_mailsIn a1 V = some res) : Ev mX5_mailsIn [.ref 0, .int a1] (hC V) (some (.int res)) (hC V) := by
  refine Ev.of (n := 2) oX5_mailsIn.1 (Nat.le_of_ble_eq_true rfl) ?_
  unfold eX5_mailsIn at h
  show Go mX5_mailsIn 0 [some (.ref 0), some (.int a1), none, none] [] (hC V) 0 0 (some (.int res)) (hC V)
  refine go_iconst (pc := 0) (v := 0) dX5_mailsIn_0 ci_0 ?_
  refine go_istore_n (pc := 1) (i := 2) dX5_mailsIn_1 rfl (Nat.le_of_ble_eq_true rfl) (L2 := [some (.ref 0), some (.int a1), some (.int 0), none]) rfl ?_
  refine go_iconst (pc := 2) (v := 0) dX5_mailsIn_2 ci_0 ?_
  refine go_istore_n (pc := 3) (i := 3) dX5_mailsIn_3 rfl (Nat.le_of_ble_eq_true rfl) (L2 := [some (.ref 0), some (.int a1), some (.int 0), some (.int 0)]) rfl ?_
  exact gX5_mailsIn_b4 _ _ _ _ _ _  h
def eX5_destroyBox (a1 : Int32) (V : Mm) : Option (Int32 × Mm) :=
  (eX2_isThere 4 a1 V).bind fun r1 =>
  if r1 = 0 then
    some ((-1), V)
  else
    (eX2_howManyWith 4 1 a1 V).bind fun r4 =>
    if 0 < r4 then
      some ((-3), V)
    else
      (eX5_mailsIn a1 V).bind fun r7 =>
      if r7 ≤ 0 then
        (eX2_remove 4 a1 V).bind fun r10 =>
        some (0, r10)
      else
        some ((-3), V)
set_option maxHeartbeats 4000000 in
set_option maxRecDepth 100000 in
theorem E_X5_destroyBox {a1 : Int32} {V : Mm} {res : Int32 × Mm}  (h : eX5_destroyBox a1 V = some res) : Ev mX5_destroyBox [.ref 0, .int a1] (hC V) (some (.int res.1)) (hC res.2) := by
  refine Ev.of (n := 0) oX5_destroyBox.1 (Nat.le_of_ble_eq_true rfl) ?_
  unfold eX5_destroyBox at h
  show Go mX5_destroyBox 0 [some (.ref 0), some (.int a1)] [] (hC V) 0 0 (some (.int res.1)) (hC res.2)
  refine go_aload_n (pc := 0) dX5_destroyBox_0 rfl rfl ?_
  refine go_getP (pc := 1) (a := 4) fX5_30 (by decide) (show TC 0 = (5 + 5, 13) from rfl) rfl dX5_destroyBox_1 ?_
  refine go_iload_n (pc := 4) dX5_destroyBox_4 rfl rfl ?_
  obtain ⟨r1, e2, h⟩ := ok_bind h
  refine go_cV (pc := 5) (ci := 2) (As := [.int a1]) (st := []) (E_X2_isThere isK_4 e2) rfl oX2_isThere iX2_isThere sX2_isThere kX5_149 rfl (K_T isK_4) rfl (Nat.le_of_ble_eq_true rfl) ⟨Nat.le_of_ble_eq_true rfl, Nat.le_of_ble_eq_true rfl⟩ ⟨rfl, rfl⟩ dX5_destroyBox_5 (st2 := [.int r1]) rfl ?_
  refine go_if_ne (pc := 8) (tgt := 13) dX5_destroyBox_8 rfl (fun c3 => ?_) (fun c3 => ?_)
  · replace h := ifn h c3
    refine go_aload_n (pc := 13) dX5_destroyBox_13 rfl rfl ?_
    refine go_getP (pc := 14) (a := 4) fX5_30 (by decide) (show TC 0 = (5 + 5, 13) from rfl) rfl dX5_destroyBox_14 ?_
    refine go_iconst (pc := 17) (v := 1) dX5_destroyBox_17 ci_1 ?_
    refine go_iload_n (pc := 18) dX5_destroyBox_18 rfl rfl ?_
    obtain ⟨r4, e5, h⟩ := ok_bind h
    refine go_cV (pc := 19) (ci := 2) (As := [.int 1, .int a1]) (st := []) (E_X2_howManyWith isK_4 e5) rfl oX2_howManyWith iX2_howManyWith sX2_howManyWith kX5_158 rfl (K_T isK_4) rfl (Nat.le_of_ble_eq_true rfl) ⟨Nat.le_of_ble_eq_true rfl, Nat.le_of_ble_eq_true rfl⟩ ⟨rfl, rfl⟩ dX5_destroyBox_19 (st2 := [.int r4]) rfl ?_
    refine go_if_gt (pc := 22) (tgt := 33) dX5_destroyBox_22 rfl (fun c6 => ?_) (fun c6 => ?_)
    · replace h := ifp h c6
      refine go_bipush (pc := 33) (v := (-3)) dX5_destroyBox_33 cb_m3 ?_
      cases h
      exact go_iret (pc := 35) (Or.inl rfl) ⟨Nat.zero_le _, Nat.zero_le _⟩ dX5_destroyBox_35
    · replace h := ifn h c6
      refine go_aload_n (pc := 25) dX5_destroyBox_25 rfl rfl ?_
      refine go_iload_n (pc := 26) dX5_destroyBox_26 rfl rfl ?_
      obtain ⟨r7, e8, h⟩ := ok_bind h
      refine go_cV (pc := 27) (ci := 5) (As := [.int a1]) (st := []) (E_X5_mailsIn e8) rfl oX5_mailsIn iX5_mailsIn sX5_mailsIn kX5_155 rfl (show TC 0 = (5 + 5, 13) from rfl) rfl (Nat.le_of_ble_eq_true rfl) ⟨Nat.le_of_ble_eq_true rfl, Nat.le_of_ble_eq_true rfl⟩ ⟨rfl, rfl⟩ dX5_destroyBox_27 (st2 := [.int r7]) rfl ?_
      refine go_if_le (pc := 30) (tgt := 36) dX5_destroyBox_30 rfl (fun c9 => ?_) (fun c9 => ?_)
      · replace h := ifp h c9
        refine go_aload_n (pc := 36) dX5_destroyBox_36 rfl rfl ?_
        refine go_getP (pc := 37) (a := 4) fX5_30 (by decide) (show TC 0 = (5 + 5, 13) from rfl) rfl dX5_destroyBox_37 ?_
        refine go_iload_n (pc := 40) dX5_destroyBox_40 rfl rfl ?_
        obtain ⟨r10, e11, h⟩ := ok_bind h
        refine go_cV (pc := 41) (ci := 2) (As := [.int a1]) (st := []) (E_X2_remove isK_4 e11) rfl oX2_remove iX2_remove sX2_remove kX5_350 rfl (K_T isK_4) rfl (Nat.le_of_ble_eq_true rfl) ⟨Nat.le_of_ble_eq_true rfl, Nat.le_of_ble_eq_true rfl⟩ ⟨rfl, rfl⟩ dX5_destroyBox_41 (st2 := []) rfl ?_
        refine go_iconst (pc := 44) (v := 0) dX5_destroyBox_44 ci_0 ?_
        cases h
        exact go_iret (pc := 45) (Or.inl rfl) ⟨Nat.zero_le _, Nat.zero_le _⟩ dX5_destroyBox_45
      · replace h := ifn h c9
        refine go_bipush (pc := 33) (v := (-3)) dX5_destroyBox_33 cb_m3 ?_
        cases h
        exact go_iret (pc := 35) (Or.inl rfl) ⟨Nat.zero_le _, Nat.zero_le _⟩ dX5_destroyBox_35
  · replace h := ifp h c3
    refine go_iconst (pc := 11) (v := (-1)) dX5_destroyBox_11 ci_m1 ?_
    cases h
    exact go_iret (pc := 12) (Or.inl rfl) ⟨Nat.zero_le _, Nat.zero_le _⟩ dX5_destroyBox_12
def eX5_leaveThread (a1 : Int32) (V : Mm) : Option (Mm) :=
  (eX2_value 28 a1 7 V).bind fun r1 =>
  (eX2_value 52 r1 0 V).bind fun r3 =>
  (eX2_set 52 r1 0 (r3 - 1) V).bind fun r5 =>
  if (r3 - 1) = 0 then
    (eX2_remove 52 r1 r5).bind fun r10 =>
    some r10
  else
    (eX2_touch 52 r1 2 r5).bind fun r8 =>
    some r8
set_option maxHeartbeats 4000000 in
set_option maxRecDepth 100000 in
theorem E_X5_leaveThread {a1 : Int32} {V : Mm} {res : Mm}  (h : eX5_leaveThread a1 V = some res) : Ev mX5_leaveThread [.ref 0, .int a1] (hC V) none (hC res) := by
  refine Ev.of (n := 2) oX5_leaveThread.1 (Nat.le_of_ble_eq_true rfl) ?_
  unfold eX5_leaveThread at h
  show Go mX5_leaveThread 0 [some (.ref 0), some (.int a1), none, none] [] (hC V) 0 0 none (hC res)
  refine go_aload_n (pc := 0) dX5_leaveThread_0 rfl rfl ?_
  refine go_getP (pc := 1) (a := 28) fX5_34 (by decide) (show TC 0 = (5 + 5, 13) from rfl) rfl dX5_leaveThread_1 ?_
  refine go_iload_n (pc := 4) dX5_leaveThread_4 rfl rfl ?_
  refine go_bipush (pc := 5) (v := 7) dX5_leaveThread_5 cb_7 ?_
  obtain ⟨r1, e2, h⟩ := ok_bind h
  refine go_cV (pc := 7) (ci := 2) (As := [.int a1, .int 7]) (st := []) (E_X2_value isK_28 e2) rfl oX2_value iX2_value sX2_value kX5_152 rfl (K_T isK_28) rfl (Nat.le_of_ble_eq_true rfl) ⟨Nat.le_of_ble_eq_true rfl, Nat.le_of_ble_eq_true rfl⟩ ⟨rfl, rfl⟩ dX5_leaveThread_7 (st2 := [.int r1]) rfl ?_
  refine go_istore_n (pc := 10) (i := 2) dX5_leaveThread_10 rfl (Nat.le_of_ble_eq_true rfl) (L2 := [some (.ref 0), some (.int a1), some (.int r1), none]) rfl ?_
  refine go_aload_n (pc := 11) dX5_leaveThread_11 rfl rfl ?_
  refine go_getP (pc := 12) (a := 52) fX5_37 (by decide) (show TC 0 = (5 + 5, 13) from rfl) rfl dX5_leaveThread_12 ?_
  refine go_iload_n (pc := 15) dX5_leaveThread_15 rfl rfl ?_
  refine go_iconst (pc := 16) (v := 0) dX5_leaveThread_16 ci_0 ?_
  obtain ⟨r3, e4, h⟩ := ok_bind h
  refine go_cV (pc := 17) (ci := 2) (As := [.int r1, .int 0]) (st := []) (E_X2_value isK_52 e4) rfl oX2_value iX2_value sX2_value kX5_152 rfl (K_T isK_52) rfl (Nat.le_of_ble_eq_true rfl) ⟨Nat.le_of_ble_eq_true rfl, Nat.le_of_ble_eq_true rfl⟩ ⟨rfl, rfl⟩ dX5_leaveThread_17 (st2 := [.int r3]) rfl ?_
  refine go_iconst (pc := 20) (v := 1) dX5_leaveThread_20 ci_1 ?_
  refine go_isub (pc := 21) dX5_leaveThread_21 ?_
  refine go_istore_n (pc := 22) (i := 3) dX5_leaveThread_22 rfl (Nat.le_of_ble_eq_true rfl) (L2 := [some (.ref 0), some (.int a1), some (.int r1), some (.int (r3 - 1))]) rfl ?_
  refine go_aload_n (pc := 23) dX5_leaveThread_23 rfl rfl ?_
  refine go_getP (pc := 24) (a := 52) fX5_37 (by decide) (show TC 0 = (5 + 5, 13) from rfl) rfl dX5_leaveThread_24 ?_
  refine go_iload_n (pc := 27) dX5_leaveThread_27 rfl rfl ?_
  refine go_iconst (pc := 28) (v := 0) dX5_leaveThread_28 ci_0 ?_
  refine go_iload_n (pc := 29) dX5_leaveThread_29 rfl rfl ?_
  obtain ⟨r5, e6, h⟩ := ok_bind h
  refine go_cV (pc := 30) (ci := 2) (As := [.int r1, .int 0, .int (r3 - 1)]) (st := []) (E_X2_set isK_52 e6) rfl oX2_set iX2_set sX2_set kX5_316 rfl (K_T isK_52) rfl (Nat.le_of_ble_eq_true rfl) ⟨Nat.le_of_ble_eq_true rfl, Nat.le_of_ble_eq_true rfl⟩ ⟨rfl, rfl⟩ dX5_leaveThread_30 (st2 := []) rfl ?_
  refine go_iload_n (pc := 33) dX5_leaveThread_33 rfl rfl ?_
  refine go_if_ne (pc := 34) (tgt := 48) dX5_leaveThread_34 rfl (fun c7 => ?_) (fun c7 => ?_)
  · replace h := ifn h c7
    refine go_aload_n (pc := 48) dX5_leaveThread_48 rfl rfl ?_
    refine go_getP (pc := 49) (a := 52) fX5_37 (by decide) (show TC 0 = (5 + 5, 13) from rfl) rfl dX5_leaveThread_49 ?_
    refine go_iload_n (pc := 52) dX5_leaveThread_52 rfl rfl ?_
    refine go_iconst (pc := 53) (v := 2) dX5_leaveThread_53 ci_2 ?_
    obtain ⟨r8, e9, h⟩ := ok_bind h
    refine go_cV (pc := 54) (ci := 2) (As := [.int r1, .int 2]) (st := []) (E_X2_touch isK_52 e9) rfl oX2_touch iX2_touch sX2_touch kX5_338 rfl (K_T isK_52) rfl (Nat.le_of_ble_eq_true rfl) ⟨Nat.le_of_ble_eq_true rfl, Nat.le_of_ble_eq_true rfl⟩ ⟨rfl, rfl⟩ dX5_leaveThread_54 (st2 := []) rfl ?_
    cases h
    exact go_vret (pc := 57) rfl ⟨Nat.zero_le _, Nat.zero_le _⟩ dX5_leaveThread_57
  · replace h := ifp h c7
    refine go_aload_n (pc := 37) dX5_leaveThread_37 rfl rfl ?_
    refine go_getP (pc := 38) (a := 52) fX5_37 (by decide) (show TC 0 = (5 + 5, 13) from rfl) rfl dX5_leaveThread_38 ?_
    refine go_iload_n (pc := 41) dX5_leaveThread_41 rfl rfl ?_
    obtain ⟨r10, e11, h⟩ := ok_bind h
    refine go_cV (pc := 42) (ci := 2) (As := [.int r1]) (st := []) (E_X2_remove isK_52 e11) rfl oX2_remove iX2_remove sX2_remove kX5_350 rfl (K_T isK_52) rfl (Nat.le_of_ble_eq_true rfl) ⟨Nat.le_of_ble_eq_true rfl, Nat.le_of_ble_eq_true rfl⟩ ⟨rfl, rfl⟩ dX5_leaveThread_42 (st2 := []) rfl ?_
    refine go_goto (pc := 45) (tgt := 57) dX5_leaveThread_45 rfl ?_
    cases h
    exact go_vret (pc := 57) rfl ⟨Nat.zero_le _, Nat.zero_le _⟩ dX5_leaveThread_57
def eX5_destroyMail (a1 : Int32) (V : Mm) : Option (Int32 × Mm) :=
  (eX2_isThere 28 a1 V).bind fun r1 =>
  if r1 = 0 then
    some ((-1), V)
  else
    (eX2_remove 28 a1 V).bind fun r4 =>
    (eX5_leaveThread a1 r4).bind fun r6 =>
    some (0, r6)
set_option maxHeartbeats 4000000 in
set_option maxRecDepth 100000 in
theorem E_X5_destroyMail {a1 : Int32} {V : Mm} {res : Int32 × Mm}  (h : eX5_destroyMail a1 V = some res) : Ev mX5_destroyMail [.ref 0, .int a1] (hC V) (some (.int res.1)) (hC res.2) := by
  refine Ev.of (n := 0) oX5_destroyMail.1 (Nat.le_of_ble_eq_true rfl) ?_
  unfold eX5_destroyMail at h
  show Go mX5_destroyMail 0 [some (.ref 0), some (.int a1)] [] (hC V) 0 0 (some (.int res.1)) (hC res.2)
  refine go_aload_n (pc := 0) dX5_destroyMail_0 rfl rfl ?_
  refine go_getP (pc := 1) (a := 28) fX5_34 (by decide) (show TC 0 = (5 + 5, 13) from rfl) rfl dX5_destroyMail_1 ?_
  refine go_iload_n (pc := 4) dX5_destroyMail_4 rfl rfl ?_
  obtain ⟨r1, e2, h⟩ := ok_bind h
  refine go_cV (pc := 5) (ci := 2) (As := [.int a1]) (st := []) (E_X2_isThere isK_28 e2) rfl oX2_isThere iX2_isThere sX2_isThere kX5_149 rfl (K_T isK_28) rfl (Nat.le_of_ble_eq_true rfl) ⟨Nat.le_of_ble_eq_true rfl, Nat.le_of_ble_eq_true rfl⟩ ⟨rfl, rfl⟩ dX5_destroyMail_5 (st2 := [.int r1]) rfl ?_
  refine go_if_ne (pc := 8) (tgt := 13) dX5_destroyMail_8 rfl (fun c3 => ?_) (fun c3 => ?_)
  · replace h := ifn h c3
    refine go_aload_n (pc := 13) dX5_destroyMail_13 rfl rfl ?_
    refine go_getP (pc := 14) (a := 28) fX5_34 (by decide) (show TC 0 = (5 + 5, 13) from rfl) rfl dX5_destroyMail_14 ?_
    refine go_iload_n (pc := 17) dX5_destroyMail_17 rfl rfl ?_
    obtain ⟨r4, e5, h⟩ := ok_bind h
    refine go_cV (pc := 18) (ci := 2) (As := [.int a1]) (st := []) (E_X2_remove isK_28 e5) rfl oX2_remove iX2_remove sX2_remove kX5_350 rfl (K_T isK_28) rfl (Nat.le_of_ble_eq_true rfl) ⟨Nat.le_of_ble_eq_true rfl, Nat.le_of_ble_eq_true rfl⟩ ⟨rfl, rfl⟩ dX5_destroyMail_18 (st2 := []) rfl ?_
    refine go_aload_n (pc := 21) dX5_destroyMail_21 rfl rfl ?_
    refine go_iload_n (pc := 22) dX5_destroyMail_22 rfl rfl ?_
    obtain ⟨r6, e7, h⟩ := ok_bind h
    refine go_cV (pc := 23) (ci := 5) (As := [.int a1]) (st := []) (E_X5_leaveThread e7) rfl oX5_leaveThread iX5_leaveThread sX5_leaveThread kX5_353 rfl (show TC 0 = (5 + 5, 13) from rfl) rfl (Nat.le_of_ble_eq_true rfl) ⟨Nat.le_of_ble_eq_true rfl, Nat.le_of_ble_eq_true rfl⟩ ⟨rfl, rfl⟩ dX5_destroyMail_23 (st2 := []) rfl ?_
    refine go_iconst (pc := 26) (v := 0) dX5_destroyMail_26 ci_0 ?_
    cases h
    exact go_iret (pc := 27) (Or.inl rfl) ⟨Nat.zero_le _, Nat.zero_le _⟩ dX5_destroyMail_27
  · replace h := ifp h c3
    refine go_iconst (pc := 11) (v := (-1)) dX5_destroyMail_11 ci_m1 ?_
    cases h
    exact go_iret (pc := 12) (Or.inl rfl) ⟨Nat.zero_le _, Nat.zero_le _⟩ dX5_destroyMail_12
def eX5_destroyIds_b11 : Nat → Nat → Nat → Int32 → Mm → Option (Int32 × Mm)
  | 0, _, _, _, _ => none
  | n + 1, l1, l2, l3, V => 
    if (V 0 9) ≤ l3 then
      some (0, V)
    else
      if (V l1 2) = 0 then
        if l3 < 0 ∨ 50 ≤ l3.toNatClampNeg then none else
        (eX5_destroyBox (V 88 l3.toNatClampNeg) V).bind fun r17 =>
        if r17.1 = 0 then
          if l3 < 0 ∨ 50 ≤ l3.toNatClampNeg then none else
          (eX4_add l2 3 (r17.2 88 l3.toNatClampNeg) r17.2).bind fun r21 =>
          eX5_destroyIds_b11 n l1 l2 (l3 + 1) r21
        else
          (eX5_bringAllBack r17.2).bind fun r23 =>
          some (r17.1, r23)
      else
        if l3 < 0 ∨ 50 ≤ l3.toNatClampNeg then none else
        (eX5_destroyMail (V 88 l3.toNatClampNeg) V).bind fun r8 =>
        if r8.1 = 0 then
          if l3 < 0 ∨ 50 ≤ l3.toNatClampNeg then none else
          (eX4_add l2 3 (r8.2 88 l3.toNatClampNeg) r8.2).bind fun r12 =>
          eX5_destroyIds_b11 n l1 l2 (l3 + 1) r12
        else
          (eX5_bringAllBack r8.2).bind fun r14 =>
          some (r8.1, r14)
set_option maxHeartbeats 4000000 in
set_option maxRecDepth 100000 in
theorem gX5_destroyIds_b11 : ∀ (n : Nat) (l1 : Nat) (l2 : Nat) (l3 : Int32) (V : Mm) (res : Int32 × Mm) (hl1 : isCall l1) (hl2 : isOut l2), eX5_destroyIds_b11 n l1 l2 l3 V = some res → Go mX5_destroyIds 11 [some (.ref 0), some (.ref l1), some (.ref l2), some (.int l3), none] [] (hC V) 0 0 (some (.int res.1)) (hC res.2) := by
  intro n
  induction n with
  | zero =>
    intro l1 l2 l3 V res hl1 hl2 h
    cases h
  | succ n ih =>
    intro l1 l2 l3 V res hl1 hl2 h
    rw [eX5_destroyIds_b11] at h
    refine go_iload_n (pc := 11) dX5_destroyIds_11 rfl rfl ?_
    refine go_aload_n (pc := 12) dX5_destroyIds_12 rfl rfl ?_
    refine go_gI (pc := 13) (v := V 0 9) fX5_237 (by decide) (show TC 0 = (5 + 5, 13) from rfl) dX5_destroyIds_13 rfl ?_
    refine go_icmp_ge (pc := 16) (tgt := 80) dX5_destroyIds_16 rfl (fun c5 => ?_) (fun c5 => ?_)
    · replace h := ifp h c5
      refine go_iconst (pc := 80) (v := 0) dX5_destroyIds_80 ci_0 ?_
      cases h
      exact go_iret (pc := 81) (Or.inl rfl) ⟨Nat.zero_le _, Nat.zero_le _⟩ dX5_destroyIds_81
    · replace h := ifn h c5
      refine go_aload_n (pc := 19) dX5_destroyIds_19 rfl rfl ?_
      refine go_gI (pc := 20) (v := V l1 2) fX5_201 (by decide) (C_T hl1) dX5_destroyIds_20 rfl ?_
      refine go_if_ne (pc := 23) (tgt := 39) dX5_destroyIds_23 rfl (fun c6 => ?_) (fun c6 => ?_)
      · replace h := ifn h c6
        refine go_aload_n (pc := 39) dX5_destroyIds_39 rfl rfl ?_
        refine go_aload_n (pc := 40) dX5_destroyIds_40 rfl rfl ?_
        refine go_getP (pc := 41) (a := 88) fX5_54 (by decide) (show TC 0 = (5 + 5, 13) from rfl) rfl dX5_destroyIds_41 ?_
        refine go_iload_n (pc := 44) dX5_destroyIds_44 rfl rfl ?_
        obtain ⟨c7, h⟩ := ok_not h
        refine go_ia (pc := 45) (v := V 88 l3.toNatClampNeg) (show TC 88 = (0, 50) from rfl) (vin c7) dX5_destroyIds_45 rfl ?_
        obtain ⟨r8, e9, h⟩ := ok_bind h
        refine go_cV (pc := 46) (ci := 5) (As := [.int (V 88 l3.toNatClampNeg)]) (st := []) (E_X5_destroyMail e9) rfl oX5_destroyMail iX5_destroyMail sX5_destroyMail kX5_347 rfl (show TC 0 = (5 + 5, 13) from rfl) rfl (Nat.le_of_ble_eq_true rfl) ⟨Nat.le_of_ble_eq_true rfl, Nat.le_of_ble_eq_true rfl⟩ ⟨rfl, rfl⟩ dX5_destroyIds_46 (st2 := [.int r8.1]) rfl ?_
        refine go_istore (pc := 49) (i := 4) dX5_destroyIds_49 (Nat.le_of_ble_eq_true rfl) (L2 := [some (.ref 0), some (.ref l1), some (.ref l2), some (.int l3), some (.int r8.1)]) rfl ?_
        refine go_iload (pc := 51) dX5_destroyIds_51 rfl ?_
        refine go_if_eq (pc := 53) (tgt := 63) dX5_destroyIds_53 rfl (fun c10 => ?_) (fun c10 => ?_)
        · replace h := ifp h c10
          refine go_aload_n (pc := 63) dX5_destroyIds_63 rfl rfl ?_
          refine go_iconst (pc := 64) (v := 3) dX5_destroyIds_64 ci_3 ?_
          refine go_aload_n (pc := 65) dX5_destroyIds_65 rfl rfl ?_
          refine go_getP (pc := 66) (a := 88) fX5_54 (by decide) (show TC 0 = (5 + 5, 13) from rfl) rfl dX5_destroyIds_66 ?_
          refine go_iload_n (pc := 69) dX5_destroyIds_69 rfl rfl ?_
          obtain ⟨c11, h⟩ := ok_not h
          refine go_ia (pc := 70) (v := r8.2 88 l3.toNatClampNeg) (show TC 88 = (0, 50) from rfl) (vin c11) dX5_destroyIds_70 rfl ?_
          obtain ⟨r12, e13, h⟩ := ok_bind h
          refine go_cV (pc := 71) (ci := 4) (As := [.int 3, .int (r8.2 88 l3.toNatClampNeg)]) (st := []) (E_X4_add hl2 e13) rfl oX4_add iX4_add sX4_add kX5_296 rfl (O_T hl2) rfl (Nat.le_of_ble_eq_true rfl) ⟨Nat.le_of_ble_eq_true rfl, Nat.le_of_ble_eq_true rfl⟩ ⟨rfl, rfl⟩ dX5_destroyIds_71 (st2 := []) rfl ?_
          refine go_iinc (pc := 74) (v := (l3 + 1)) dX5_destroyIds_74 rfl (by rw [ci_1]) (Nat.le_of_ble_eq_true rfl) (L2 := [some (.ref 0), some (.ref l1), some (.ref l2), some (.int (l3 + 1)), some (.int r8.1)]) rfl ?_
          refine go_goto (pc := 77) (tgt := 11) dX5_destroyIds_77 rfl ?_
          refine go_le (lle_s (lle_s (lle_s (lle_s (lle_n lle_0))))) ?_
          exact ih _ _ _ _ _ hl1 hl2 h
        · replace h := ifn h c10
          refine go_aload_n (pc := 56) dX5_destroyIds_56 rfl rfl ?_
          obtain ⟨r14, e15, h⟩ := ok_bind h
          refine go_cV (pc := 57) (ci := 5) (As := []) (st := []) (E_X5_bringAllBack e15) rfl oX5_bringAllBack iX5_bringAllBack sX5_bringAllBack kX5_335 rfl (show TC 0 = (5 + 5, 13) from rfl) rfl (Nat.le_of_ble_eq_true rfl) ⟨Nat.le_of_ble_eq_true rfl, Nat.le_of_ble_eq_true rfl⟩ ⟨rfl, rfl⟩ dX5_destroyIds_57 (st2 := []) rfl ?_
          refine go_iload (pc := 60) dX5_destroyIds_60 rfl ?_
          cases h
          exact go_iret (pc := 62) (Or.inl rfl) ⟨Nat.zero_le _, Nat.zero_le _⟩ dX5_destroyIds_62
      · replace h := ifp h c6
        refine go_aload_n (pc := 26) dX5_destroyIds_26 rfl rfl ?_
        refine go_aload_n (pc := 27) dX5_destroyIds_27 rfl rfl ?_
        refine go_getP (pc := 28) (a := 88) fX5_54 (by decide) (show TC 0 = (5 + 5, 13) from rfl) rfl dX5_destroyIds_28 ?_
        refine go_iload_n (pc := 31) dX5_destroyIds_31 rfl rfl ?_
        obtain ⟨c16, h⟩ := ok_not h
        refine go_ia (pc := 32) (v := V 88 l3.toNatClampNeg) (show TC 88 = (0, 50) from rfl) (vin c16) dX5_destroyIds_32 rfl ?_
        obtain ⟨r17, e18, h⟩ := ok_bind h
        refine go_cV (pc := 33) (ci := 5) (As := [.int (V 88 l3.toNatClampNeg)]) (st := []) (E_X5_destroyBox e18) rfl oX5_destroyBox iX5_destroyBox sX5_destroyBox kX5_344 rfl (show TC 0 = (5 + 5, 13) from rfl) rfl (Nat.le_of_ble_eq_true rfl) ⟨Nat.le_of_ble_eq_true rfl, Nat.le_of_ble_eq_true rfl⟩ ⟨rfl, rfl⟩ dX5_destroyIds_33 (st2 := [.int r17.1]) rfl ?_
        refine go_goto (pc := 36) (tgt := 49) dX5_destroyIds_36 rfl ?_
        refine go_istore (pc := 49) (i := 4) dX5_destroyIds_49 (Nat.le_of_ble_eq_true rfl) (L2 := [some (.ref 0), some (.ref l1), some (.ref l2), some (.int l3), some (.int r17.1)]) rfl ?_
        refine go_iload (pc := 51) dX5_destroyIds_51 rfl ?_
        refine go_if_eq (pc := 53) (tgt := 63) dX5_destroyIds_53 rfl (fun c19 => ?_) (fun c19 => ?_)
        · replace h := ifp h c19
          refine go_aload_n (pc := 63) dX5_destroyIds_63 rfl rfl ?_
          refine go_iconst (pc := 64) (v := 3) dX5_destroyIds_64 ci_3 ?_
          refine go_aload_n (pc := 65) dX5_destroyIds_65 rfl rfl ?_
          refine go_getP (pc := 66) (a := 88) fX5_54 (by decide) (show TC 0 = (5 + 5, 13) from rfl) rfl dX5_destroyIds_66 ?_
          refine go_iload_n (pc := 69) dX5_destroyIds_69 rfl rfl ?_
          obtain ⟨c20, h⟩ := ok_not h
          refine go_ia (pc := 70) (v := r17.2 88 l3.toNatClampNeg) (show TC 88 = (0, 50) from rfl) (vin c20) dX5_destroyIds_70 rfl ?_
          obtain ⟨r21, e22, h⟩ := ok_bind h
          refine go_cV (pc := 71) (ci := 4) (As := [.int 3, .int (r17.2 88 l3.toNatClampNeg)]) (st := []) (E_X4_add hl2 e22) rfl oX4_add iX4_add sX4_add kX5_296 rfl (O_T hl2) rfl (Nat.le_of_ble_eq_true rfl) ⟨Nat.le_of_ble_eq_true rfl, Nat.le_of_ble_eq_true rfl⟩ ⟨rfl, rfl⟩ dX5_destroyIds_71 (st2 := []) rfl ?_
          refine go_iinc (pc := 74) (v := (l3 + 1)) dX5_destroyIds_74 rfl (by rw [ci_1]) (Nat.le_of_ble_eq_true rfl) (L2 := [some (.ref 0), some (.ref l1), some (.ref l2), some (.int (l3 + 1)), some (.int r17.1)]) rfl ?_
          refine go_goto (pc := 77) (tgt := 11) dX5_destroyIds_77 rfl ?_
          refine go_le (lle_s (lle_s (lle_s (lle_s (lle_n lle_0))))) ?_
          exact ih _ _ _ _ _ hl1 hl2 h
        · replace h := ifn h c19
          refine go_aload_n (pc := 56) dX5_destroyIds_56 rfl rfl ?_
          obtain ⟨r23, e24, h⟩ := ok_bind h
          refine go_cV (pc := 57) (ci := 5) (As := []) (st := []) (E_X5_bringAllBack e24) rfl oX5_bringAllBack iX5_bringAllBack sX5_bringAllBack kX5_335 rfl (show TC 0 = (5 + 5, 13) from rfl) rfl (Nat.le_of_ble_eq_true rfl) ⟨Nat.le_of_ble_eq_true rfl, Nat.le_of_ble_eq_true rfl⟩ ⟨rfl, rfl⟩ dX5_destroyIds_57 (st2 := []) rfl ?_
          refine go_iload (pc := 60) dX5_destroyIds_60 rfl ?_
          cases h
          exact go_iret (pc := 62) (Or.inl rfl) ⟨Nat.zero_le _, Nat.zero_le _⟩ dX5_destroyIds_62
def eX5_destroyIds (a1 : Nat) (a2 : Nat) (V : Mm) : Option (Int32 × Mm) :=
  (eX5_takeIds a1 V).bind fun r1 =>
  (eX5_keepAll r1).bind fun r3 =>
  eX5_destroyIds_b11 fu a1 a2 0 r3
set_option maxHeartbeats 4000000 in
set_option maxRecDepth 100000 in
theorem E_X5_destroyIds {a1 : Nat} {a2 : Nat} {V : Mm} {res : Int32 × Mm} (ha1 : isCall a1) (ha2 : isOut a2) (h : eX5_destroyIds a1 a2 V = some res) : Ev mX5_destroyIds [.ref 0, .ref a1, .ref a2] (hC V) (some (.int res.1)) (hC res.2) := by
  refine Ev.of (n := 2) oX5_destroyIds.1 (Nat.le_of_ble_eq_true rfl) ?_
  unfold eX5_destroyIds at h
  show Go mX5_destroyIds 0 [some (.ref 0), some (.ref a1), some (.ref a2), none, none] [] (hC V) 0 0 (some (.int res.1)) (hC res.2)
  refine go_aload_n (pc := 0) dX5_destroyIds_0 rfl rfl ?_
  refine go_aload_n (pc := 1) dX5_destroyIds_1 rfl rfl ?_
  obtain ⟨r1, e2, h⟩ := ok_bind h
  refine go_cV (pc := 2) (ci := 5) (As := [.ref a1]) (st := []) (E_X5_takeIds ha1 e2) rfl oX5_takeIds iX5_takeIds sX5_takeIds kX5_292 rfl (show TC 0 = (5 + 5, 13) from rfl) rfl (Nat.le_of_ble_eq_true rfl) ⟨Nat.le_of_ble_eq_true rfl, Nat.le_of_ble_eq_true rfl⟩ ⟨rfl, rfl⟩ dX5_destroyIds_2 (st2 := []) rfl ?_
  refine go_aload_n (pc := 5) dX5_destroyIds_5 rfl rfl ?_
  obtain ⟨r3, e4, h⟩ := ok_bind h
  refine go_cV (pc := 6) (ci := 5) (As := []) (st := []) (E_X5_keepAll e4) rfl oX5_keepAll iX5_keepAll sX5_keepAll kX5_326 rfl (show TC 0 = (5 + 5, 13) from rfl) rfl (Nat.le_of_ble_eq_true rfl) ⟨Nat.le_of_ble_eq_true rfl, Nat.le_of_ble_eq_true rfl⟩ ⟨rfl, rfl⟩ dX5_destroyIds_6 (st2 := []) rfl ?_
  refine go_iconst (pc := 9) (v := 0) dX5_destroyIds_9 ci_0 ?_
  refine go_istore_n (pc := 10) (i := 3) dX5_destroyIds_10 rfl (Nat.le_of_ble_eq_true rfl) (L2 := [some (.ref 0), some (.ref a1), some (.ref a2), some (.int 0), none]) rfl ?_
  exact gX5_destroyIds_b11 _ _ _ _ _ _ ha1 ha2 h
def eX5_act (a1 : Nat) (a2 : Nat) (V : Mm) : Option (Int32 × Mm) :=
  if (V a1 1) = 0 then
    (eX5_tellIds a1 a2 V).bind fun r4 =>
    some (r4.1, r4.2)
  else
  if (V a1 1) = 1 then
    (eX5_tellFitting a1 a2 V).bind fun r7 =>
    some (r7.1, r7.2)
  else
  if (V a1 1) = 2 then
    (eX5_kindOf (V a1 2) V).bind fun r10 =>
    (eX3_tellChanges a1 (V r10 6) a2 V).bind fun r13 =>
    some (r13.1, r13.2)
  else
  if (V a1 1) = 3 then
    if (V a1 2) = 0 then
      (eX5_makeBox a1 a2 V).bind fun r19 =>
      some (r19.1, r19.2)
    else
      (eX5_makeMail a1 a2 V).bind fun r17 =>
      some (r17.1, r17.2)
  else
  if (V a1 1) = 4 then
    (eX5_changeIds a1 a2 V).bind fun r22 =>
    some (r22.1, r22.2)
  else
  (eX5_destroyIds a1 a2 V).bind fun r1 =>
  some (r1.1, r1.2)
set_option maxHeartbeats 4000000 in
set_option maxRecDepth 100000 in
theorem E_X5_act {a1 : Nat} {a2 : Nat} {V : Mm} {res : Int32 × Mm} (ha1 : isCall a1) (ha2 : isOut a2) (h : eX5_act a1 a2 V = some res) : Ev mX5_act [.ref 0, .ref a1, .ref a2] (hC V) (some (.int res.1)) (hC res.2) := by
  refine Ev.of (n := 0) oX5_act.1 (Nat.le_of_ble_eq_true rfl) ?_
  unfold eX5_act at h
  show Go mX5_act 0 [some (.ref 0), some (.ref a1), some (.ref a2)] [] (hC V) 0 0 (some (.int res.1)) (hC res.2)
  refine go_aload_n (pc := 0) dX5_act_0 rfl rfl ?_
  refine go_gI (pc := 1) (v := V a1 1) fX5_198 (by decide) (C_T ha1) dX5_act_1 rfl ?_
  by_cases c3 : (V a1 1) = 0
  · replace h := ifp h c3
    refine go_tabIn (pc := 4) (tgt := 40) dX5_act_4 (by rw [c3]; decide) (by rw [c3]; decide) (off := 36) (by rw [c3]; rfl) rfl ?_
    refine go_aload_n (pc := 40) dX5_act_40 rfl rfl ?_
    refine go_aload_n (pc := 41) dX5_act_41 rfl rfl ?_
    refine go_aload_n (pc := 42) dX5_act_42 rfl rfl ?_
    obtain ⟨r4, e5, h⟩ := ok_bind h
    refine go_cV (pc := 43) (ci := 5) (As := [.ref a1, .ref a2]) (st := []) (E_X5_tellIds ha1 ha2 e5) rfl oX5_tellIds iX5_tellIds sX5_tellIds kX5_249 rfl (show TC 0 = (5 + 5, 13) from rfl) rfl (Nat.le_of_ble_eq_true rfl) ⟨Nat.le_of_ble_eq_true rfl, Nat.le_of_ble_eq_true rfl⟩ ⟨rfl, rfl⟩ dX5_act_43 (st2 := [.int r4.1]) rfl ?_
    cases h
    exact go_iret (pc := 46) (Or.inl rfl) ⟨Nat.zero_le _, Nat.zero_le _⟩ dX5_act_46
  replace h := ifn h c3
  by_cases c6 : (V a1 1) = 1
  · replace h := ifp h c6
    refine go_tabIn (pc := 4) (tgt := 47) dX5_act_4 (by rw [c6]; decide) (by rw [c6]; decide) (off := 43) (by rw [c6]; rfl) rfl ?_
    refine go_aload_n (pc := 47) dX5_act_47 rfl rfl ?_
    refine go_aload_n (pc := 48) dX5_act_48 rfl rfl ?_
    refine go_aload_n (pc := 49) dX5_act_49 rfl rfl ?_
    obtain ⟨r7, e8, h⟩ := ok_bind h
    refine go_cV (pc := 50) (ci := 5) (As := [.ref a1, .ref a2]) (st := []) (E_X5_tellFitting ha1 ha2 e8) rfl oX5_tellFitting iX5_tellFitting sX5_tellFitting kX5_252 rfl (show TC 0 = (5 + 5, 13) from rfl) rfl (Nat.le_of_ble_eq_true rfl) ⟨Nat.le_of_ble_eq_true rfl, Nat.le_of_ble_eq_true rfl⟩ ⟨rfl, rfl⟩ dX5_act_50 (st2 := [.int r7.1]) rfl ?_
    cases h
    exact go_iret (pc := 53) (Or.inl rfl) ⟨Nat.zero_le _, Nat.zero_le _⟩ dX5_act_53
  replace h := ifn h c6
  by_cases c9 : (V a1 1) = 2
  · replace h := ifp h c9
    refine go_tabIn (pc := 4) (tgt := 54) dX5_act_4 (by rw [c9]; decide) (by rw [c9]; decide) (off := 50) (by rw [c9]; rfl) rfl ?_
    refine go_aload_n (pc := 54) dX5_act_54 rfl rfl ?_
    refine go_getP (pc := 55) (a := 76) fX5_43 (by decide) (show TC 0 = (5 + 5, 13) from rfl) rfl dX5_act_55 ?_
    refine go_aload_n (pc := 58) dX5_act_58 rfl rfl ?_
    refine go_aload_n (pc := 59) dX5_act_59 rfl rfl ?_
    refine go_aload_n (pc := 60) dX5_act_60 rfl rfl ?_
    refine go_gI (pc := 61) (v := V a1 2) fX5_201 (by decide) (C_T ha1) dX5_act_61 rfl ?_
    obtain ⟨r10, e11, h⟩ := ok_bind h
    have hr12 : isK r10 := kindOf_isK e11
    refine go_cV (pc := 64) (ci := 5) (As := [.int (V a1 2)]) (st := [.ref a1, .ref 76]) (E_X5_kindOf e11) rfl oX5_kindOf iX5_kindOf sX5_kindOf kX5_132 rfl (show TC 0 = (5 + 5, 13) from rfl) rfl (Nat.le_of_ble_eq_true rfl) ⟨Nat.le_of_ble_eq_true rfl, Nat.le_of_ble_eq_true rfl⟩ ⟨rfl, rfl⟩ dX5_act_64 (st2 := [.ref r10, .ref a1, .ref 76]) rfl ?_
    refine go_gI (pc := 67) (v := V r10 6) fX5_136 (by decide) (K_T hr12) dX5_act_67 rfl ?_
    refine go_aload_n (pc := 70) dX5_act_70 rfl rfl ?_
    obtain ⟨r13, e14, h⟩ := ok_bind h
    refine go_cV (pc := 71) (ci := 3) (As := [.ref a1, .int (V r10 6), .ref a2]) (st := []) (E_X3_tellChanges ha1 ha2 e14) rfl oX3_tellChanges iX3_tellChanges sX3_tellChanges kX5_255 rfl (show TC 76 = (3 + 5, 5) from rfl) rfl (Nat.le_of_ble_eq_true rfl) ⟨Nat.le_of_ble_eq_true rfl, Nat.le_of_ble_eq_true rfl⟩ ⟨rfl, rfl⟩ dX5_act_71 (st2 := [.int r13.1]) rfl ?_
    cases h
    exact go_iret (pc := 74) (Or.inl rfl) ⟨Nat.zero_le _, Nat.zero_le _⟩ dX5_act_74
  replace h := ifn h c9
  by_cases c15 : (V a1 1) = 3
  · replace h := ifp h c15
    refine go_tabIn (pc := 4) (tgt := 75) dX5_act_4 (by rw [c15]; decide) (by rw [c15]; decide) (off := 71) (by rw [c15]; rfl) rfl ?_
    refine go_aload_n (pc := 75) dX5_act_75 rfl rfl ?_
    refine go_gI (pc := 76) (v := V a1 2) fX5_201 (by decide) (C_T ha1) dX5_act_76 rfl ?_
    refine go_if_ne (pc := 79) (tgt := 91) dX5_act_79 rfl (fun c16 => ?_) (fun c16 => ?_)
    · replace h := ifn h c16
      refine go_aload_n (pc := 91) dX5_act_91 rfl rfl ?_
      refine go_aload_n (pc := 92) dX5_act_92 rfl rfl ?_
      refine go_aload_n (pc := 93) dX5_act_93 rfl rfl ?_
      obtain ⟨r17, e18, h⟩ := ok_bind h
      refine go_cV (pc := 94) (ci := 5) (As := [.ref a1, .ref a2]) (st := []) (E_X5_makeMail ha1 ha2 e18) rfl oX5_makeMail iX5_makeMail sX5_makeMail kX5_262 rfl (show TC 0 = (5 + 5, 13) from rfl) rfl (Nat.le_of_ble_eq_true rfl) ⟨Nat.le_of_ble_eq_true rfl, Nat.le_of_ble_eq_true rfl⟩ ⟨rfl, rfl⟩ dX5_act_94 (st2 := [.int r17.1]) rfl ?_
      cases h
      exact go_iret (pc := 97) (Or.inl rfl) ⟨Nat.zero_le _, Nat.zero_le _⟩ dX5_act_97
    · replace h := ifp h c16
      refine go_aload_n (pc := 82) dX5_act_82 rfl rfl ?_
      refine go_aload_n (pc := 83) dX5_act_83 rfl rfl ?_
      refine go_aload_n (pc := 84) dX5_act_84 rfl rfl ?_
      obtain ⟨r19, e20, h⟩ := ok_bind h
      refine go_cV (pc := 85) (ci := 5) (As := [.ref a1, .ref a2]) (st := []) (E_X5_makeBox ha1 ha2 e20) rfl oX5_makeBox iX5_makeBox sX5_makeBox kX5_259 rfl (show TC 0 = (5 + 5, 13) from rfl) rfl (Nat.le_of_ble_eq_true rfl) ⟨Nat.le_of_ble_eq_true rfl, Nat.le_of_ble_eq_true rfl⟩ ⟨rfl, rfl⟩ dX5_act_85 (st2 := [.int r19.1]) rfl ?_
      refine go_goto (pc := 88) (tgt := 97) dX5_act_88 rfl ?_
      cases h
      exact go_iret (pc := 97) (Or.inl rfl) ⟨Nat.zero_le _, Nat.zero_le _⟩ dX5_act_97
  replace h := ifn h c15
  by_cases c21 : (V a1 1) = 4
  · replace h := ifp h c21
    refine go_tabIn (pc := 4) (tgt := 98) dX5_act_4 (by rw [c21]; decide) (by rw [c21]; decide) (off := 94) (by rw [c21]; rfl) rfl ?_
    refine go_aload_n (pc := 98) dX5_act_98 rfl rfl ?_
    refine go_aload_n (pc := 99) dX5_act_99 rfl rfl ?_
    refine go_aload_n (pc := 100) dX5_act_100 rfl rfl ?_
    obtain ⟨r22, e23, h⟩ := ok_bind h
    refine go_cV (pc := 101) (ci := 5) (As := [.ref a1, .ref a2]) (st := []) (E_X5_changeIds ha1 ha2 e23) rfl oX5_changeIds iX5_changeIds sX5_changeIds kX5_265 rfl (show TC 0 = (5 + 5, 13) from rfl) rfl (Nat.le_of_ble_eq_true rfl) ⟨Nat.le_of_ble_eq_true rfl, Nat.le_of_ble_eq_true rfl⟩ ⟨rfl, rfl⟩ dX5_act_101 (st2 := [.int r22.1]) rfl ?_
    cases h
    exact go_iret (pc := 104) (Or.inl rfl) ⟨Nat.zero_le _, Nat.zero_le _⟩ dX5_act_104
  replace h := ifn h c21
  have hh24 : (V a1 1 : Int32).toInt < 0 ∨ 4 < (V a1 1 : Int32).toInt := by
    have nc3 := nti (K := 0) c3 (by decide)
    have nc6 := nti (K := 1) c6 (by decide)
    have nc9 := nti (K := 2) c9 (by decide)
    have nc15 := nti (K := 3) c15 (by decide)
    have nc21 := nti (K := 4) c21 (by decide)
    omega
  refine go_tabOut (pc := 4) (tgt := 105) dX5_act_4 hh24 rfl ?_
  refine go_aload_n (pc := 105) dX5_act_105 rfl rfl ?_
  refine go_aload_n (pc := 106) dX5_act_106 rfl rfl ?_
  refine go_aload_n (pc := 107) dX5_act_107 rfl rfl ?_
  obtain ⟨r1, e2, h⟩ := ok_bind h
  refine go_cV (pc := 108) (ci := 5) (As := [.ref a1, .ref a2]) (st := []) (E_X5_destroyIds ha1 ha2 e2) rfl oX5_destroyIds iX5_destroyIds sX5_destroyIds kX5_268 rfl (show TC 0 = (5 + 5, 13) from rfl) rfl (Nat.le_of_ble_eq_true rfl) ⟨Nat.le_of_ble_eq_true rfl, Nat.le_of_ble_eq_true rfl⟩ ⟨rfl, rfl⟩ dX5_act_108 (st2 := [.int r1.1]) rfl ?_
  cases h
  exact go_iret (pc := 111) (Or.inl rfl) ⟨Nat.zero_le _, Nat.zero_le _⟩ dX5_act_111
def eX5_logTouched_b32 (k2 : Int32 → Mm → Option (Mm)) : Nat → Int32 → Nat → Int32 → Mm → Option (Mm)
  | 0, _, _, _, _ => none
  | n + 1, l1, l2, l3, V => 
    if (V l2 4) ≤ l3 then
      (eX2_forgetTouched l2 V).bind fun r7 =>
      k2 (l1 + 1) r7
    else
      if 50 ≤ l3 then
        (eX2_forgetTouched l2 V).bind fun r10 =>
        k2 (l1 + 1) r10
      else
        (eX2_isTouched l2 l3 V).bind fun r12 =>
        if r12 = 0 then
          eX5_logTouched_b32 k2 n l1 l2 (l3 + 1) V
        else
          if l3 < 0 ∨ 50 ≤ l3.toNatClampNeg then none else
          (eX3_add l1 (V l2 6) l3 (V (l2 + 23) l3.toNatClampNeg) V).bind fun r16 =>
          eX5_logTouched_b32 k2 n l1 l2 (l3 + 1) r16
set_option maxHeartbeats 4000000 in
set_option maxRecDepth 100000 in
theorem gX5_logTouched_b32 {k2 : Int32 → Mm → Option (Mm)} (hk2 : ∀ (l1 : Int32) (V : Mm) (res : Mm) , k2 l1 V = some res → Go mX5_logTouched 2 [some (.ref 0), some (.int l1), none, none] [] (hC V) 0 0 none (hC res)) : ∀ (n : Nat) (l1 : Int32) (l2 : Nat) (l3 : Int32) (V : Mm) (res : Mm) (hl2 : isK l2), eX5_logTouched_b32 k2 n l1 l2 l3 V = some res → Go mX5_logTouched 32 [some (.ref 0), some (.int l1), some (.ref l2), some (.int l3)] [] (hC V) 0 0 none (hC res) := by
  intro n
  induction n with
  | zero =>
    intro l1 l2 l3 V res hl2 h
    cases h
  | succ n ih =>
    intro l1 l2 l3 V res hl2 h
    rw [eX5_logTouched_b32] at h
    refine go_iload_n (pc := 32) dX5_logTouched_32 rfl rfl ?_
    refine go_aload_n (pc := 33) dX5_logTouched_33 rfl rfl ?_
    refine go_gI (pc := 34) (v := V l2 4) fX5_146 (by decide) (K_T hl2) dX5_logTouched_34 rfl ?_
    refine go_icmp_ge (pc := 37) (tgt := 79) dX5_logTouched_37 rfl (fun c6 => ?_) (fun c6 => ?_)
    · replace h := ifp h c6
      refine go_aload_n (pc := 79) dX5_logTouched_79 rfl rfl ?_
      obtain ⟨r7, e8, h⟩ := ok_bind h
      refine go_cV (pc := 80) (ci := 2) (As := []) (st := []) (E_X2_forgetTouched hl2 e8) rfl oX2_forgetTouched iX2_forgetTouched sX2_forgetTouched kX5_289 rfl (K_T hl2) rfl (Nat.le_of_ble_eq_true rfl) ⟨Nat.le_of_ble_eq_true rfl, Nat.le_of_ble_eq_true rfl⟩ ⟨rfl, rfl⟩ dX5_logTouched_80 (st2 := []) rfl ?_
      refine go_iinc (pc := 83) (v := (l1 + 1)) dX5_logTouched_83 rfl (by rw [ci_1]) (Nat.le_of_ble_eq_true rfl) (L2 := [some (.ref 0), some (.int (l1 + 1)), some (.ref l2), some (.int l3)]) rfl ?_
      refine go_goto (pc := 86) (tgt := 2) dX5_logTouched_86 rfl ?_
      refine go_le (lle_s (lle_s (lle_n (lle_n lle_0)))) ?_
      exact hk2 _ _ _  h
    · replace h := ifn h c6
      refine go_iload_n (pc := 40) dX5_logTouched_40 rfl rfl ?_
      refine go_bipush (pc := 41) (v := 50) dX5_logTouched_41 cb_50 ?_
      refine go_icmp_ge (pc := 43) (tgt := 79) dX5_logTouched_43 rfl (fun c9 => ?_) (fun c9 => ?_)
      · replace h := ifp h c9
        refine go_aload_n (pc := 79) dX5_logTouched_79 rfl rfl ?_
        obtain ⟨r10, e11, h⟩ := ok_bind h
        refine go_cV (pc := 80) (ci := 2) (As := []) (st := []) (E_X2_forgetTouched hl2 e11) rfl oX2_forgetTouched iX2_forgetTouched sX2_forgetTouched kX5_289 rfl (K_T hl2) rfl (Nat.le_of_ble_eq_true rfl) ⟨Nat.le_of_ble_eq_true rfl, Nat.le_of_ble_eq_true rfl⟩ ⟨rfl, rfl⟩ dX5_logTouched_80 (st2 := []) rfl ?_
        refine go_iinc (pc := 83) (v := (l1 + 1)) dX5_logTouched_83 rfl (by rw [ci_1]) (Nat.le_of_ble_eq_true rfl) (L2 := [some (.ref 0), some (.int (l1 + 1)), some (.ref l2), some (.int l3)]) rfl ?_
        refine go_goto (pc := 86) (tgt := 2) dX5_logTouched_86 rfl ?_
        refine go_le (lle_s (lle_s (lle_n (lle_n lle_0)))) ?_
        exact hk2 _ _ _  h
      · replace h := ifn h c9
        refine go_aload_n (pc := 46) dX5_logTouched_46 rfl rfl ?_
        refine go_iload_n (pc := 47) dX5_logTouched_47 rfl rfl ?_
        obtain ⟨r12, e13, h⟩ := ok_bind h
        refine go_cV (pc := 48) (ci := 2) (As := [.int l3]) (st := []) (E_X2_isTouched hl2 e13) rfl oX2_isTouched iX2_isTouched sX2_isTouched kX5_280 rfl (K_T hl2) rfl (Nat.le_of_ble_eq_true rfl) ⟨Nat.le_of_ble_eq_true rfl, Nat.le_of_ble_eq_true rfl⟩ ⟨rfl, rfl⟩ dX5_logTouched_48 (st2 := [.int r12]) rfl ?_
        refine go_if_eq (pc := 51) (tgt := 73) dX5_logTouched_51 rfl (fun c14 => ?_) (fun c14 => ?_)
        · replace h := ifp h c14
          refine go_iinc (pc := 73) (v := (l3 + 1)) dX5_logTouched_73 rfl (by rw [ci_1]) (Nat.le_of_ble_eq_true rfl) (L2 := [some (.ref 0), some (.int l1), some (.ref l2), some (.int (l3 + 1))]) rfl ?_
          refine go_goto (pc := 76) (tgt := 32) dX5_logTouched_76 rfl ?_
          exact ih _ _ _ _ _ hl2 h
        · replace h := ifn h c14
          refine go_aload_n (pc := 54) dX5_logTouched_54 rfl rfl ?_
          refine go_getP (pc := 55) (a := 76) fX5_43 (by decide) (show TC 0 = (5 + 5, 13) from rfl) rfl dX5_logTouched_55 ?_
          refine go_iload_n (pc := 58) dX5_logTouched_58 rfl rfl ?_
          refine go_aload_n (pc := 59) dX5_logTouched_59 rfl rfl ?_
          refine go_gI (pc := 60) (v := V l2 6) fX5_136 (by decide) (K_T hl2) dX5_logTouched_60 rfl ?_
          refine go_iload_n (pc := 63) dX5_logTouched_63 rfl rfl ?_
          refine go_aload_n (pc := 64) dX5_logTouched_64 rfl rfl ?_
          refine go_getP (pc := 65) (a := (l2 + 23)) fX5_283 (by decide) (K_T hl2) (K_2 hl2) dX5_logTouched_65 ?_
          refine go_iload_n (pc := 68) dX5_logTouched_68 rfl rfl ?_
          obtain ⟨c15, h⟩ := ok_not h
          refine go_ia (pc := 69) (v := V (l2 + 23) l3.toNatClampNeg) (K_T2 hl2) (vin c15) dX5_logTouched_69 rfl ?_
          obtain ⟨r16, e17, h⟩ := ok_bind h
          refine go_cV (pc := 70) (ci := 3) (As := [.int l1, .int (V l2 6), .int l3, .int (V (l2 + 23) l3.toNatClampNeg)]) (st := []) (E_X3_add e17) rfl oX3_add iX3_add sX3_add kX5_286 rfl (show TC 76 = (3 + 5, 5) from rfl) rfl (Nat.le_of_ble_eq_true rfl) ⟨Nat.le_of_ble_eq_true rfl, Nat.le_of_ble_eq_true rfl⟩ ⟨rfl, rfl⟩ dX5_logTouched_70 (st2 := []) rfl ?_
          refine go_iinc (pc := 73) (v := (l3 + 1)) dX5_logTouched_73 rfl (by rw [ci_1]) (Nat.le_of_ble_eq_true rfl) (L2 := [some (.ref 0), some (.int l1), some (.ref l2), some (.int (l3 + 1))]) rfl ?_
          refine go_goto (pc := 76) (tgt := 32) dX5_logTouched_76 rfl ?_
          exact ih _ _ _ _ _ hl2 h
def eX5_logTouched_b2 : Nat → Int32 → Mm → Option (Mm)
  | 0, _, _ => none
  | n + 1, l1, V => 
    if 3 ≤ l1 then
      some V
    else
      (eX5_kindOf l1 V).bind fun r2 =>
      if (V r2 7) = 0 then
        eX5_logTouched_b2 n (l1 + 1) V
      else
        eX5_logTouched_b32 (fun l1 V => eX5_logTouched_b2 n l1 V) fu l1 r2 0 (wr V r2 6 ((V r2 6) + 1))
set_option maxHeartbeats 4000000 in
set_option maxRecDepth 100000 in
theorem gX5_logTouched_b2 : ∀ (n : Nat) (l1 : Int32) (V : Mm) (res : Mm) , eX5_logTouched_b2 n l1 V = some res → Go mX5_logTouched 2 [some (.ref 0), some (.int l1), none, none] [] (hC V) 0 0 none (hC res) := by
  intro n
  induction n with
  | zero =>
    intro l1 V res  h
    cases h
  | succ n ih =>
    intro l1 V res  h
    rw [eX5_logTouched_b2] at h
    refine go_iload_n (pc := 2) dX5_logTouched_2 rfl rfl ?_
    refine go_iconst (pc := 3) (v := 3) dX5_logTouched_3 ci_3 ?_
    refine go_icmp_ge (pc := 4) (tgt := 89) dX5_logTouched_4 rfl (fun c1 => ?_) (fun c1 => ?_)
    · replace h := ifp h c1
      cases h
      exact go_vret (pc := 89) rfl ⟨Nat.zero_le _, Nat.zero_le _⟩ dX5_logTouched_89
    · replace h := ifn h c1
      refine go_aload_n (pc := 7) dX5_logTouched_7 rfl rfl ?_
      refine go_iload_n (pc := 8) dX5_logTouched_8 rfl rfl ?_
      obtain ⟨r2, e3, h⟩ := ok_bind h
      have hr4 : isK r2 := kindOf_isK e3
      refine go_cV (pc := 9) (ci := 5) (As := [.int l1]) (st := []) (E_X5_kindOf e3) rfl oX5_kindOf iX5_kindOf sX5_kindOf kX5_132 rfl (show TC 0 = (5 + 5, 13) from rfl) rfl (Nat.le_of_ble_eq_true rfl) ⟨Nat.le_of_ble_eq_true rfl, Nat.le_of_ble_eq_true rfl⟩ ⟨rfl, rfl⟩ dX5_logTouched_9 (st2 := [.ref r2]) rfl ?_
      refine go_astore_n (pc := 12) (i := 2) dX5_logTouched_12 rfl (Nat.le_of_ble_eq_true rfl) (L2 := [some (.ref 0), some (.int l1), some (.ref r2), none]) rfl ?_
      refine go_aload_n (pc := 13) dX5_logTouched_13 rfl rfl ?_
      refine go_gI (pc := 14) (v := V r2 7) fX5_277 (by decide) (K_T hr4) dX5_logTouched_14 rfl ?_
      refine go_if_eq (pc := 17) (tgt := 83) dX5_logTouched_17 rfl (fun c5 => ?_) (fun c5 => ?_)
      · replace h := ifp h c5
        refine go_iinc (pc := 83) (v := (l1 + 1)) dX5_logTouched_83 rfl (by rw [ci_1]) (Nat.le_of_ble_eq_true rfl) (L2 := [some (.ref 0), some (.int (l1 + 1)), some (.ref r2), none]) rfl ?_
        refine go_goto (pc := 86) (tgt := 2) dX5_logTouched_86 rfl ?_
        refine go_le (lle_s (lle_s (lle_n (lle_n lle_0)))) ?_
        exact ih _ _ _  h
      · replace h := ifn h c5
        refine go_aload_n (pc := 20) dX5_logTouched_20 rfl rfl ?_
        refine go_dup (pc := 21) dX5_logTouched_21 ?_
        refine go_gI (pc := 22) (v := V r2 6) fX5_136 (by decide) (K_T hr4) dX5_logTouched_22 rfl ?_
        refine go_iconst (pc := 25) (v := 1) dX5_logTouched_25 ci_1 ?_
        refine go_iadd (pc := 26) dX5_logTouched_26 ?_
        refine go_putI (pc := 27) (k := 6) fX5_136 (Or.inl rfl) (Or.inl rfl) (K_T hr4) dX5_logTouched_27 ?_
        refine go_iconst (pc := 30) (v := 0) dX5_logTouched_30 ci_0 ?_
        refine go_istore_n (pc := 31) (i := 3) dX5_logTouched_31 rfl (Nat.le_of_ble_eq_true rfl) (L2 := [some (.ref 0), some (.int l1), some (.ref r2), some (.int 0)]) rfl ?_
        exact gX5_logTouched_b32 ih _ _ _ _ _ _ hr4 h
def eX5_logTouched  (V : Mm) : Option (Mm) :=
  eX5_logTouched_b2 fu 0 V
set_option maxHeartbeats 4000000 in
set_option maxRecDepth 100000 in
theorem E_X5_logTouched  {V : Mm} {res : Mm}  (h : eX5_logTouched V = some res) : Ev mX5_logTouched [.ref 0] (hC V) none (hC res) := by
  refine Ev.of (n := 3) oX5_logTouched.1 (Nat.le_of_ble_eq_true rfl) ?_
  unfold eX5_logTouched at h
  show Go mX5_logTouched 0 [some (.ref 0), none, none, none] [] (hC V) 0 0 none (hC res)
  refine go_iconst (pc := 0) (v := 0) dX5_logTouched_0 ci_0 ?_
  refine go_istore_n (pc := 1) (i := 1) dX5_logTouched_1 rfl (Nat.le_of_ble_eq_true rfl) (L2 := [some (.ref 0), some (.int 0), none, none]) rfl ?_
  exact gX5_logTouched_b2 _ _ _ _  h
def eX5_run_b90 (k34 : Int32 → Int32 → Int32 → Mm → Option (Int32 × Mm)) (l1 : Int32) (l2 : Int32) (l3 : Int32) (l4 : Int32) (V : Mm) : Option (Int32 × Mm) :=
  if l4 = 0 then
    (eX5_logTouched V).bind fun r16 =>
    if l3 < 0 ∨ 12 ≤ l3.toNatClampNeg then none else
    k34 l1 (l2 + 1) (l3 + 1) (wr r16 (91 + 9 * l3.toNatClampNeg) 2 l4)
  else
    if l3 < 0 ∨ 12 ≤ l3.toNatClampNeg then none else
    (eX4_clear (91 + 9 * l3.toNatClampNeg) V).bind fun r13 =>
    if l3 < 0 ∨ 12 ≤ l3.toNatClampNeg then none else
    k34 l1 l2 (l3 + 1) (wr r13 (91 + 9 * l3.toNatClampNeg) 2 l4)
set_option maxHeartbeats 4000000 in
set_option maxRecDepth 100000 in
theorem gX5_run_b90 {k34 : Int32 → Int32 → Int32 → Mm → Option (Int32 × Mm)} (hk34 : ∀ (l1 : Int32) (l2 : Int32) (l3 : Int32) (V : Mm) (res : Int32 × Mm) , k34 l1 l2 l3 V = some res → Go mX5_run 34 [some (.ref 0), some (.int l1), some (.int l2), some (.int l3), none] [] (hC V) 0 0 (some (.int res.1)) (hC res.2)) {l1 : Int32} {l2 : Int32} {l3 : Int32} {l4 : Int32} {V : Mm} {res : Int32 × Mm}  (h : eX5_run_b90 k34 l1 l2 l3 l4 V = some res) : Go mX5_run 90 [some (.ref 0), some (.int l1), some (.int l2), some (.int l3), some (.int l4)] [] (hC V) 0 0 (some (.int res.1)) (hC res.2) := by
  unfold eX5_run_b90 at h
  refine go_iload (pc := 90) dX5_run_90 rfl ?_
  refine go_if_ne (pc := 92) (tgt := 105) dX5_run_92 rfl (fun c11 => ?_) (fun c11 => ?_)
  · replace h := ifn h c11
    refine go_aload_n (pc := 105) dX5_run_105 rfl rfl ?_
    refine go_getP (pc := 106) (a := 3) fX5_21 (by decide) (show TC 0 = (5 + 5, 13) from rfl) rfl dX5_run_106 ?_
    refine go_iload_n (pc := 109) dX5_run_109 rfl rfl ?_
    obtain ⟨c12, h⟩ := ok_not h
    refine go_aald (pc := 110) (t := 4) (a := (91 + 9 * l3.toNatClampNeg)) (by decide) (show TC 3 = (4, 12) from rfl) (vin c12) (O_P (vlt c12)) dX5_run_110 ?_
    obtain ⟨r13, e14, h⟩ := ok_bind h
    refine go_cV (pc := 111) (ci := 4) (As := []) (st := []) (E_X4_clear (isOut_of (vlt c12)) e14) rfl oX4_clear iX4_clear sX4_clear kX5_103 rfl (O_T (isOut_of (vlt c12))) rfl (Nat.le_of_ble_eq_true rfl) ⟨Nat.le_of_ble_eq_true rfl, Nat.le_of_ble_eq_true rfl⟩ ⟨rfl, rfl⟩ dX5_run_111 (st2 := []) rfl ?_
    refine go_aload_n (pc := 114) dX5_run_114 rfl rfl ?_
    refine go_getP (pc := 115) (a := 3) fX5_21 (by decide) (show TC 0 = (5 + 5, 13) from rfl) rfl dX5_run_115 ?_
    refine go_iload_n (pc := 118) dX5_run_118 rfl rfl ?_
    obtain ⟨c15, h⟩ := ok_not h
    refine go_aald (pc := 119) (t := 4) (a := (91 + 9 * l3.toNatClampNeg)) (by decide) (show TC 3 = (4, 12) from rfl) (vin c15) (O_P (vlt c15)) dX5_run_119 ?_
    refine go_iload (pc := 120) dX5_run_120 rfl ?_
    refine go_putI (pc := 122) (k := 2) fX5_117 (Or.inl rfl) (Or.inl rfl) (O_T (isOut_of (vlt c15))) dX5_run_122 ?_
    refine go_iinc (pc := 125) (v := (l3 + 1)) dX5_run_125 rfl (by rw [ci_1]) (Nat.le_of_ble_eq_true rfl) (L2 := [some (.ref 0), some (.int l1), some (.int l2), some (.int (l3 + 1)), some (.int l4)]) rfl ?_
    refine go_goto (pc := 128) (tgt := 34) dX5_run_128 rfl ?_
    refine go_le (lle_s (lle_s (lle_s (lle_s (lle_n lle_0))))) ?_
    exact hk34 _ _ _ _ _  h
  · replace h := ifp h c11
    refine go_aload_n (pc := 95) dX5_run_95 rfl rfl ?_
    obtain ⟨r16, e17, h⟩ := ok_bind h
    refine go_cV (pc := 96) (ci := 5) (As := []) (st := []) (E_X5_logTouched e17) rfl oX5_logTouched iX5_logTouched sX5_logTouched kX5_114 rfl (show TC 0 = (5 + 5, 13) from rfl) rfl (Nat.le_of_ble_eq_true rfl) ⟨Nat.le_of_ble_eq_true rfl, Nat.le_of_ble_eq_true rfl⟩ ⟨rfl, rfl⟩ dX5_run_96 (st2 := []) rfl ?_
    refine go_iinc (pc := 99) (v := (l2 + 1)) dX5_run_99 rfl (by rw [ci_1]) (Nat.le_of_ble_eq_true rfl) (L2 := [some (.ref 0), some (.int l1), some (.int (l2 + 1)), some (.int l3), some (.int l4)]) rfl ?_
    refine go_goto (pc := 102) (tgt := 114) dX5_run_102 rfl ?_
    refine go_aload_n (pc := 114) dX5_run_114 rfl rfl ?_
    refine go_getP (pc := 115) (a := 3) fX5_21 (by decide) (show TC 0 = (5 + 5, 13) from rfl) rfl dX5_run_115 ?_
    refine go_iload_n (pc := 118) dX5_run_118 rfl rfl ?_
    obtain ⟨c18, h⟩ := ok_not h
    refine go_aald (pc := 119) (t := 4) (a := (91 + 9 * l3.toNatClampNeg)) (by decide) (show TC 3 = (4, 12) from rfl) (vin c18) (O_P (vlt c18)) dX5_run_119 ?_
    refine go_iload (pc := 120) dX5_run_120 rfl ?_
    refine go_putI (pc := 122) (k := 2) fX5_117 (Or.inl rfl) (Or.inl rfl) (O_T (isOut_of (vlt c18))) dX5_run_122 ?_
    refine go_iinc (pc := 125) (v := (l3 + 1)) dX5_run_125 rfl (by rw [ci_1]) (Nat.le_of_ble_eq_true rfl) (L2 := [some (.ref 0), some (.int l1), some (.int (l2 + 1)), some (.int (l3 + 1)), some (.int l4)]) rfl ?_
    refine go_goto (pc := 128) (tgt := 34) dX5_run_128 rfl ?_
    refine go_le (lle_s (lle_s (lle_s (lle_s (lle_n lle_0))))) ?_
    exact hk34 _ _ _ _ _  h
def eX5_run_b34 : Nat → Int32 → Int32 → Int32 → Mm → Option (Int32 × Mm)
  | 0, _, _, _, _ => none
  | n + 1, l1, l2, l3, V => 
    if l1 ≤ l3 then
      some (l2, (wr V 0 11 l1))
    else
      if 12 ≤ l3 then
        some (l2, (wr V 0 11 l1))
      else
        if l3 < 0 ∨ 12 ≤ l3.toNatClampNeg then none else
        (eX4_clear (91 + 9 * l3.toNatClampNeg) V).bind fun r5 =>
        if l3 < 0 ∨ 12 ≤ l3.toNatClampNeg then none else
        (eX5_refusalOf (89 + 9 * l3.toNatClampNeg) l3 r5).bind fun r8 =>
        if r8 = 0 then
          if l3 < 0 ∨ 12 ≤ l3.toNatClampNeg then none else
          if l3 < 0 ∨ 12 ≤ l3.toNatClampNeg then none else
          (eX5_act (89 + 9 * l3.toNatClampNeg) (91 + 9 * l3.toNatClampNeg) r5).bind fun r21 =>
          eX5_run_b90 (fun l1 l2 l3 V => eX5_run_b34 n l1 l2 l3 V) l1 l2 l3 r21.1 r21.2
        else
          eX5_run_b90 (fun l1 l2 l3 V => eX5_run_b34 n l1 l2 l3 V) l1 l2 l3 r8 r5
set_option maxHeartbeats 4000000 in
set_option maxRecDepth 100000 in
theorem gX5_run_b34 : ∀ (n : Nat) (l1 : Int32) (l2 : Int32) (l3 : Int32) (V : Mm) (res : Int32 × Mm) , eX5_run_b34 n l1 l2 l3 V = some res → Go mX5_run 34 [some (.ref 0), some (.int l1), some (.int l2), some (.int l3), none] [] (hC V) 0 0 (some (.int res.1)) (hC res.2) := by
  intro n
  induction n with
  | zero =>
    intro l1 l2 l3 V res  h
    cases h
  | succ n ih =>
    intro l1 l2 l3 V res  h
    rw [eX5_run_b34] at h
    refine go_iload_n (pc := 34) dX5_run_34 rfl rfl ?_
    refine go_iload_n (pc := 35) dX5_run_35 rfl rfl ?_
    refine go_icmp_ge (pc := 36) (tgt := 131) dX5_run_36 rfl (fun c2 => ?_) (fun c2 => ?_)
    · replace h := ifp h c2
      refine go_aload_n (pc := 131) dX5_run_131 rfl rfl ?_
      refine go_iload_n (pc := 132) dX5_run_132 rfl rfl ?_
      refine go_putI (pc := 133) (k := 11) fX5_100 (Or.inl rfl) (Or.inl rfl) (show TC 0 = (5 + 5, 13) from rfl) dX5_run_133 ?_
      refine go_iload_n (pc := 136) dX5_run_136 rfl rfl ?_
      cases h
      exact go_iret (pc := 137) (Or.inl rfl) ⟨Nat.zero_le _, Nat.zero_le _⟩ dX5_run_137
    · replace h := ifn h c2
      refine go_iload_n (pc := 39) dX5_run_39 rfl rfl ?_
      refine go_bipush (pc := 40) (v := 12) dX5_run_40 cb_12 ?_
      refine go_icmp_ge (pc := 42) (tgt := 131) dX5_run_42 rfl (fun c3 => ?_) (fun c3 => ?_)
      · replace h := ifp h c3
        refine go_aload_n (pc := 131) dX5_run_131 rfl rfl ?_
        refine go_iload_n (pc := 132) dX5_run_132 rfl rfl ?_
        refine go_putI (pc := 133) (k := 11) fX5_100 (Or.inl rfl) (Or.inl rfl) (show TC 0 = (5 + 5, 13) from rfl) dX5_run_133 ?_
        refine go_iload_n (pc := 136) dX5_run_136 rfl rfl ?_
        cases h
        exact go_iret (pc := 137) (Or.inl rfl) ⟨Nat.zero_le _, Nat.zero_le _⟩ dX5_run_137
      · replace h := ifn h c3
        refine go_aload_n (pc := 45) dX5_run_45 rfl rfl ?_
        refine go_getP (pc := 46) (a := 3) fX5_21 (by decide) (show TC 0 = (5 + 5, 13) from rfl) rfl dX5_run_46 ?_
        refine go_iload_n (pc := 49) dX5_run_49 rfl rfl ?_
        obtain ⟨c4, h⟩ := ok_not h
        refine go_aald (pc := 50) (t := 4) (a := (91 + 9 * l3.toNatClampNeg)) (by decide) (show TC 3 = (4, 12) from rfl) (vin c4) (O_P (vlt c4)) dX5_run_50 ?_
        obtain ⟨r5, e6, h⟩ := ok_bind h
        refine go_cV (pc := 51) (ci := 4) (As := []) (st := []) (E_X4_clear (isOut_of (vlt c4)) e6) rfl oX4_clear iX4_clear sX4_clear kX5_103 rfl (O_T (isOut_of (vlt c4))) rfl (Nat.le_of_ble_eq_true rfl) ⟨Nat.le_of_ble_eq_true rfl, Nat.le_of_ble_eq_true rfl⟩ ⟨rfl, rfl⟩ dX5_run_51 (st2 := []) rfl ?_
        refine go_aload_n (pc := 54) dX5_run_54 rfl rfl ?_
        refine go_aload_n (pc := 55) dX5_run_55 rfl rfl ?_
        refine go_getP (pc := 56) (a := 2) fX5_15 (by decide) (show TC 0 = (5 + 5, 13) from rfl) rfl dX5_run_56 ?_
        refine go_iload_n (pc := 59) dX5_run_59 rfl rfl ?_
        obtain ⟨c7, h⟩ := ok_not h
        refine go_aald (pc := 60) (t := 3) (a := (89 + 9 * l3.toNatClampNeg)) (by decide) (show TC 2 = (3, 12) from rfl) (vin c7) (C_P (vlt c7)) dX5_run_60 ?_
        refine go_iload_n (pc := 61) dX5_run_61 rfl rfl ?_
        obtain ⟨r8, e9, h⟩ := ok_bind h
        refine go_cV (pc := 62) (ci := 5) (As := [.ref (89 + 9 * l3.toNatClampNeg), .int l3]) (st := []) (E_X5_refusalOf (isCall_of (vlt c7)) e9) rfl oX5_refusalOf iX5_refusalOf sX5_refusalOf kX5_106 rfl (show TC 0 = (5 + 5, 13) from rfl) rfl (Nat.le_of_ble_eq_true rfl) ⟨Nat.le_of_ble_eq_true rfl, Nat.le_of_ble_eq_true rfl⟩ ⟨rfl, rfl⟩ dX5_run_62 (st2 := [.int r8]) rfl ?_
        refine go_istore (pc := 65) (i := 4) dX5_run_65 (Nat.le_of_ble_eq_true rfl) (L2 := [some (.ref 0), some (.int l1), some (.int l2), some (.int l3), some (.int r8)]) rfl ?_
        refine go_iload (pc := 67) dX5_run_67 rfl ?_
        refine go_if_ne (pc := 69) (tgt := 90) dX5_run_69 rfl (fun c10 => ?_) (fun c10 => ?_)
        · replace h := ifn h c10
          exact gX5_run_b90 ih  h
        · replace h := ifp h c10
          refine go_aload_n (pc := 72) dX5_run_72 rfl rfl ?_
          refine go_aload_n (pc := 73) dX5_run_73 rfl rfl ?_
          refine go_getP (pc := 74) (a := 2) fX5_15 (by decide) (show TC 0 = (5 + 5, 13) from rfl) rfl dX5_run_74 ?_
          refine go_iload_n (pc := 77) dX5_run_77 rfl rfl ?_
          obtain ⟨c19, h⟩ := ok_not h
          refine go_aald (pc := 78) (t := 3) (a := (89 + 9 * l3.toNatClampNeg)) (by decide) (show TC 2 = (3, 12) from rfl) (vin c19) (C_P (vlt c19)) dX5_run_78 ?_
          refine go_aload_n (pc := 79) dX5_run_79 rfl rfl ?_
          refine go_getP (pc := 80) (a := 3) fX5_21 (by decide) (show TC 0 = (5 + 5, 13) from rfl) rfl dX5_run_80 ?_
          refine go_iload_n (pc := 83) dX5_run_83 rfl rfl ?_
          obtain ⟨c20, h⟩ := ok_not h
          refine go_aald (pc := 84) (t := 4) (a := (91 + 9 * l3.toNatClampNeg)) (by decide) (show TC 3 = (4, 12) from rfl) (vin c20) (O_P (vlt c20)) dX5_run_84 ?_
          obtain ⟨r21, e22, h⟩ := ok_bind h
          refine go_cV (pc := 85) (ci := 5) (As := [.ref (89 + 9 * l3.toNatClampNeg), .ref (91 + 9 * l3.toNatClampNeg)]) (st := []) (E_X5_act (isCall_of (vlt c19)) (isOut_of (vlt c20)) e22) rfl oX5_act iX5_act sX5_act kX5_110 rfl (show TC 0 = (5 + 5, 13) from rfl) rfl (Nat.le_of_ble_eq_true rfl) ⟨Nat.le_of_ble_eq_true rfl, Nat.le_of_ble_eq_true rfl⟩ ⟨rfl, rfl⟩ dX5_run_85 (st2 := [.int r21.1]) rfl ?_
          refine go_istore (pc := 88) (i := 4) dX5_run_88 (Nat.le_of_ble_eq_true rfl) (L2 := [some (.ref 0), some (.int l1), some (.int l2), some (.int l3), some (.int r21.1)]) rfl ?_
          exact gX5_run_b90 ih  h
def eX5_run  (V : Mm) : Option (Int32 × Mm) :=
  if (V 0 12) = 0 then
    eX5_run_b34 fu (V 0 10) 0 0 (wr (wr V 0 10 0) 0 11 0)
  else
    some ((-9), (wr (wr (wr V 0 10 0) 0 11 0) 0 12 0))
set_option maxHeartbeats 4000000 in
set_option maxRecDepth 100000 in
theorem E_X5_run  {V : Mm} {res : Int32 × Mm}  (h : eX5_run V = some res) : Ev mX5_run [.ref 0] (hC V) (some (.int res.1)) (hC res.2) := by
  refine Ev.of (n := 4) oX5_run.1 (Nat.le_of_ble_eq_true rfl) ?_
  unfold eX5_run at h
  show Go mX5_run 0 [some (.ref 0), none, none, none, none] [] (hC V) 0 0 (some (.int res.1)) (hC res.2)
  refine go_aload_n (pc := 0) dX5_run_0 rfl rfl ?_
  refine go_gI (pc := 1) (v := V 0 10) fX5_63 (by decide) (show TC 0 = (5 + 5, 13) from rfl) dX5_run_1 rfl ?_
  refine go_istore_n (pc := 4) (i := 1) dX5_run_4 rfl (Nat.le_of_ble_eq_true rfl) (L2 := [some (.ref 0), some (.int (V 0 10)), none, none, none]) rfl ?_
  refine go_aload_n (pc := 5) dX5_run_5 rfl rfl ?_
  refine go_iconst (pc := 6) (v := 0) dX5_run_6 ci_0 ?_
  refine go_putI (pc := 7) (k := 10) fX5_63 (Or.inl rfl) (Or.inl rfl) (show TC 0 = (5 + 5, 13) from rfl) dX5_run_7 ?_
  refine go_aload_n (pc := 10) dX5_run_10 rfl rfl ?_
  refine go_iconst (pc := 11) (v := 0) dX5_run_11 ci_0 ?_
  refine go_putI (pc := 12) (k := 11) fX5_100 (Or.inl rfl) (Or.inl rfl) (show TC 0 = (5 + 5, 13) from rfl) dX5_run_12 ?_
  refine go_aload_n (pc := 15) dX5_run_15 rfl rfl ?_
  refine go_gI (pc := 16) (v := V 0 12) fX5_96 (by decide) (show TC 0 = (5 + 5, 13) from rfl) dX5_run_16 rfl ?_
  refine go_if_eq (pc := 19) (tgt := 30) dX5_run_19 rfl (fun c1 => ?_) (fun c1 => ?_)
  · replace h := ifp h c1
    refine go_iconst (pc := 30) (v := 0) dX5_run_30 ci_0 ?_
    refine go_istore_n (pc := 31) (i := 2) dX5_run_31 rfl (Nat.le_of_ble_eq_true rfl) (L2 := [some (.ref 0), some (.int (V 0 10)), some (.int 0), none, none]) rfl ?_
    refine go_iconst (pc := 32) (v := 0) dX5_run_32 ci_0 ?_
    refine go_istore_n (pc := 33) (i := 3) dX5_run_33 rfl (Nat.le_of_ble_eq_true rfl) (L2 := [some (.ref 0), some (.int (V 0 10)), some (.int 0), some (.int 0), none]) rfl ?_
    exact gX5_run_b34 _ _ _ _ _ _  h
  · replace h := ifn h c1
    refine go_aload_n (pc := 22) dX5_run_22 rfl rfl ?_
    refine go_iconst (pc := 23) (v := 0) dX5_run_23 ci_0 ?_
    refine go_putI (pc := 24) (k := 12) fX5_96 (Or.inr ⟨rfl, Or.inl rfl⟩) (Or.inl rfl) (show TC 0 = (5 + 5, 13) from rfl) dX5_run_24 ?_
    refine go_bipush (pc := 27) (v := (-9)) dX5_run_27 cb_m9 ?_
    cases h
    exact go_iret (pc := 29) (Or.inl rfl) ⟨Nat.zero_le _, Nat.zero_le _⟩ dX5_run_29
def eX5_drop  (V : Mm) : Option (Int32 × Mm) :=
  some (V 0 10, (wr V 0 10 0))
set_option maxHeartbeats 4000000 in
set_option maxRecDepth 100000 in
theorem E_X5_drop  {V : Mm} {res : Int32 × Mm}  (h : eX5_drop V = some res) : Ev mX5_drop [.ref 0] (hC V) (some (.int res.1)) (hC res.2) := by
  refine Ev.of (n := 1) oX5_drop.1 (Nat.le_of_ble_eq_true rfl) ?_
  unfold eX5_drop at h
  show Go mX5_drop 0 [some (.ref 0), none] [] (hC V) 0 0 (some (.int res.1)) (hC res.2)
  refine go_aload_n (pc := 0) dX5_drop_0 rfl rfl ?_
  refine go_gI (pc := 1) (v := V 0 10) fX5_63 (by decide) (show TC 0 = (5 + 5, 13) from rfl) dX5_drop_1 rfl ?_
  refine go_istore_n (pc := 4) (i := 1) dX5_drop_4 rfl (Nat.le_of_ble_eq_true rfl) (L2 := [some (.ref 0), some (.int (V 0 10))]) rfl ?_
  refine go_aload_n (pc := 5) dX5_drop_5 rfl rfl ?_
  refine go_iconst (pc := 6) (v := 0) dX5_drop_6 ci_0 ?_
  refine go_putI (pc := 7) (k := 10) fX5_63 (Or.inl rfl) (Or.inl rfl) (show TC 0 = (5 + 5, 13) from rfl) dX5_drop_7 ?_
  refine go_iload_n (pc := 10) dX5_drop_10 rfl rfl ?_
  cases h
  exact go_iret (pc := 11) (Or.inl rfl) ⟨Nat.zero_le _, Nat.zero_le _⟩ dX5_drop_11
def eX5_status (a1 : Int32) (V : Mm) : Option (Int32) :=
  if a1 < 0 then
    some (-9)
  else
    if (V 0 11) ≤ a1 then
      some (-9)
    else
      if a1 < 12 then
        if a1 < 0 ∨ 12 ≤ a1.toNatClampNeg then none else
        some (V (91 + 9 * a1.toNatClampNeg) 2)
      else
        some (-9)
set_option maxHeartbeats 4000000 in
set_option maxRecDepth 100000 in
theorem E_X5_status {a1 : Int32} {V : Mm} {res : Int32}  (h : eX5_status a1 V = some res) : Ev mX5_status [.ref 0, .int a1] (hC V) (some (.int res)) (hC V) := by
  refine Ev.of (n := 0) oX5_status.1 (Nat.le_of_ble_eq_true rfl) ?_
  unfold eX5_status at h
  show Go mX5_status 0 [some (.ref 0), some (.int a1)] [] (hC V) 0 0 (some (.int res)) (hC V)
  refine go_iload_n (pc := 0) dX5_status_0 rfl rfl ?_
  refine go_if_lt (pc := 1) (tgt := 18) dX5_status_1 rfl (fun c1 => ?_) (fun c1 => ?_)
  · replace h := ifp h c1
    refine go_bipush (pc := 18) (v := (-9)) dX5_status_18 cb_m9 ?_
    cases h
    exact go_iret (pc := 20) (Or.inl rfl) ⟨Nat.zero_le _, Nat.zero_le _⟩ dX5_status_20
  · replace h := ifn h c1
    refine go_iload_n (pc := 4) dX5_status_4 rfl rfl ?_
    refine go_aload_n (pc := 5) dX5_status_5 rfl rfl ?_
    refine go_gI (pc := 6) (v := V 0 11) fX5_100 (by decide) (show TC 0 = (5 + 5, 13) from rfl) dX5_status_6 rfl ?_
    refine go_icmp_ge (pc := 9) (tgt := 18) dX5_status_9 rfl (fun c2 => ?_) (fun c2 => ?_)
    · replace h := ifp h c2
      refine go_bipush (pc := 18) (v := (-9)) dX5_status_18 cb_m9 ?_
      cases h
      exact go_iret (pc := 20) (Or.inl rfl) ⟨Nat.zero_le _, Nat.zero_le _⟩ dX5_status_20
    · replace h := ifn h c2
      refine go_iload_n (pc := 12) dX5_status_12 rfl rfl ?_
      refine go_bipush (pc := 13) (v := 12) dX5_status_13 cb_12 ?_
      refine go_icmp_lt (pc := 15) (tgt := 21) dX5_status_15 rfl (fun c3 => ?_) (fun c3 => ?_)
      · replace h := ifp h c3
        refine go_aload_n (pc := 21) dX5_status_21 rfl rfl ?_
        refine go_getP (pc := 22) (a := 3) fX5_21 (by decide) (show TC 0 = (5 + 5, 13) from rfl) rfl dX5_status_22 ?_
        refine go_iload_n (pc := 25) dX5_status_25 rfl rfl ?_
        obtain ⟨c4, h⟩ := ok_not h
        refine go_aald (pc := 26) (t := 4) (a := (91 + 9 * a1.toNatClampNeg)) (by decide) (show TC 3 = (4, 12) from rfl) (vin c4) (O_P (vlt c4)) dX5_status_26 ?_
        refine go_gI (pc := 27) (v := V (91 + 9 * a1.toNatClampNeg) 2) fX5_117 (by decide) (O_T (isOut_of (vlt c4))) dX5_status_27 rfl ?_
        cases h
        exact go_iret (pc := 30) (Or.inl rfl) ⟨Nat.zero_le _, Nat.zero_le _⟩ dX5_status_30
      · replace h := ifn h c3
        refine go_bipush (pc := 18) (v := (-9)) dX5_status_18 cb_m9 ?_
        cases h
        exact go_iret (pc := 20) (Or.inl rfl) ⟨Nat.zero_le _, Nat.zero_le _⟩ dX5_status_20
def eX5_many (a1 : Int32) (a2 : Int32) (V : Mm) : Option (Int32) :=
  if a1 < 0 then
    some (-1)
  else
    if (V 0 11) ≤ a1 then
      some (-1)
    else
      if a1 < 12 then
        if a1 < 0 ∨ 12 ≤ a1.toNatClampNeg then none else
        (eX4_count (91 + 9 * a1.toNatClampNeg) a2 V).bind fun r5 =>
        some r5
      else
        some (-1)
set_option maxHeartbeats 4000000 in
set_option maxRecDepth 100000 in
theorem E_X5_many {a1 : Int32} {a2 : Int32} {V : Mm} {res : Int32}  (h : eX5_many a1 a2 V = some res) : Ev mX5_many [.ref 0, .int a1, .int a2] (hC V) (some (.int res)) (hC V) := by
  refine Ev.of (n := 0) oX5_many.1 (Nat.le_of_ble_eq_true rfl) ?_
  unfold eX5_many at h
  show Go mX5_many 0 [some (.ref 0), some (.int a1), some (.int a2)] [] (hC V) 0 0 (some (.int res)) (hC V)
  refine go_iload_n (pc := 0) dX5_many_0 rfl rfl ?_
  refine go_if_lt (pc := 1) (tgt := 18) dX5_many_1 rfl (fun c1 => ?_) (fun c1 => ?_)
  · replace h := ifp h c1
    refine go_iconst (pc := 18) (v := (-1)) dX5_many_18 ci_m1 ?_
    cases h
    exact go_iret (pc := 19) (Or.inl rfl) ⟨Nat.zero_le _, Nat.zero_le _⟩ dX5_many_19
  · replace h := ifn h c1
    refine go_iload_n (pc := 4) dX5_many_4 rfl rfl ?_
    refine go_aload_n (pc := 5) dX5_many_5 rfl rfl ?_
    refine go_gI (pc := 6) (v := V 0 11) fX5_100 (by decide) (show TC 0 = (5 + 5, 13) from rfl) dX5_many_6 rfl ?_
    refine go_icmp_ge (pc := 9) (tgt := 18) dX5_many_9 rfl (fun c2 => ?_) (fun c2 => ?_)
    · replace h := ifp h c2
      refine go_iconst (pc := 18) (v := (-1)) dX5_many_18 ci_m1 ?_
      cases h
      exact go_iret (pc := 19) (Or.inl rfl) ⟨Nat.zero_le _, Nat.zero_le _⟩ dX5_many_19
    · replace h := ifn h c2
      refine go_iload_n (pc := 12) dX5_many_12 rfl rfl ?_
      refine go_bipush (pc := 13) (v := 12) dX5_many_13 cb_12 ?_
      refine go_icmp_lt (pc := 15) (tgt := 20) dX5_many_15 rfl (fun c3 => ?_) (fun c3 => ?_)
      · replace h := ifp h c3
        refine go_aload_n (pc := 20) dX5_many_20 rfl rfl ?_
        refine go_getP (pc := 21) (a := 3) fX5_21 (by decide) (show TC 0 = (5 + 5, 13) from rfl) rfl dX5_many_21 ?_
        refine go_iload_n (pc := 24) dX5_many_24 rfl rfl ?_
        obtain ⟨c4, h⟩ := ok_not h
        refine go_aald (pc := 25) (t := 4) (a := (91 + 9 * a1.toNatClampNeg)) (by decide) (show TC 3 = (4, 12) from rfl) (vin c4) (O_P (vlt c4)) dX5_many_25 ?_
        refine go_iload_n (pc := 26) dX5_many_26 rfl rfl ?_
        obtain ⟨r5, e6, h⟩ := ok_bind h
        refine go_cV (pc := 27) (ci := 4) (As := [.int a2]) (st := []) (E_X4_count (isOut_of (vlt c4)) e6) rfl oX4_count iX4_count sX4_count kX5_120 rfl (O_T (isOut_of (vlt c4))) rfl (Nat.le_of_ble_eq_true rfl) ⟨Nat.le_of_ble_eq_true rfl, Nat.le_of_ble_eq_true rfl⟩ ⟨rfl, rfl⟩ dX5_many_27 (st2 := [.int r5]) rfl ?_
        cases h
        exact go_iret (pc := 30) (Or.inl rfl) ⟨Nat.zero_le _, Nat.zero_le _⟩ dX5_many_30
      · replace h := ifn h c3
        refine go_iconst (pc := 18) (v := (-1)) dX5_many_18 ci_m1 ?_
        cases h
        exact go_iret (pc := 19) (Or.inl rfl) ⟨Nat.zero_le _, Nat.zero_le _⟩ dX5_many_19
def eX5_given (a1 : Int32) (a2 : Int32) (a3 : Int32) (V : Mm) : Option (Int32) :=
  if a1 < 0 then
    some (-1)
  else
    if (V 0 11) ≤ a1 then
      some (-1)
    else
      if a1 < 12 then
        if a1 < 0 ∨ 12 ≤ a1.toNatClampNeg then none else
        (eX4_at (91 + 9 * a1.toNatClampNeg) a2 a3 V).bind fun r5 =>
        some r5
      else
        some (-1)
set_option maxHeartbeats 4000000 in
set_option maxRecDepth 100000 in
theorem E_X5_given {a1 : Int32} {a2 : Int32} {a3 : Int32} {V : Mm} {res : Int32}  (h : eX5_given a1 a2 a3 V = some res) : Ev mX5_given [.ref 0, .int a1, .int a2, .int a3] (hC V) (some (.int res)) (hC V) := by
  refine Ev.of (n := 0) oX5_given.1 (Nat.le_of_ble_eq_true rfl) ?_
  unfold eX5_given at h
  show Go mX5_given 0 [some (.ref 0), some (.int a1), some (.int a2), some (.int a3)] [] (hC V) 0 0 (some (.int res)) (hC V)
  refine go_iload_n (pc := 0) dX5_given_0 rfl rfl ?_
  refine go_if_lt (pc := 1) (tgt := 18) dX5_given_1 rfl (fun c1 => ?_) (fun c1 => ?_)
  · replace h := ifp h c1
    refine go_iconst (pc := 18) (v := (-1)) dX5_given_18 ci_m1 ?_
    cases h
    exact go_iret (pc := 19) (Or.inl rfl) ⟨Nat.zero_le _, Nat.zero_le _⟩ dX5_given_19
  · replace h := ifn h c1
    refine go_iload_n (pc := 4) dX5_given_4 rfl rfl ?_
    refine go_aload_n (pc := 5) dX5_given_5 rfl rfl ?_
    refine go_gI (pc := 6) (v := V 0 11) fX5_100 (by decide) (show TC 0 = (5 + 5, 13) from rfl) dX5_given_6 rfl ?_
    refine go_icmp_ge (pc := 9) (tgt := 18) dX5_given_9 rfl (fun c2 => ?_) (fun c2 => ?_)
    · replace h := ifp h c2
      refine go_iconst (pc := 18) (v := (-1)) dX5_given_18 ci_m1 ?_
      cases h
      exact go_iret (pc := 19) (Or.inl rfl) ⟨Nat.zero_le _, Nat.zero_le _⟩ dX5_given_19
    · replace h := ifn h c2
      refine go_iload_n (pc := 12) dX5_given_12 rfl rfl ?_
      refine go_bipush (pc := 13) (v := 12) dX5_given_13 cb_12 ?_
      refine go_icmp_lt (pc := 15) (tgt := 20) dX5_given_15 rfl (fun c3 => ?_) (fun c3 => ?_)
      · replace h := ifp h c3
        refine go_aload_n (pc := 20) dX5_given_20 rfl rfl ?_
        refine go_getP (pc := 21) (a := 3) fX5_21 (by decide) (show TC 0 = (5 + 5, 13) from rfl) rfl dX5_given_21 ?_
        refine go_iload_n (pc := 24) dX5_given_24 rfl rfl ?_
        obtain ⟨c4, h⟩ := ok_not h
        refine go_aald (pc := 25) (t := 4) (a := (91 + 9 * a1.toNatClampNeg)) (by decide) (show TC 3 = (4, 12) from rfl) (vin c4) (O_P (vlt c4)) dX5_given_25 ?_
        refine go_iload_n (pc := 26) dX5_given_26 rfl rfl ?_
        refine go_iload_n (pc := 27) dX5_given_27 rfl rfl ?_
        obtain ⟨r5, e6, h⟩ := ok_bind h
        refine go_cV (pc := 28) (ci := 4) (As := [.int a2, .int a3]) (st := []) (E_X4_at (isOut_of (vlt c4)) e6) rfl oX4_at iX4_at sX4_at kX5_124 rfl (O_T (isOut_of (vlt c4))) rfl (Nat.le_of_ble_eq_true rfl) ⟨Nat.le_of_ble_eq_true rfl, Nat.le_of_ble_eq_true rfl⟩ ⟨rfl, rfl⟩ dX5_given_28 (st2 := [.int r5]) rfl ?_
        cases h
        exact go_iret (pc := 31) (Or.inl rfl) ⟨Nat.zero_le _, Nat.zero_le _⟩ dX5_given_31
      · replace h := ifn h c3
        refine go_iconst (pc := 18) (v := (-1)) dX5_given_18 ci_m1 ?_
        cases h
        exact go_iret (pc := 19) (Or.inl rfl) ⟨Nat.zero_le _, Nat.zero_le _⟩ dX5_given_19
def eX5_state (a1 : Int32) (V : Mm) : Option (Int32) :=
  (eX5_isKind a1 V).bind fun r1 =>
  if r1 = 0 then
    some (-1)
  else
    (eX5_kindOf a1 V).bind fun r4 =>
    some (V r4 6)
set_option maxHeartbeats 4000000 in
set_option maxRecDepth 100000 in
theorem E_X5_state {a1 : Int32} {V : Mm} {res : Int32}  (h : eX5_state a1 V = some res) : Ev mX5_state [.ref 0, .int a1] (hC V) (some (.int res)) (hC V) := by
  refine Ev.of (n := 0) oX5_state.1 (Nat.le_of_ble_eq_true rfl) ?_
  unfold eX5_state at h
  show Go mX5_state 0 [some (.ref 0), some (.int a1)] [] (hC V) 0 0 (some (.int res)) (hC V)
  refine go_iload_n (pc := 0) dX5_state_0 rfl rfl ?_
  obtain ⟨r1, e2, h⟩ := ok_bind h
  refine go_cS (pc := 1) (As := [.int a1]) (st := []) (E_X5_isKind e2) rfl oX5_isKind iX5_isKind kX5_128 rfl (Nat.le_of_ble_eq_true rfl) ⟨Nat.le_of_ble_eq_true rfl, Nat.le_of_ble_eq_true rfl⟩ ⟨rfl, rfl⟩ dX5_state_1 (st2 := [.int r1]) rfl ?_
  refine go_if_eq (pc := 4) (tgt := 18) dX5_state_4 rfl (fun c3 => ?_) (fun c3 => ?_)
  · replace h := ifp h c3
    refine go_iconst (pc := 18) (v := (-1)) dX5_state_18 ci_m1 ?_
    cases h
    exact go_iret (pc := 19) (Or.inl rfl) ⟨Nat.zero_le _, Nat.zero_le _⟩ dX5_state_19
  · replace h := ifn h c3
    refine go_aload_n (pc := 7) dX5_state_7 rfl rfl ?_
    refine go_iload_n (pc := 8) dX5_state_8 rfl rfl ?_
    obtain ⟨r4, e5, h⟩ := ok_bind h
    have hr6 : isK r4 := kindOf_isK e5
    refine go_cV (pc := 9) (ci := 5) (As := [.int a1]) (st := []) (E_X5_kindOf e5) rfl oX5_kindOf iX5_kindOf sX5_kindOf kX5_132 rfl (show TC 0 = (5 + 5, 13) from rfl) rfl (Nat.le_of_ble_eq_true rfl) ⟨Nat.le_of_ble_eq_true rfl, Nat.le_of_ble_eq_true rfl⟩ ⟨rfl, rfl⟩ dX5_state_9 (st2 := [.ref r4]) rfl ?_
    refine go_gI (pc := 12) (v := V r4 6) fX5_136 (by decide) (K_T hr6) dX5_state_12 rfl ?_
    refine go_goto (pc := 15) (tgt := 19) dX5_state_15 rfl ?_
    cases h
    exact go_iret (pc := 19) (Or.inl rfl) ⟨Nat.zero_le _, Nat.zero_le _⟩ dX5_state_19
def eX5_told (a1 : Int32) (V : Mm) : Option (Int32) :=
  if a1 = 0 then
    (eX5_kindOf a1 V).bind fun r2 =>
    (eX2_howMany r2 V).bind fun r5 =>
    some r5
  else
  if a1 = 1 then
    (eX5_kindOf a1 V).bind fun r8 =>
    (eX2_howMany r8 V).bind fun r11 =>
    some r11
  else
  if a1 = 2 then
    (eX5_kindOf a1 V).bind fun r14 =>
    (eX2_howMany r14 V).bind fun r17 =>
    some r17
  else
  if a1 = 3 then
    some (V 0 10)
  else
  if a1 = 4 then
    some (V 0 11)
  else
  if a1 = 5 then
    some (V 76 4)
  else
  if a1 = 6 then
    some (V 84 3)
  else
  if a1 = 10 then
    (eX5_kindOf (a1 - 10) V).bind fun r24 =>
    some (V r24 4)
  else
  if a1 = 11 then
    (eX5_kindOf (a1 - 10) V).bind fun r28 =>
    some (V r28 4)
  else
  if a1 = 12 then
    (eX5_kindOf (a1 - 10) V).bind fun r32 =>
    some (V r32 4)
  else
  some (-2)
set_option maxHeartbeats 4000000 in
set_option maxRecDepth 100000 in
theorem E_X5_told {a1 : Int32} {V : Mm} {res : Int32}  (h : eX5_told a1 V = some res) : Ev mX5_told [.ref 0, .int a1] (hC V) (some (.int res)) (hC V) := by
  refine Ev.of (n := 0) oX5_told.1 (Nat.le_of_ble_eq_true rfl) ?_
  unfold eX5_told at h
  show Go mX5_told 0 [some (.ref 0), some (.int a1)] [] (hC V) 0 0 (some (.int res)) (hC V)
  refine go_iload_n (pc := 0) dX5_told_0 rfl rfl ?_
  by_cases c1 : a1 = 0
  · replace h := ifp h c1
    refine go_tabIn (pc := 1) (tgt := 68) dX5_told_1 (by rw [c1]; decide) (by rw [c1]; decide) (off := 67) (by rw [c1]; rfl) rfl ?_
    refine go_aload_n (pc := 68) dX5_told_68 rfl rfl ?_
    refine go_iload_n (pc := 69) dX5_told_69 rfl rfl ?_
    obtain ⟨r2, e3, h⟩ := ok_bind h
    have hr4 : isK r2 := kindOf_isK e3
    refine go_cV (pc := 70) (ci := 5) (As := [.int a1]) (st := []) (E_X5_kindOf e3) rfl oX5_kindOf iX5_kindOf sX5_kindOf kX5_132 rfl (show TC 0 = (5 + 5, 13) from rfl) rfl (Nat.le_of_ble_eq_true rfl) ⟨Nat.le_of_ble_eq_true rfl, Nat.le_of_ble_eq_true rfl⟩ ⟨rfl, rfl⟩ dX5_told_70 (st2 := [.ref r2]) rfl ?_
    obtain ⟨r5, e6, h⟩ := ok_bind h
    refine go_cV (pc := 73) (ci := 2) (As := []) (st := []) (E_X2_howMany hr4 e6) rfl oX2_howMany iX2_howMany sX2_howMany kX5_139 rfl (K_T hr4) rfl (Nat.le_of_ble_eq_true rfl) ⟨Nat.le_of_ble_eq_true rfl, Nat.le_of_ble_eq_true rfl⟩ ⟨rfl, rfl⟩ dX5_told_73 (st2 := [.int r5]) rfl ?_
    cases h
    exact go_iret (pc := 76) (Or.inl rfl) ⟨Nat.zero_le _, Nat.zero_le _⟩ dX5_told_76
  replace h := ifn h c1
  by_cases c7 : a1 = 1
  · replace h := ifp h c7
    refine go_tabIn (pc := 1) (tgt := 68) dX5_told_1 (by rw [c7]; decide) (by rw [c7]; decide) (off := 67) (by rw [c7]; rfl) rfl ?_
    refine go_aload_n (pc := 68) dX5_told_68 rfl rfl ?_
    refine go_iload_n (pc := 69) dX5_told_69 rfl rfl ?_
    obtain ⟨r8, e9, h⟩ := ok_bind h
    have hr10 : isK r8 := kindOf_isK e9
    refine go_cV (pc := 70) (ci := 5) (As := [.int a1]) (st := []) (E_X5_kindOf e9) rfl oX5_kindOf iX5_kindOf sX5_kindOf kX5_132 rfl (show TC 0 = (5 + 5, 13) from rfl) rfl (Nat.le_of_ble_eq_true rfl) ⟨Nat.le_of_ble_eq_true rfl, Nat.le_of_ble_eq_true rfl⟩ ⟨rfl, rfl⟩ dX5_told_70 (st2 := [.ref r8]) rfl ?_
    obtain ⟨r11, e12, h⟩ := ok_bind h
    refine go_cV (pc := 73) (ci := 2) (As := []) (st := []) (E_X2_howMany hr10 e12) rfl oX2_howMany iX2_howMany sX2_howMany kX5_139 rfl (K_T hr10) rfl (Nat.le_of_ble_eq_true rfl) ⟨Nat.le_of_ble_eq_true rfl, Nat.le_of_ble_eq_true rfl⟩ ⟨rfl, rfl⟩ dX5_told_73 (st2 := [.int r11]) rfl ?_
    cases h
    exact go_iret (pc := 76) (Or.inl rfl) ⟨Nat.zero_le _, Nat.zero_le _⟩ dX5_told_76
  replace h := ifn h c7
  by_cases c13 : a1 = 2
  · replace h := ifp h c13
    refine go_tabIn (pc := 1) (tgt := 68) dX5_told_1 (by rw [c13]; decide) (by rw [c13]; decide) (off := 67) (by rw [c13]; rfl) rfl ?_
    refine go_aload_n (pc := 68) dX5_told_68 rfl rfl ?_
    refine go_iload_n (pc := 69) dX5_told_69 rfl rfl ?_
    obtain ⟨r14, e15, h⟩ := ok_bind h
    have hr16 : isK r14 := kindOf_isK e15
    refine go_cV (pc := 70) (ci := 5) (As := [.int a1]) (st := []) (E_X5_kindOf e15) rfl oX5_kindOf iX5_kindOf sX5_kindOf kX5_132 rfl (show TC 0 = (5 + 5, 13) from rfl) rfl (Nat.le_of_ble_eq_true rfl) ⟨Nat.le_of_ble_eq_true rfl, Nat.le_of_ble_eq_true rfl⟩ ⟨rfl, rfl⟩ dX5_told_70 (st2 := [.ref r14]) rfl ?_
    obtain ⟨r17, e18, h⟩ := ok_bind h
    refine go_cV (pc := 73) (ci := 2) (As := []) (st := []) (E_X2_howMany hr16 e18) rfl oX2_howMany iX2_howMany sX2_howMany kX5_139 rfl (K_T hr16) rfl (Nat.le_of_ble_eq_true rfl) ⟨Nat.le_of_ble_eq_true rfl, Nat.le_of_ble_eq_true rfl⟩ ⟨rfl, rfl⟩ dX5_told_73 (st2 := [.int r17]) rfl ?_
    cases h
    exact go_iret (pc := 76) (Or.inl rfl) ⟨Nat.zero_le _, Nat.zero_le _⟩ dX5_told_76
  replace h := ifn h c13
  by_cases c19 : a1 = 3
  · replace h := ifp h c19
    refine go_tabIn (pc := 1) (tgt := 77) dX5_told_1 (by rw [c19]; decide) (by rw [c19]; decide) (off := 76) (by rw [c19]; rfl) rfl ?_
    refine go_aload_n (pc := 77) dX5_told_77 rfl rfl ?_
    refine go_gI (pc := 78) (v := V 0 10) fX5_63 (by decide) (show TC 0 = (5 + 5, 13) from rfl) dX5_told_78 rfl ?_
    cases h
    exact go_iret (pc := 81) (Or.inl rfl) ⟨Nat.zero_le _, Nat.zero_le _⟩ dX5_told_81
  replace h := ifn h c19
  by_cases c20 : a1 = 4
  · replace h := ifp h c20
    refine go_tabIn (pc := 1) (tgt := 82) dX5_told_1 (by rw [c20]; decide) (by rw [c20]; decide) (off := 81) (by rw [c20]; rfl) rfl ?_
    refine go_aload_n (pc := 82) dX5_told_82 rfl rfl ?_
    refine go_gI (pc := 83) (v := V 0 11) fX5_100 (by decide) (show TC 0 = (5 + 5, 13) from rfl) dX5_told_83 rfl ?_
    cases h
    exact go_iret (pc := 86) (Or.inl rfl) ⟨Nat.zero_le _, Nat.zero_le _⟩ dX5_told_86
  replace h := ifn h c20
  by_cases c21 : a1 = 5
  · replace h := ifp h c21
    refine go_tabIn (pc := 1) (tgt := 87) dX5_told_1 (by rw [c21]; decide) (by rw [c21]; decide) (off := 86) (by rw [c21]; rfl) rfl ?_
    refine go_aload_n (pc := 87) dX5_told_87 rfl rfl ?_
    refine go_getP (pc := 88) (a := 76) fX5_43 (by decide) (show TC 0 = (5 + 5, 13) from rfl) rfl dX5_told_88 ?_
    refine go_gI (pc := 91) (v := V 76 4) fX5_143 (by decide) (show TC 76 = (3 + 5, 5) from rfl) dX5_told_91 rfl ?_
    cases h
    exact go_iret (pc := 94) (Or.inl rfl) ⟨Nat.zero_le _, Nat.zero_le _⟩ dX5_told_94
  replace h := ifn h c21
  by_cases c22 : a1 = 6
  · replace h := ifp h c22
    refine go_tabIn (pc := 1) (tgt := 95) dX5_told_1 (by rw [c22]; decide) (by rw [c22]; decide) (off := 94) (by rw [c22]; rfl) rfl ?_
    refine go_aload_n (pc := 95) dX5_told_95 rfl rfl ?_
    refine go_getP (pc := 96) (a := 84) fX5_50 (by decide) (show TC 0 = (5 + 5, 13) from rfl) rfl dX5_told_96 ?_
    refine go_gI (pc := 99) (v := V 84 3) fX5_145 (by decide) (show TC 84 = (1 + 5, 4) from rfl) dX5_told_99 rfl ?_
    cases h
    exact go_iret (pc := 102) (Or.inl rfl) ⟨Nat.zero_le _, Nat.zero_le _⟩ dX5_told_102
  replace h := ifn h c22
  by_cases c23 : a1 = 10
  · replace h := ifp h c23
    refine go_tabIn (pc := 1) (tgt := 103) dX5_told_1 (by rw [c23]; decide) (by rw [c23]; decide) (off := 102) (by rw [c23]; rfl) rfl ?_
    refine go_aload_n (pc := 103) dX5_told_103 rfl rfl ?_
    refine go_iload_n (pc := 104) dX5_told_104 rfl rfl ?_
    refine go_bipush (pc := 105) (v := 10) dX5_told_105 cb_10 ?_
    refine go_isub (pc := 107) dX5_told_107 ?_
    obtain ⟨r24, e25, h⟩ := ok_bind h
    have hr26 : isK r24 := kindOf_isK e25
    refine go_cV (pc := 108) (ci := 5) (As := [.int (a1 - 10)]) (st := []) (E_X5_kindOf e25) rfl oX5_kindOf iX5_kindOf sX5_kindOf kX5_132 rfl (show TC 0 = (5 + 5, 13) from rfl) rfl (Nat.le_of_ble_eq_true rfl) ⟨Nat.le_of_ble_eq_true rfl, Nat.le_of_ble_eq_true rfl⟩ ⟨rfl, rfl⟩ dX5_told_108 (st2 := [.ref r24]) rfl ?_
    refine go_gI (pc := 111) (v := V r24 4) fX5_146 (by decide) (K_T hr26) dX5_told_111 rfl ?_
    cases h
    exact go_iret (pc := 114) (Or.inl rfl) ⟨Nat.zero_le _, Nat.zero_le _⟩ dX5_told_114
  replace h := ifn h c23
  by_cases c27 : a1 = 11
  · replace h := ifp h c27
    refine go_tabIn (pc := 1) (tgt := 103) dX5_told_1 (by rw [c27]; decide) (by rw [c27]; decide) (off := 102) (by rw [c27]; rfl) rfl ?_
    refine go_aload_n (pc := 103) dX5_told_103 rfl rfl ?_
    refine go_iload_n (pc := 104) dX5_told_104 rfl rfl ?_
    refine go_bipush (pc := 105) (v := 10) dX5_told_105 cb_10 ?_
    refine go_isub (pc := 107) dX5_told_107 ?_
    obtain ⟨r28, e29, h⟩ := ok_bind h
    have hr30 : isK r28 := kindOf_isK e29
    refine go_cV (pc := 108) (ci := 5) (As := [.int (a1 - 10)]) (st := []) (E_X5_kindOf e29) rfl oX5_kindOf iX5_kindOf sX5_kindOf kX5_132 rfl (show TC 0 = (5 + 5, 13) from rfl) rfl (Nat.le_of_ble_eq_true rfl) ⟨Nat.le_of_ble_eq_true rfl, Nat.le_of_ble_eq_true rfl⟩ ⟨rfl, rfl⟩ dX5_told_108 (st2 := [.ref r28]) rfl ?_
    refine go_gI (pc := 111) (v := V r28 4) fX5_146 (by decide) (K_T hr30) dX5_told_111 rfl ?_
    cases h
    exact go_iret (pc := 114) (Or.inl rfl) ⟨Nat.zero_le _, Nat.zero_le _⟩ dX5_told_114
  replace h := ifn h c27
  by_cases c31 : a1 = 12
  · replace h := ifp h c31
    refine go_tabIn (pc := 1) (tgt := 103) dX5_told_1 (by rw [c31]; decide) (by rw [c31]; decide) (off := 102) (by rw [c31]; rfl) rfl ?_
    refine go_aload_n (pc := 103) dX5_told_103 rfl rfl ?_
    refine go_iload_n (pc := 104) dX5_told_104 rfl rfl ?_
    refine go_bipush (pc := 105) (v := 10) dX5_told_105 cb_10 ?_
    refine go_isub (pc := 107) dX5_told_107 ?_
    obtain ⟨r32, e33, h⟩ := ok_bind h
    have hr34 : isK r32 := kindOf_isK e33
    refine go_cV (pc := 108) (ci := 5) (As := [.int (a1 - 10)]) (st := []) (E_X5_kindOf e33) rfl oX5_kindOf iX5_kindOf sX5_kindOf kX5_132 rfl (show TC 0 = (5 + 5, 13) from rfl) rfl (Nat.le_of_ble_eq_true rfl) ⟨Nat.le_of_ble_eq_true rfl, Nat.le_of_ble_eq_true rfl⟩ ⟨rfl, rfl⟩ dX5_told_108 (st2 := [.ref r32]) rfl ?_
    refine go_gI (pc := 111) (v := V r32 4) fX5_146 (by decide) (K_T hr34) dX5_told_111 rfl ?_
    cases h
    exact go_iret (pc := 114) (Or.inl rfl) ⟨Nat.zero_le _, Nat.zero_le _⟩ dX5_told_114
  replace h := ifn h c31
  by_cases c35 : a1 = 7
  · refine go_tabIn (pc := 1) (tgt := 115) dX5_told_1 (by rw [c35]; decide) (by rw [c35]; decide) (off := 114) (by rw [c35]; rfl) rfl ?_
    refine go_bipush (pc := 115) (v := (-2)) dX5_told_115 cb_m2 ?_
    cases h
    exact go_iret (pc := 117) (Or.inl rfl) ⟨Nat.zero_le _, Nat.zero_le _⟩ dX5_told_117
  by_cases c36 : a1 = 8
  · refine go_tabIn (pc := 1) (tgt := 115) dX5_told_1 (by rw [c36]; decide) (by rw [c36]; decide) (off := 114) (by rw [c36]; rfl) rfl ?_
    refine go_bipush (pc := 115) (v := (-2)) dX5_told_115 cb_m2 ?_
    cases h
    exact go_iret (pc := 117) (Or.inl rfl) ⟨Nat.zero_le _, Nat.zero_le _⟩ dX5_told_117
  by_cases c37 : a1 = 9
  · refine go_tabIn (pc := 1) (tgt := 115) dX5_told_1 (by rw [c37]; decide) (by rw [c37]; decide) (off := 114) (by rw [c37]; rfl) rfl ?_
    refine go_bipush (pc := 115) (v := (-2)) dX5_told_115 cb_m2 ?_
    cases h
    exact go_iret (pc := 117) (Or.inl rfl) ⟨Nat.zero_le _, Nat.zero_le _⟩ dX5_told_117
  have hh38 : (a1 : Int32).toInt < 0 ∨ 12 < (a1 : Int32).toInt := by
    have nc1 := nti (K := 0) c1 (by decide)
    have nc7 := nti (K := 1) c7 (by decide)
    have nc13 := nti (K := 2) c13 (by decide)
    have nc19 := nti (K := 3) c19 (by decide)
    have nc20 := nti (K := 4) c20 (by decide)
    have nc21 := nti (K := 5) c21 (by decide)
    have nc22 := nti (K := 6) c22 (by decide)
    have nc23 := nti (K := 10) c23 (by decide)
    have nc27 := nti (K := 11) c27 (by decide)
    have nc31 := nti (K := 12) c31 (by decide)
    have nc35 := nti (K := 7) c35 (by decide)
    have nc36 := nti (K := 8) c36 (by decide)
    have nc37 := nti (K := 9) c37 (by decide)
    omega
  refine go_tabOut (pc := 1) (tgt := 115) dX5_told_1 hh38 rfl ?_
  refine go_bipush (pc := 115) (v := (-2)) dX5_told_115 cb_m2 ?_
  cases h
  exact go_iret (pc := 117) (Or.inl rfl) ⟨Nat.zero_le _, Nat.zero_le _⟩ dX5_told_117
def eX5_box (a1 : Int32) (a2 : Int32) (V : Mm) : Option (Int32) :=
  (eX2_isThere 4 a1 V).bind fun r1 =>
  if r1 = 0 then
    some (-1)
  else
    if a2 = 0 then
      (eX2_value 4 a1 a2 V).bind fun r5 =>
      some r5
    else
    if a2 = 1 then
      (eX2_value 4 a1 a2 V).bind fun r8 =>
      some r8
    else
    if a2 = 2 then
      (eX2_value 4 a1 a2 V).bind fun r11 =>
      some r11
    else
    if a2 = 3 then
      (eX5_mailsIn a1 V).bind fun r14 =>
      some r14
    else
    if a2 = 4 then
      (eX2_howManyWith 4 1 a1 V).bind fun r17 =>
      some r17
    else
    if a2 = 5 then
      (eX5_depthOf a1 V).bind fun r20 =>
      some r20
    else
    some (-2)
set_option maxHeartbeats 4000000 in
set_option maxRecDepth 100000 in
theorem E_X5_box {a1 : Int32} {a2 : Int32} {V : Mm} {res : Int32}  (h : eX5_box a1 a2 V = some res) : Ev mX5_box [.ref 0, .int a1, .int a2] (hC V) (some (.int res)) (hC V) := by
  refine Ev.of (n := 0) oX5_box.1 (Nat.le_of_ble_eq_true rfl) ?_
  unfold eX5_box at h
  show Go mX5_box 0 [some (.ref 0), some (.int a1), some (.int a2)] [] (hC V) 0 0 (some (.int res)) (hC V)
  refine go_aload_n (pc := 0) dX5_box_0 rfl rfl ?_
  refine go_getP (pc := 1) (a := 4) fX5_30 (by decide) (show TC 0 = (5 + 5, 13) from rfl) rfl dX5_box_1 ?_
  refine go_iload_n (pc := 4) dX5_box_4 rfl rfl ?_
  obtain ⟨r1, e2, h⟩ := ok_bind h
  refine go_cV (pc := 5) (ci := 2) (As := [.int a1]) (st := []) (E_X2_isThere isK_4 e2) rfl oX2_isThere iX2_isThere sX2_isThere kX5_149 rfl (K_T isK_4) rfl (Nat.le_of_ble_eq_true rfl) ⟨Nat.le_of_ble_eq_true rfl, Nat.le_of_ble_eq_true rfl⟩ ⟨rfl, rfl⟩ dX5_box_5 (st2 := [.int r1]) rfl ?_
  refine go_if_ne (pc := 8) (tgt := 13) dX5_box_8 rfl (fun c3 => ?_) (fun c3 => ?_)
  · replace h := ifn h c3
    refine go_iload_n (pc := 13) dX5_box_13 rfl rfl ?_
    by_cases c4 : a2 = 0
    · replace h := ifp h c4
      refine go_tabIn (pc := 14) (tgt := 52) dX5_box_14 (by rw [c4]; decide) (by rw [c4]; decide) (off := 38) (by rw [c4]; rfl) rfl ?_
      refine go_aload_n (pc := 52) dX5_box_52 rfl rfl ?_
      refine go_getP (pc := 53) (a := 4) fX5_30 (by decide) (show TC 0 = (5 + 5, 13) from rfl) rfl dX5_box_53 ?_
      refine go_iload_n (pc := 56) dX5_box_56 rfl rfl ?_
      refine go_iload_n (pc := 57) dX5_box_57 rfl rfl ?_
      obtain ⟨r5, e6, h⟩ := ok_bind h
      refine go_cV (pc := 58) (ci := 2) (As := [.int a1, .int a2]) (st := []) (E_X2_value isK_4 e6) rfl oX2_value iX2_value sX2_value kX5_152 rfl (K_T isK_4) rfl (Nat.le_of_ble_eq_true rfl) ⟨Nat.le_of_ble_eq_true rfl, Nat.le_of_ble_eq_true rfl⟩ ⟨rfl, rfl⟩ dX5_box_58 (st2 := [.int r5]) rfl ?_
      cases h
      exact go_iret (pc := 61) (Or.inl rfl) ⟨Nat.zero_le _, Nat.zero_le _⟩ dX5_box_61
    replace h := ifn h c4
    by_cases c7 : a2 = 1
    · replace h := ifp h c7
      refine go_tabIn (pc := 14) (tgt := 52) dX5_box_14 (by rw [c7]; decide) (by rw [c7]; decide) (off := 38) (by rw [c7]; rfl) rfl ?_
      refine go_aload_n (pc := 52) dX5_box_52 rfl rfl ?_
      refine go_getP (pc := 53) (a := 4) fX5_30 (by decide) (show TC 0 = (5 + 5, 13) from rfl) rfl dX5_box_53 ?_
      refine go_iload_n (pc := 56) dX5_box_56 rfl rfl ?_
      refine go_iload_n (pc := 57) dX5_box_57 rfl rfl ?_
      obtain ⟨r8, e9, h⟩ := ok_bind h
      refine go_cV (pc := 58) (ci := 2) (As := [.int a1, .int a2]) (st := []) (E_X2_value isK_4 e9) rfl oX2_value iX2_value sX2_value kX5_152 rfl (K_T isK_4) rfl (Nat.le_of_ble_eq_true rfl) ⟨Nat.le_of_ble_eq_true rfl, Nat.le_of_ble_eq_true rfl⟩ ⟨rfl, rfl⟩ dX5_box_58 (st2 := [.int r8]) rfl ?_
      cases h
      exact go_iret (pc := 61) (Or.inl rfl) ⟨Nat.zero_le _, Nat.zero_le _⟩ dX5_box_61
    replace h := ifn h c7
    by_cases c10 : a2 = 2
    · replace h := ifp h c10
      refine go_tabIn (pc := 14) (tgt := 52) dX5_box_14 (by rw [c10]; decide) (by rw [c10]; decide) (off := 38) (by rw [c10]; rfl) rfl ?_
      refine go_aload_n (pc := 52) dX5_box_52 rfl rfl ?_
      refine go_getP (pc := 53) (a := 4) fX5_30 (by decide) (show TC 0 = (5 + 5, 13) from rfl) rfl dX5_box_53 ?_
      refine go_iload_n (pc := 56) dX5_box_56 rfl rfl ?_
      refine go_iload_n (pc := 57) dX5_box_57 rfl rfl ?_
      obtain ⟨r11, e12, h⟩ := ok_bind h
      refine go_cV (pc := 58) (ci := 2) (As := [.int a1, .int a2]) (st := []) (E_X2_value isK_4 e12) rfl oX2_value iX2_value sX2_value kX5_152 rfl (K_T isK_4) rfl (Nat.le_of_ble_eq_true rfl) ⟨Nat.le_of_ble_eq_true rfl, Nat.le_of_ble_eq_true rfl⟩ ⟨rfl, rfl⟩ dX5_box_58 (st2 := [.int r11]) rfl ?_
      cases h
      exact go_iret (pc := 61) (Or.inl rfl) ⟨Nat.zero_le _, Nat.zero_le _⟩ dX5_box_61
    replace h := ifn h c10
    by_cases c13 : a2 = 3
    · replace h := ifp h c13
      refine go_tabIn (pc := 14) (tgt := 62) dX5_box_14 (by rw [c13]; decide) (by rw [c13]; decide) (off := 48) (by rw [c13]; rfl) rfl ?_
      refine go_aload_n (pc := 62) dX5_box_62 rfl rfl ?_
      refine go_iload_n (pc := 63) dX5_box_63 rfl rfl ?_
      obtain ⟨r14, e15, h⟩ := ok_bind h
      refine go_cV (pc := 64) (ci := 5) (As := [.int a1]) (st := []) (E_X5_mailsIn e15) rfl oX5_mailsIn iX5_mailsIn sX5_mailsIn kX5_155 rfl (show TC 0 = (5 + 5, 13) from rfl) rfl (Nat.le_of_ble_eq_true rfl) ⟨Nat.le_of_ble_eq_true rfl, Nat.le_of_ble_eq_true rfl⟩ ⟨rfl, rfl⟩ dX5_box_64 (st2 := [.int r14]) rfl ?_
      cases h
      exact go_iret (pc := 67) (Or.inl rfl) ⟨Nat.zero_le _, Nat.zero_le _⟩ dX5_box_67
    replace h := ifn h c13
    by_cases c16 : a2 = 4
    · replace h := ifp h c16
      refine go_tabIn (pc := 14) (tgt := 68) dX5_box_14 (by rw [c16]; decide) (by rw [c16]; decide) (off := 54) (by rw [c16]; rfl) rfl ?_
      refine go_aload_n (pc := 68) dX5_box_68 rfl rfl ?_
      refine go_getP (pc := 69) (a := 4) fX5_30 (by decide) (show TC 0 = (5 + 5, 13) from rfl) rfl dX5_box_69 ?_
      refine go_iconst (pc := 72) (v := 1) dX5_box_72 ci_1 ?_
      refine go_iload_n (pc := 73) dX5_box_73 rfl rfl ?_
      obtain ⟨r17, e18, h⟩ := ok_bind h
      refine go_cV (pc := 74) (ci := 2) (As := [.int 1, .int a1]) (st := []) (E_X2_howManyWith isK_4 e18) rfl oX2_howManyWith iX2_howManyWith sX2_howManyWith kX5_158 rfl (K_T isK_4) rfl (Nat.le_of_ble_eq_true rfl) ⟨Nat.le_of_ble_eq_true rfl, Nat.le_of_ble_eq_true rfl⟩ ⟨rfl, rfl⟩ dX5_box_74 (st2 := [.int r17]) rfl ?_
      cases h
      exact go_iret (pc := 77) (Or.inl rfl) ⟨Nat.zero_le _, Nat.zero_le _⟩ dX5_box_77
    replace h := ifn h c16
    by_cases c19 : a2 = 5
    · replace h := ifp h c19
      refine go_tabIn (pc := 14) (tgt := 78) dX5_box_14 (by rw [c19]; decide) (by rw [c19]; decide) (off := 64) (by rw [c19]; rfl) rfl ?_
      refine go_aload_n (pc := 78) dX5_box_78 rfl rfl ?_
      refine go_iload_n (pc := 79) dX5_box_79 rfl rfl ?_
      obtain ⟨r20, e21, h⟩ := ok_bind h
      refine go_cV (pc := 80) (ci := 5) (As := [.int a1]) (st := []) (E_X5_depthOf e21) rfl oX5_depthOf iX5_depthOf sX5_depthOf kX5_161 rfl (show TC 0 = (5 + 5, 13) from rfl) rfl (Nat.le_of_ble_eq_true rfl) ⟨Nat.le_of_ble_eq_true rfl, Nat.le_of_ble_eq_true rfl⟩ ⟨rfl, rfl⟩ dX5_box_80 (st2 := [.int r20]) rfl ?_
      cases h
      exact go_iret (pc := 83) (Or.inl rfl) ⟨Nat.zero_le _, Nat.zero_le _⟩ dX5_box_83
    replace h := ifn h c19
    have hh22 : (a2 : Int32).toInt < 0 ∨ 5 < (a2 : Int32).toInt := by
      have nc4 := nti (K := 0) c4 (by decide)
      have nc7 := nti (K := 1) c7 (by decide)
      have nc10 := nti (K := 2) c10 (by decide)
      have nc13 := nti (K := 3) c13 (by decide)
      have nc16 := nti (K := 4) c16 (by decide)
      have nc19 := nti (K := 5) c19 (by decide)
      omega
    refine go_tabOut (pc := 14) (tgt := 84) dX5_box_14 hh22 rfl ?_
    refine go_bipush (pc := 84) (v := (-2)) dX5_box_84 cb_m2 ?_
    cases h
    exact go_iret (pc := 86) (Or.inl rfl) ⟨Nat.zero_le _, Nat.zero_le _⟩ dX5_box_86
  · replace h := ifp h c3
    refine go_iconst (pc := 11) (v := (-1)) dX5_box_11 ci_m1 ?_
    cases h
    exact go_iret (pc := 12) (Or.inl rfl) ⟨Nat.zero_le _, Nat.zero_le _⟩ dX5_box_12
def eJ6_bitCount_0f7a4 (a0 : Int32) : Option (Int32) :=
  some ((((((((a0 - ((((a0 : Int32).toUInt32 >>> ((1 : Int32).toUInt32 &&& Int32.toUInt32 31)).toInt32) &&& 1431655765)) &&& 858993459) + (((((a0 - ((((a0 : Int32).toUInt32 >>> ((1 : Int32).toUInt32 &&& Int32.toUInt32 31)).toInt32) &&& 1431655765)) : Int32).toUInt32 >>> ((2 : Int32).toUInt32 &&& Int32.toUInt32 31)).toInt32) &&& 858993459)) + ((((((a0 - ((((a0 : Int32).toUInt32 >>> ((1 : Int32).toUInt32 &&& Int32.toUInt32 31)).toInt32) &&& 1431655765)) &&& 858993459) + (((((a0 - ((((a0 : Int32).toUInt32 >>> ((1 : Int32).toUInt32 &&& Int32.toUInt32 31)).toInt32) &&& 1431655765)) : Int32).toUInt32 >>> ((2 : Int32).toUInt32 &&& Int32.toUInt32 31)).toInt32) &&& 858993459)) : Int32).toUInt32 >>> ((4 : Int32).toUInt32 &&& Int32.toUInt32 31)).toInt32)) &&& 252645135) + ((((((((a0 - ((((a0 : Int32).toUInt32 >>> ((1 : Int32).toUInt32 &&& Int32.toUInt32 31)).toInt32) &&& 1431655765)) &&& 858993459) + (((((a0 - ((((a0 : Int32).toUInt32 >>> ((1 : Int32).toUInt32 &&& Int32.toUInt32 31)).toInt32) &&& 1431655765)) : Int32).toUInt32 >>> ((2 : Int32).toUInt32 &&& Int32.toUInt32 31)).toInt32) &&& 858993459)) + ((((((a0 - ((((a0 : Int32).toUInt32 >>> ((1 : Int32).toUInt32 &&& Int32.toUInt32 31)).toInt32) &&& 1431655765)) &&& 858993459) + (((((a0 - ((((a0 : Int32).toUInt32 >>> ((1 : Int32).toUInt32 &&& Int32.toUInt32 31)).toInt32) &&& 1431655765)) : Int32).toUInt32 >>> ((2 : Int32).toUInt32 &&& Int32.toUInt32 31)).toInt32) &&& 858993459)) : Int32).toUInt32 >>> ((4 : Int32).toUInt32 &&& Int32.toUInt32 31)).toInt32)) &&& 252645135) : Int32).toUInt32 >>> ((8 : Int32).toUInt32 &&& Int32.toUInt32 31)).toInt32)) + (((((((((a0 - ((((a0 : Int32).toUInt32 >>> ((1 : Int32).toUInt32 &&& Int32.toUInt32 31)).toInt32) &&& 1431655765)) &&& 858993459) + (((((a0 - ((((a0 : Int32).toUInt32 >>> ((1 : Int32).toUInt32 &&& Int32.toUInt32 31)).toInt32) &&& 1431655765)) : Int32).toUInt32 >>> ((2 : Int32).toUInt32 &&& Int32.toUInt32 31)).toInt32) &&& 858993459)) + ((((((a0 - ((((a0 : Int32).toUInt32 >>> ((1 : Int32).toUInt32 &&& Int32.toUInt32 31)).toInt32) &&& 1431655765)) &&& 858993459) + (((((a0 - ((((a0 : Int32).toUInt32 >>> ((1 : Int32).toUInt32 &&& Int32.toUInt32 31)).toInt32) &&& 1431655765)) : Int32).toUInt32 >>> ((2 : Int32).toUInt32 &&& Int32.toUInt32 31)).toInt32) &&& 858993459)) : Int32).toUInt32 >>> ((4 : Int32).toUInt32 &&& Int32.toUInt32 31)).toInt32)) &&& 252645135) + ((((((((a0 - ((((a0 : Int32).toUInt32 >>> ((1 : Int32).toUInt32 &&& Int32.toUInt32 31)).toInt32) &&& 1431655765)) &&& 858993459) + (((((a0 - ((((a0 : Int32).toUInt32 >>> ((1 : Int32).toUInt32 &&& Int32.toUInt32 31)).toInt32) &&& 1431655765)) : Int32).toUInt32 >>> ((2 : Int32).toUInt32 &&& Int32.toUInt32 31)).toInt32) &&& 858993459)) + ((((((a0 - ((((a0 : Int32).toUInt32 >>> ((1 : Int32).toUInt32 &&& Int32.toUInt32 31)).toInt32) &&& 1431655765)) &&& 858993459) + (((((a0 - ((((a0 : Int32).toUInt32 >>> ((1 : Int32).toUInt32 &&& Int32.toUInt32 31)).toInt32) &&& 1431655765)) : Int32).toUInt32 >>> ((2 : Int32).toUInt32 &&& Int32.toUInt32 31)).toInt32) &&& 858993459)) : Int32).toUInt32 >>> ((4 : Int32).toUInt32 &&& Int32.toUInt32 31)).toInt32)) &&& 252645135) : Int32).toUInt32 >>> ((8 : Int32).toUInt32 &&& Int32.toUInt32 31)).toInt32)) : Int32).toUInt32 >>> ((16 : Int32).toUInt32 &&& Int32.toUInt32 31)).toInt32)) &&& 63)
set_option maxHeartbeats 4000000 in
set_option maxRecDepth 100000 in
theorem E_J6_bitCount_0f7a4 {a0 : Int32} {V : Mm} {res : Int32}  (h : eJ6_bitCount_0f7a4 a0 = some res) : Ev mJ6_bitCount_0f7a4 [.int a0] (hC V) (some (.int res)) (hC V) := by
  refine Ev.of (n := 0) oJ6_bitCount_0f7a4.1 (Nat.le_of_ble_eq_true rfl) ?_
  unfold eJ6_bitCount_0f7a4 at h
  show Go mJ6_bitCount_0f7a4 0 [some (.int a0)] [] (hC V) 0 0 (some (.int res)) (hC V)
  refine go_iload_n (pc := 0) dJ6_bitCount_0f7a4_0 rfl rfl ?_
  refine go_iload_n (pc := 1) dJ6_bitCount_0f7a4_1 rfl rfl ?_
  refine go_iconst (pc := 2) (v := 1) dJ6_bitCount_0f7a4_2 ci_1 ?_
  refine go_iushr (pc := 3) dJ6_bitCount_0f7a4_3 ?_
  refine go_ldcw (pc := 4) rfl wCo_265 dJ6_bitCount_0f7a4_4 ?_
  refine go_iand (pc := 7) dJ6_bitCount_0f7a4_7 ?_
  refine go_isub (pc := 8) dJ6_bitCount_0f7a4_8 ?_
  refine go_istore_n (pc := 9) (i := 0) dJ6_bitCount_0f7a4_9 rfl (Nat.le_of_ble_eq_true rfl) (L2 := [some (.int (a0 - ((((a0 : Int32).toUInt32 >>> ((1 : Int32).toUInt32 &&& Int32.toUInt32 31)).toInt32) &&& 1431655765)))]) rfl ?_
  refine go_iload_n (pc := 10) dJ6_bitCount_0f7a4_10 rfl rfl ?_
  refine go_ldcw (pc := 11) rfl wCo_266 dJ6_bitCount_0f7a4_11 ?_
  refine go_iand (pc := 14) dJ6_bitCount_0f7a4_14 ?_
  refine go_iload_n (pc := 15) dJ6_bitCount_0f7a4_15 rfl rfl ?_
  refine go_iconst (pc := 16) (v := 2) dJ6_bitCount_0f7a4_16 ci_2 ?_
  refine go_iushr (pc := 17) dJ6_bitCount_0f7a4_17 ?_
  refine go_ldcw (pc := 18) rfl wCo_266 dJ6_bitCount_0f7a4_18 ?_
  refine go_iand (pc := 21) dJ6_bitCount_0f7a4_21 ?_
  refine go_iadd (pc := 22) dJ6_bitCount_0f7a4_22 ?_
  refine go_istore_n (pc := 23) (i := 0) dJ6_bitCount_0f7a4_23 rfl (Nat.le_of_ble_eq_true rfl) (L2 := [some (.int (((a0 - ((((a0 : Int32).toUInt32 >>> ((1 : Int32).toUInt32 &&& Int32.toUInt32 31)).toInt32) &&& 1431655765)) &&& 858993459) + (((((a0 - ((((a0 : Int32).toUInt32 >>> ((1 : Int32).toUInt32 &&& Int32.toUInt32 31)).toInt32) &&& 1431655765)) : Int32).toUInt32 >>> ((2 : Int32).toUInt32 &&& Int32.toUInt32 31)).toInt32) &&& 858993459)))]) rfl ?_
  refine go_iload_n (pc := 24) dJ6_bitCount_0f7a4_24 rfl rfl ?_
  refine go_iload_n (pc := 25) dJ6_bitCount_0f7a4_25 rfl rfl ?_
  refine go_iconst (pc := 26) (v := 4) dJ6_bitCount_0f7a4_26 ci_4 ?_
  refine go_iushr (pc := 27) dJ6_bitCount_0f7a4_27 ?_
  refine go_iadd (pc := 28) dJ6_bitCount_0f7a4_28 ?_
  refine go_ldcw (pc := 29) rfl wCo_267 dJ6_bitCount_0f7a4_29 ?_
  refine go_iand (pc := 32) dJ6_bitCount_0f7a4_32 ?_
  refine go_istore_n (pc := 33) (i := 0) dJ6_bitCount_0f7a4_33 rfl (Nat.le_of_ble_eq_true rfl) (L2 := [some (.int (((((a0 - ((((a0 : Int32).toUInt32 >>> ((1 : Int32).toUInt32 &&& Int32.toUInt32 31)).toInt32) &&& 1431655765)) &&& 858993459) + (((((a0 - ((((a0 : Int32).toUInt32 >>> ((1 : Int32).toUInt32 &&& Int32.toUInt32 31)).toInt32) &&& 1431655765)) : Int32).toUInt32 >>> ((2 : Int32).toUInt32 &&& Int32.toUInt32 31)).toInt32) &&& 858993459)) + ((((((a0 - ((((a0 : Int32).toUInt32 >>> ((1 : Int32).toUInt32 &&& Int32.toUInt32 31)).toInt32) &&& 1431655765)) &&& 858993459) + (((((a0 - ((((a0 : Int32).toUInt32 >>> ((1 : Int32).toUInt32 &&& Int32.toUInt32 31)).toInt32) &&& 1431655765)) : Int32).toUInt32 >>> ((2 : Int32).toUInt32 &&& Int32.toUInt32 31)).toInt32) &&& 858993459)) : Int32).toUInt32 >>> ((4 : Int32).toUInt32 &&& Int32.toUInt32 31)).toInt32)) &&& 252645135))]) rfl ?_
  refine go_iload_n (pc := 34) dJ6_bitCount_0f7a4_34 rfl rfl ?_
  refine go_iload_n (pc := 35) dJ6_bitCount_0f7a4_35 rfl rfl ?_
  refine go_bipush (pc := 36) (v := 8) dJ6_bitCount_0f7a4_36 cb_8 ?_
  refine go_iushr (pc := 38) dJ6_bitCount_0f7a4_38 ?_
  refine go_iadd (pc := 39) dJ6_bitCount_0f7a4_39 ?_
  refine go_istore_n (pc := 40) (i := 0) dJ6_bitCount_0f7a4_40 rfl (Nat.le_of_ble_eq_true rfl) (L2 := [some (.int ((((((a0 - ((((a0 : Int32).toUInt32 >>> ((1 : Int32).toUInt32 &&& Int32.toUInt32 31)).toInt32) &&& 1431655765)) &&& 858993459) + (((((a0 - ((((a0 : Int32).toUInt32 >>> ((1 : Int32).toUInt32 &&& Int32.toUInt32 31)).toInt32) &&& 1431655765)) : Int32).toUInt32 >>> ((2 : Int32).toUInt32 &&& Int32.toUInt32 31)).toInt32) &&& 858993459)) + ((((((a0 - ((((a0 : Int32).toUInt32 >>> ((1 : Int32).toUInt32 &&& Int32.toUInt32 31)).toInt32) &&& 1431655765)) &&& 858993459) + (((((a0 - ((((a0 : Int32).toUInt32 >>> ((1 : Int32).toUInt32 &&& Int32.toUInt32 31)).toInt32) &&& 1431655765)) : Int32).toUInt32 >>> ((2 : Int32).toUInt32 &&& Int32.toUInt32 31)).toInt32) &&& 858993459)) : Int32).toUInt32 >>> ((4 : Int32).toUInt32 &&& Int32.toUInt32 31)).toInt32)) &&& 252645135) + ((((((((a0 - ((((a0 : Int32).toUInt32 >>> ((1 : Int32).toUInt32 &&& Int32.toUInt32 31)).toInt32) &&& 1431655765)) &&& 858993459) + (((((a0 - ((((a0 : Int32).toUInt32 >>> ((1 : Int32).toUInt32 &&& Int32.toUInt32 31)).toInt32) &&& 1431655765)) : Int32).toUInt32 >>> ((2 : Int32).toUInt32 &&& Int32.toUInt32 31)).toInt32) &&& 858993459)) + ((((((a0 - ((((a0 : Int32).toUInt32 >>> ((1 : Int32).toUInt32 &&& Int32.toUInt32 31)).toInt32) &&& 1431655765)) &&& 858993459) + (((((a0 - ((((a0 : Int32).toUInt32 >>> ((1 : Int32).toUInt32 &&& Int32.toUInt32 31)).toInt32) &&& 1431655765)) : Int32).toUInt32 >>> ((2 : Int32).toUInt32 &&& Int32.toUInt32 31)).toInt32) &&& 858993459)) : Int32).toUInt32 >>> ((4 : Int32).toUInt32 &&& Int32.toUInt32 31)).toInt32)) &&& 252645135) : Int32).toUInt32 >>> ((8 : Int32).toUInt32 &&& Int32.toUInt32 31)).toInt32)))]) rfl ?_
  refine go_iload_n (pc := 41) dJ6_bitCount_0f7a4_41 rfl rfl ?_
  refine go_iload_n (pc := 42) dJ6_bitCount_0f7a4_42 rfl rfl ?_
  refine go_bipush (pc := 43) (v := 16) dJ6_bitCount_0f7a4_43 cb_16 ?_
  refine go_iushr (pc := 45) dJ6_bitCount_0f7a4_45 ?_
  refine go_iadd (pc := 46) dJ6_bitCount_0f7a4_46 ?_
  refine go_istore_n (pc := 47) (i := 0) dJ6_bitCount_0f7a4_47 rfl (Nat.le_of_ble_eq_true rfl) (L2 := [some (.int (((((((a0 - ((((a0 : Int32).toUInt32 >>> ((1 : Int32).toUInt32 &&& Int32.toUInt32 31)).toInt32) &&& 1431655765)) &&& 858993459) + (((((a0 - ((((a0 : Int32).toUInt32 >>> ((1 : Int32).toUInt32 &&& Int32.toUInt32 31)).toInt32) &&& 1431655765)) : Int32).toUInt32 >>> ((2 : Int32).toUInt32 &&& Int32.toUInt32 31)).toInt32) &&& 858993459)) + ((((((a0 - ((((a0 : Int32).toUInt32 >>> ((1 : Int32).toUInt32 &&& Int32.toUInt32 31)).toInt32) &&& 1431655765)) &&& 858993459) + (((((a0 - ((((a0 : Int32).toUInt32 >>> ((1 : Int32).toUInt32 &&& Int32.toUInt32 31)).toInt32) &&& 1431655765)) : Int32).toUInt32 >>> ((2 : Int32).toUInt32 &&& Int32.toUInt32 31)).toInt32) &&& 858993459)) : Int32).toUInt32 >>> ((4 : Int32).toUInt32 &&& Int32.toUInt32 31)).toInt32)) &&& 252645135) + ((((((((a0 - ((((a0 : Int32).toUInt32 >>> ((1 : Int32).toUInt32 &&& Int32.toUInt32 31)).toInt32) &&& 1431655765)) &&& 858993459) + (((((a0 - ((((a0 : Int32).toUInt32 >>> ((1 : Int32).toUInt32 &&& Int32.toUInt32 31)).toInt32) &&& 1431655765)) : Int32).toUInt32 >>> ((2 : Int32).toUInt32 &&& Int32.toUInt32 31)).toInt32) &&& 858993459)) + ((((((a0 - ((((a0 : Int32).toUInt32 >>> ((1 : Int32).toUInt32 &&& Int32.toUInt32 31)).toInt32) &&& 1431655765)) &&& 858993459) + (((((a0 - ((((a0 : Int32).toUInt32 >>> ((1 : Int32).toUInt32 &&& Int32.toUInt32 31)).toInt32) &&& 1431655765)) : Int32).toUInt32 >>> ((2 : Int32).toUInt32 &&& Int32.toUInt32 31)).toInt32) &&& 858993459)) : Int32).toUInt32 >>> ((4 : Int32).toUInt32 &&& Int32.toUInt32 31)).toInt32)) &&& 252645135) : Int32).toUInt32 >>> ((8 : Int32).toUInt32 &&& Int32.toUInt32 31)).toInt32)) + (((((((((a0 - ((((a0 : Int32).toUInt32 >>> ((1 : Int32).toUInt32 &&& Int32.toUInt32 31)).toInt32) &&& 1431655765)) &&& 858993459) + (((((a0 - ((((a0 : Int32).toUInt32 >>> ((1 : Int32).toUInt32 &&& Int32.toUInt32 31)).toInt32) &&& 1431655765)) : Int32).toUInt32 >>> ((2 : Int32).toUInt32 &&& Int32.toUInt32 31)).toInt32) &&& 858993459)) + ((((((a0 - ((((a0 : Int32).toUInt32 >>> ((1 : Int32).toUInt32 &&& Int32.toUInt32 31)).toInt32) &&& 1431655765)) &&& 858993459) + (((((a0 - ((((a0 : Int32).toUInt32 >>> ((1 : Int32).toUInt32 &&& Int32.toUInt32 31)).toInt32) &&& 1431655765)) : Int32).toUInt32 >>> ((2 : Int32).toUInt32 &&& Int32.toUInt32 31)).toInt32) &&& 858993459)) : Int32).toUInt32 >>> ((4 : Int32).toUInt32 &&& Int32.toUInt32 31)).toInt32)) &&& 252645135) + ((((((((a0 - ((((a0 : Int32).toUInt32 >>> ((1 : Int32).toUInt32 &&& Int32.toUInt32 31)).toInt32) &&& 1431655765)) &&& 858993459) + (((((a0 - ((((a0 : Int32).toUInt32 >>> ((1 : Int32).toUInt32 &&& Int32.toUInt32 31)).toInt32) &&& 1431655765)) : Int32).toUInt32 >>> ((2 : Int32).toUInt32 &&& Int32.toUInt32 31)).toInt32) &&& 858993459)) + ((((((a0 - ((((a0 : Int32).toUInt32 >>> ((1 : Int32).toUInt32 &&& Int32.toUInt32 31)).toInt32) &&& 1431655765)) &&& 858993459) + (((((a0 - ((((a0 : Int32).toUInt32 >>> ((1 : Int32).toUInt32 &&& Int32.toUInt32 31)).toInt32) &&& 1431655765)) : Int32).toUInt32 >>> ((2 : Int32).toUInt32 &&& Int32.toUInt32 31)).toInt32) &&& 858993459)) : Int32).toUInt32 >>> ((4 : Int32).toUInt32 &&& Int32.toUInt32 31)).toInt32)) &&& 252645135) : Int32).toUInt32 >>> ((8 : Int32).toUInt32 &&& Int32.toUInt32 31)).toInt32)) : Int32).toUInt32 >>> ((16 : Int32).toUInt32 &&& Int32.toUInt32 31)).toInt32)))]) rfl ?_
  refine go_iload_n (pc := 48) dJ6_bitCount_0f7a4_48 rfl rfl ?_
  refine go_bipush (pc := 49) (v := 63) dJ6_bitCount_0f7a4_49 cb_63 ?_
  refine go_iand (pc := 51) dJ6_bitCount_0f7a4_51 ?_
  cases h
  exact go_iret (pc := 52) (Or.inl rfl) ⟨Nat.zero_le _, Nat.zero_le _⟩ dJ6_bitCount_0f7a4_52
def eX5_mail_b33 (l1 : Int32) (l2 : Int32) (V : Mm) : Option (Int32) :=
  if l2 = 8 then
    (eX2_value 28 l1 8 V).bind fun r13 =>
    (eJ6_bitCount_0f7a4 r13).bind fun r15 =>
    some r15
  else
    if l2 < 20 then
      some (-2)
    else
      (eX2_isThere 4 (l2 - 20) V).bind fun r7 =>
      if r7 = 0 then
        some (-2)
      else
        (eX5_isIn l1 (l2 - 20) V).bind fun r10 =>
        if r10 = 0 then
          some 0
        else
          some 1
set_option maxHeartbeats 4000000 in
set_option maxRecDepth 100000 in
theorem gX5_mail_b33 {l1 : Int32} {l2 : Int32} {V : Mm} {res : Int32}  (h : eX5_mail_b33 l1 l2 V = some res) : Go mX5_mail 33 [some (.ref 0), some (.int l1), some (.int l2)] [] (hC V) 0 0 (some (.int res)) (hC V) := by
  unfold eX5_mail_b33 at h
  refine go_iload_n (pc := 33) dX5_mail_33 rfl rfl ?_
  refine go_bipush (pc := 34) (v := 8) dX5_mail_34 cb_8 ?_
  refine go_icmp_ne (pc := 36) (tgt := 53) dX5_mail_36 rfl (fun c5 => ?_) (fun c5 => ?_)
  · replace h := ifn h c5
    refine go_iload_n (pc := 53) dX5_mail_53 rfl rfl ?_
    refine go_bipush (pc := 54) (v := 20) dX5_mail_54 cb_20 ?_
    refine go_icmp_lt (pc := 56) (tgt := 91) dX5_mail_56 rfl (fun c6 => ?_) (fun c6 => ?_)
    · replace h := ifp h c6
      refine go_bipush (pc := 91) (v := (-2)) dX5_mail_91 cb_m2 ?_
      cases h
      exact go_iret (pc := 93) (Or.inl rfl) ⟨Nat.zero_le _, Nat.zero_le _⟩ dX5_mail_93
    · replace h := ifn h c6
      refine go_aload_n (pc := 59) dX5_mail_59 rfl rfl ?_
      refine go_getP (pc := 60) (a := 4) fX5_30 (by decide) (show TC 0 = (5 + 5, 13) from rfl) rfl dX5_mail_60 ?_
      refine go_iload_n (pc := 63) dX5_mail_63 rfl rfl ?_
      refine go_bipush (pc := 64) (v := 20) dX5_mail_64 cb_20 ?_
      refine go_isub (pc := 66) dX5_mail_66 ?_
      obtain ⟨r7, e8, h⟩ := ok_bind h
      refine go_cV (pc := 67) (ci := 2) (As := [.int (l2 - 20)]) (st := []) (E_X2_isThere isK_4 e8) rfl oX2_isThere iX2_isThere sX2_isThere kX5_149 rfl (K_T isK_4) rfl (Nat.le_of_ble_eq_true rfl) ⟨Nat.le_of_ble_eq_true rfl, Nat.le_of_ble_eq_true rfl⟩ ⟨rfl, rfl⟩ dX5_mail_67 (st2 := [.int r7]) rfl ?_
      refine go_if_eq (pc := 70) (tgt := 91) dX5_mail_70 rfl (fun c9 => ?_) (fun c9 => ?_)
      · replace h := ifp h c9
        refine go_bipush (pc := 91) (v := (-2)) dX5_mail_91 cb_m2 ?_
        cases h
        exact go_iret (pc := 93) (Or.inl rfl) ⟨Nat.zero_le _, Nat.zero_le _⟩ dX5_mail_93
      · replace h := ifn h c9
        refine go_aload_n (pc := 73) dX5_mail_73 rfl rfl ?_
        refine go_iload_n (pc := 74) dX5_mail_74 rfl rfl ?_
        refine go_iload_n (pc := 75) dX5_mail_75 rfl rfl ?_
        refine go_bipush (pc := 76) (v := 20) dX5_mail_76 cb_20 ?_
        refine go_isub (pc := 78) dX5_mail_78 ?_
        obtain ⟨r10, e11, h⟩ := ok_bind h
        refine go_cV (pc := 79) (ci := 5) (As := [.int l1, .int (l2 - 20)]) (st := []) (E_X5_isIn e11) rfl oX5_isIn iX5_isIn sX5_isIn kX5_169 rfl (show TC 0 = (5 + 5, 13) from rfl) rfl (Nat.le_of_ble_eq_true rfl) ⟨Nat.le_of_ble_eq_true rfl, Nat.le_of_ble_eq_true rfl⟩ ⟨rfl, rfl⟩ dX5_mail_79 (st2 := [.int r10]) rfl ?_
        refine go_if_eq (pc := 82) (tgt := 89) dX5_mail_82 rfl (fun c12 => ?_) (fun c12 => ?_)
        · replace h := ifp h c12
          refine go_iconst (pc := 89) (v := 0) dX5_mail_89 ci_0 ?_
          cases h
          exact go_iret (pc := 90) (Or.inl rfl) ⟨Nat.zero_le _, Nat.zero_le _⟩ dX5_mail_90
        · replace h := ifn h c12
          refine go_iconst (pc := 85) (v := 1) dX5_mail_85 ci_1 ?_
          refine go_goto (pc := 86) (tgt := 90) dX5_mail_86 rfl ?_
          cases h
          exact go_iret (pc := 90) (Or.inl rfl) ⟨Nat.zero_le _, Nat.zero_le _⟩ dX5_mail_90
  · replace h := ifp h c5
    refine go_aload_n (pc := 39) dX5_mail_39 rfl rfl ?_
    refine go_getP (pc := 40) (a := 28) fX5_34 (by decide) (show TC 0 = (5 + 5, 13) from rfl) rfl dX5_mail_40 ?_
    refine go_iload_n (pc := 43) dX5_mail_43 rfl rfl ?_
    refine go_bipush (pc := 44) (v := 8) dX5_mail_44 cb_8 ?_
    obtain ⟨r13, e14, h⟩ := ok_bind h
    refine go_cV (pc := 46) (ci := 2) (As := [.int l1, .int 8]) (st := []) (E_X2_value isK_28 e14) rfl oX2_value iX2_value sX2_value kX5_152 rfl (K_T isK_28) rfl (Nat.le_of_ble_eq_true rfl) ⟨Nat.le_of_ble_eq_true rfl, Nat.le_of_ble_eq_true rfl⟩ ⟨rfl, rfl⟩ dX5_mail_46 (st2 := [.int r13]) rfl ?_
    obtain ⟨r15, e16, h⟩ := ok_bind h
    refine go_cS (pc := 49) (As := [.int r13]) (st := []) (E_J6_bitCount_0f7a4 e16) rfl oJ6_bitCount_0f7a4 iJ6_bitCount_0f7a4 kX5_164 rfl (Nat.le_of_ble_eq_true rfl) ⟨Nat.le_of_ble_eq_true rfl, Nat.le_of_ble_eq_true rfl⟩ ⟨rfl, rfl⟩ dX5_mail_49 (st2 := [.int r15]) rfl ?_
    cases h
    exact go_iret (pc := 52) (Or.inl rfl) ⟨Nat.zero_le _, Nat.zero_le _⟩ dX5_mail_52
def eX5_mail (a1 : Int32) (a2 : Int32) (V : Mm) : Option (Int32) :=
  (eX2_isThere 28 a1 V).bind fun r1 =>
  if r1 = 0 then
    some (-1)
  else
    if a2 < 0 then
      eX5_mail_b33 a1 a2 V
    else
      if 7 < a2 then
        eX5_mail_b33 a1 a2 V
      else
        (eX2_value 28 a1 a2 V).bind fun r18 =>
        some r18
set_option maxHeartbeats 4000000 in
set_option maxRecDepth 100000 in
theorem E_X5_mail {a1 : Int32} {a2 : Int32} {V : Mm} {res : Int32}  (h : eX5_mail a1 a2 V = some res) : Ev mX5_mail [.ref 0, .int a1, .int a2] (hC V) (some (.int res)) (hC V) := by
  refine Ev.of (n := 0) oX5_mail.1 (Nat.le_of_ble_eq_true rfl) ?_
  unfold eX5_mail at h
  show Go mX5_mail 0 [some (.ref 0), some (.int a1), some (.int a2)] [] (hC V) 0 0 (some (.int res)) (hC V)
  refine go_aload_n (pc := 0) dX5_mail_0 rfl rfl ?_
  refine go_getP (pc := 1) (a := 28) fX5_34 (by decide) (show TC 0 = (5 + 5, 13) from rfl) rfl dX5_mail_1 ?_
  refine go_iload_n (pc := 4) dX5_mail_4 rfl rfl ?_
  obtain ⟨r1, e2, h⟩ := ok_bind h
  refine go_cV (pc := 5) (ci := 2) (As := [.int a1]) (st := []) (E_X2_isThere isK_28 e2) rfl oX2_isThere iX2_isThere sX2_isThere kX5_149 rfl (K_T isK_28) rfl (Nat.le_of_ble_eq_true rfl) ⟨Nat.le_of_ble_eq_true rfl, Nat.le_of_ble_eq_true rfl⟩ ⟨rfl, rfl⟩ dX5_mail_5 (st2 := [.int r1]) rfl ?_
  refine go_if_ne (pc := 8) (tgt := 13) dX5_mail_8 rfl (fun c3 => ?_) (fun c3 => ?_)
  · replace h := ifn h c3
    refine go_iload_n (pc := 13) dX5_mail_13 rfl rfl ?_
    refine go_if_lt (pc := 14) (tgt := 33) dX5_mail_14 rfl (fun c4 => ?_) (fun c4 => ?_)
    · replace h := ifp h c4
      exact gX5_mail_b33  h
    · replace h := ifn h c4
      refine go_iload_n (pc := 17) dX5_mail_17 rfl rfl ?_
      refine go_bipush (pc := 18) (v := 7) dX5_mail_18 cb_7 ?_
      refine go_icmp_gt (pc := 20) (tgt := 33) dX5_mail_20 rfl (fun c17 => ?_) (fun c17 => ?_)
      · replace h := ifp h c17
        exact gX5_mail_b33  h
      · replace h := ifn h c17
        refine go_aload_n (pc := 23) dX5_mail_23 rfl rfl ?_
        refine go_getP (pc := 24) (a := 28) fX5_34 (by decide) (show TC 0 = (5 + 5, 13) from rfl) rfl dX5_mail_24 ?_
        refine go_iload_n (pc := 27) dX5_mail_27 rfl rfl ?_
        refine go_iload_n (pc := 28) dX5_mail_28 rfl rfl ?_
        obtain ⟨r18, e19, h⟩ := ok_bind h
        refine go_cV (pc := 29) (ci := 2) (As := [.int a1, .int a2]) (st := []) (E_X2_value isK_28 e19) rfl oX2_value iX2_value sX2_value kX5_152 rfl (K_T isK_28) rfl (Nat.le_of_ble_eq_true rfl) ⟨Nat.le_of_ble_eq_true rfl, Nat.le_of_ble_eq_true rfl⟩ ⟨rfl, rfl⟩ dX5_mail_29 (st2 := [.int r18]) rfl ?_
        cases h
        exact go_iret (pc := 32) (Or.inl rfl) ⟨Nat.zero_le _, Nat.zero_le _⟩ dX5_mail_32
  · replace h := ifp h c3
    refine go_iconst (pc := 11) (v := (-1)) dX5_mail_11 ci_m1 ?_
    cases h
    exact go_iret (pc := 12) (Or.inl rfl) ⟨Nat.zero_le _, Nat.zero_le _⟩ dX5_mail_12
