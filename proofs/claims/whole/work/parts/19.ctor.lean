theorem cb_48 : (Int8.ofInt 48).toInt32 = 48 := by decide
theorem cb_120 : (Int8.ofInt 120).toInt32 = 120 := by decide
theorem cs_244 : (Int16.ofInt 244).toInt32 = 244 := by decide
theorem cs_2400 : (Int16.ofInt 2400).toInt32 = 2400 := by decide
def nnest (own : String) (idx : Nat) : Bool := nw.all (fun w => match w with | .fieldLinkNest a i _ _ _ _ => !(a == own && i == idx) | _ => true)
theorem hnn_of {own : String} {idx : Nat} (h : nnest own idx = true) : ∀ host C f d, Cond.fieldLinkNest own idx C f d host ∉ nw := by
  intro host C f d hm
  have h1 := List.all_eq_true.mp h _ hm
  simp at h1
theorem nnX0_9 : nnest RX0 9 = true := by decide +kernel
theorem nnX1_9 : nnest RX1 9 = true := by decide +kernel
theorem nnX1_15 : nnest RX1 15 = true := by decide +kernel
theorem nnX1_18 : nnest RX1 18 = true := by decide +kernel
theorem nnX2_11 : nnest RX2 11 = true := by decide +kernel
theorem nnX2_16 : nnest RX2 16 = true := by decide +kernel
theorem nnX2_19 : nnest RX2 19 = true := by decide +kernel
theorem nnX2_23 : nnest RX2 23 = true := by decide +kernel
theorem nnX3_11 : nnest RX3 11 = true := by decide +kernel
theorem nnX3_16 : nnest RX3 16 = true := by decide +kernel
theorem nnX3_20 : nnest RX3 20 = true := by decide +kernel
theorem nnX4_11 : nnest RX4 11 = true := by decide +kernel
theorem nnX4_16 : nnest RX4 16 = true := by decide +kernel
theorem nnX5_9 : nnest RX5 9 = true := by decide +kernel
theorem nnX5_15 : nnest RX5 15 = true := by decide +kernel
theorem nnX5_21 : nnest RX5 21 = true := by decide +kernel
theorem nnX5_30 : nnest RX5 30 = true := by decide +kernel
theorem nnX5_34 : nnest RX5 34 = true := by decide +kernel
theorem nnX5_37 : nnest RX5 37 = true := by decide +kernel
theorem nnX5_43 : nnest RX5 43 = true := by decide +kernel
theorem nnX5_50 : nnest RX5 50 = true := by decide +kernel
theorem nnX5_54 : nnest RX5 54 = true := by decide +kernel
theorem nnX6_7 : nnest RX6 7 = true := by decide +kernel
theorem nnX6_13 : nnest RX6 13 = true := by decide +kernel
theorem nnX6_16 : nnest RX6 16 = true := by decide +kernel
theorem nnX6_19 : nnest RX6 19 = true := by decide +kernel
theorem nnX6_22 : nnest RX6 22 = true := by decide +kernel
theorem nnX6_25 : nnest RX6 25 = true := by decide +kernel
theorem nnX6_28 : nnest RX6 28 = true := by decide +kernel
theorem nnX6_35 : nnest RX6 35 = true := by decide +kernel
theorem nnX6_38 : nnest RX6 38 = true := by decide +kernel
theorem nnX6_41 : nnest RX6 41 = true := by decide +kernel
theorem nnX6_44 : nnest RX6 44 = true := by decide +kernel
theorem nnX6_47 : nnest RX6 47 = true := by decide +kernel
theorem nnX6_50 : nnest RX6 50 = true := by decide +kernel
theorem nnX6_53 : nnest RX6 53 = true := by decide +kernel
theorem nnX6_56 : nnest RX6 56 = true := by decide +kernel
theorem nnX6_59 : nnest RX6 59 = true := by decide +kernel
theorem nnX6_62 : nnest RX6 62 = true := by decide +kernel
theorem nnX6_65 : nnest RX6 65 = true := by decide +kernel
theorem nnX6_68 : nnest RX6 68 = true := by decide +kernel
theorem nnX6_71 : nnest RX6 71 = true := by decide +kernel
theorem nnX6_74 : nnest RX6 74 = true := by decide +kernel
theorem nnX6_77 : nnest RX6 77 = true := by decide +kernel
def cCall (P : Nat → Nat → Option Nat) (o : Nat) : Nat → Nat → Option Nat := (wp P o 0 (some (o + 1)))
set_option maxHeartbeats 4000000 in
set_option maxRecDepth 100000 in
theorem E_X0_init {o : Nat} (ho : isCall o) (P : Nat → Nat → Option Nat) (V : Mm) : Ev mX0_init [.ref o] (o + 1, TC, P, V) none (o + 2, TC, (wp P o 0 (some (o + 1))), V) := by
  refine Ev.of (n := 0) oX0_init.1 (Nat.le_of_ble_eq_true rfl) ?_
  show Go mX0_init 0 [some (.ref o)] [] (o + 1, TC, P, V) 0 0 none (o + 2, TC, (wp P o 0 (some (o + 1))), V)
  refine go_aload_n (pc := 0) dX0_init_0 rfl rfl ?_
  refine go_objInit (pc := 1) ⟨kX0_3, wObj⟩ rfl ⟨Nat.le_of_ble_eq_true rfl, Nat.le_of_ble_eq_true rfl⟩ dX0_init_1 ?_
  refine go_aload_n (pc := 4) dX0_init_4 rfl rfl ?_
  refine go_bipush (pc := 5) (v := 10) dX0_init_5 cb_10 ?_
  refine go_newa (pc := 7) (N := o + 1) (n := 10) wArr_int (by decide) (by decide) (C_T0 ho) (by decide) ⟨Nat.le_of_ble_eq_true rfl, Nat.le_of_ble_eq_true rfl⟩ dX0_init_7 ?_
  refine go_putP (pc := 9) (k := 0) (idx := 9) fX0_9 (hnn_of nnX0_9) (by decide) ⟨by decide, rfl, rfl⟩ (C_T ho) dX0_init_9 ?_
  exact go_vret (pc := 12) rfl ⟨Nat.le_of_ble_eq_true rfl, Nat.le_of_ble_eq_true rfl⟩ dX0_init_12
def cOut (P : Nat → Nat → Option Nat) (o : Nat) : Nat → Nat → Option Nat := (wp (wp (mnaP P (o + 1) 4) o 0 (some (o + 1))) o 1 (some (o + 6)))
set_option maxHeartbeats 4000000 in
set_option maxRecDepth 100000 in
theorem E_X4_init {o : Nat} (ho : isOut o) (P : Nat → Nat → Option Nat) (V : Mm) : Ev mX4_init [.ref o] (o + 1, TC, P, V) none (o + 7, TC, (wp (wp (mnaP P (o + 1) 4) o 0 (some (o + 1))) o 1 (some (o + 6))), V) := by
  refine Ev.of (n := 0) oX4_init.1 (Nat.le_of_ble_eq_true rfl) ?_
  show Go mX4_init 0 [some (.ref o)] [] (o + 1, TC, P, V) 0 0 none (o + 7, TC, (wp (wp (mnaP P (o + 1) 4) o 0 (some (o + 1))) o 1 (some (o + 6))), V)
  refine go_aload_n (pc := 0) dX4_init_0 rfl rfl ?_
  refine go_objInit (pc := 1) ⟨kX4_3, wObj⟩ rfl ⟨Nat.le_of_ble_eq_true rfl, Nat.le_of_ble_eq_true rfl⟩ dX4_init_1 ?_
  refine go_aload_n (pc := 4) dX4_init_4 rfl rfl ?_
  refine go_iconst (pc := 5) (v := 4) dX4_init_5 ci_4 ?_
  refine go_bipush (pc := 6) (v := 50) dX4_init_6 cb_50 ?_
  refine go_mna (pc := 8) (N := o + 1) (n := 4) (k := 50) ⟨wCL_X4_9, wArr_int⟩ (by decide) (by decide) (by decide) (by decide) (O_T0 ho) (fun _ hj => O_Tr ho hj) ⟨by decide, by decide, by decide⟩ ⟨Nat.le_of_ble_eq_true rfl, Nat.le_of_ble_eq_true rfl⟩ dX4_init_8 ?_
  refine go_putP (pc := 12) (k := 0) (idx := 11) fX4_11 (hnn_of nnX4_11) (by decide) ⟨by decide, rfl, rfl⟩ (O_T ho) dX4_init_12 ?_
  refine go_aload_n (pc := 15) dX4_init_15 rfl rfl ?_
  refine go_iconst (pc := 16) (v := 4) dX4_init_16 ci_4 ?_
  refine go_newa (pc := 17) (N := o + 6) (n := 4) wArr_int (by decide) (by decide) (O_T1 ho) (by decide) ⟨Nat.le_of_ble_eq_true rfl, Nat.le_of_ble_eq_true rfl⟩ dX4_init_17 ?_
  refine go_putP (pc := 19) (k := 1) (idx := 16) fX4_16 (hnn_of nnX4_16) (by decide) ⟨by decide, rfl, rfl⟩ (O_T ho) dX4_init_19 ?_
  exact go_vret (pc := 22) rfl ⟨Nat.le_of_ble_eq_true rfl, Nat.le_of_ble_eq_true rfl⟩ dX4_init_22
def cKind (P : Nat → Nat → Option Nat) (o : Nat) : Nat → Nat → Option Nat := (wp (wp (mnaP (wp (mnaP P (o + 1) 10) o 0 (some (o + 1))) (o + 12) 10) o 1 (some (o + 12))) o 2 (some (o + 23)))
set_option maxHeartbeats 4000000 in
set_option maxRecDepth 100000 in
theorem E_X2_init {o : Nat} {a1 : Int32} (ho : isK o) (P : Nat → Nat → Option Nat) (V : Mm) : Ev mX2_init [.ref o, .int a1] (o + 1, TC, P, V) none (o + 24, TC, (wp (wp (mnaP (wp (mnaP P (o + 1) 10) o 0 (some (o + 1))) (o + 12) 10) o 1 (some (o + 12))) o 2 (some (o + 23))), (wr V o 3 a1)) := by
  refine Ev.of (n := 0) oX2_init.1 (Nat.le_of_ble_eq_true rfl) ?_
  show Go mX2_init 0 [some (.ref o), some (.int a1)] [] (o + 1, TC, P, V) 0 0 none (o + 24, TC, (wp (wp (mnaP (wp (mnaP P (o + 1) 10) o 0 (some (o + 1))) (o + 12) 10) o 1 (some (o + 12))) o 2 (some (o + 23))), (wr V o 3 a1))
  refine go_aload_n (pc := 0) dX2_init_0 rfl rfl ?_
  refine go_objInit (pc := 1) ⟨kX2_3, wObj⟩ rfl ⟨Nat.le_of_ble_eq_true rfl, Nat.le_of_ble_eq_true rfl⟩ dX2_init_1 ?_
  refine go_aload_n (pc := 4) dX2_init_4 rfl rfl ?_
  refine go_bipush (pc := 5) (v := 10) dX2_init_5 cb_10 ?_
  refine go_bipush (pc := 7) (v := 50) dX2_init_7 cb_50 ?_
  refine go_mna (pc := 9) (N := o + 1) (n := 10) (k := 50) ⟨wCL_X2_9, wArr_int⟩ (by decide) (by decide) (by decide) (by decide) (K_T0 ho) (fun _ hj => K_Tr0 ho hj) ⟨by decide, by decide, by decide⟩ ⟨Nat.le_of_ble_eq_true rfl, Nat.le_of_ble_eq_true rfl⟩ dX2_init_9 ?_
  refine go_putP (pc := 13) (k := 0) (idx := 11) fX2_11 (hnn_of nnX2_11) (by decide) ⟨by decide, rfl, rfl⟩ (K_T ho) dX2_init_13 ?_
  refine go_aload_n (pc := 16) dX2_init_16 rfl rfl ?_
  refine go_bipush (pc := 17) (v := 10) dX2_init_17 cb_10 ?_
  refine go_bipush (pc := 19) (v := 50) dX2_init_19 cb_50 ?_
  refine go_mna (pc := 21) (N := o + 12) (n := 10) (k := 50) ⟨wCL_X2_9, wArr_int⟩ (by decide) (by decide) (by decide) (by decide) (K_T1 ho) (fun _ hj => K_Tr1 ho hj) ⟨by decide, by decide, by decide⟩ ⟨Nat.le_of_ble_eq_true rfl, Nat.le_of_ble_eq_true rfl⟩ dX2_init_21 ?_
  refine go_putP (pc := 25) (k := 1) (idx := 16) fX2_16 (hnn_of nnX2_16) (by decide) ⟨by decide, rfl, rfl⟩ (K_T ho) dX2_init_25 ?_
  refine go_aload_n (pc := 28) dX2_init_28 rfl rfl ?_
  refine go_bipush (pc := 29) (v := 50) dX2_init_29 cb_50 ?_
  refine go_newa (pc := 31) (N := o + 23) (n := 50) wArr_int (by decide) (by decide) (K_T2 ho) (by decide) ⟨Nat.le_of_ble_eq_true rfl, Nat.le_of_ble_eq_true rfl⟩ dX2_init_31 ?_
  refine go_putP (pc := 33) (k := 2) (idx := 19) fX2_19 (hnn_of nnX2_19) (by decide) ⟨by decide, rfl, rfl⟩ (K_T ho) dX2_init_33 ?_
  refine go_aload_n (pc := 36) dX2_init_36 rfl rfl ?_
  refine go_iload_n (pc := 37) dX2_init_37 rfl rfl ?_
  refine go_putI (pc := 38) (k := 3) (idx := 23) fX2_23 (Or.inl rfl) (Or.inr ⟨rfl, rfl, rfl, hnn_of nnX2_23⟩) (K_T ho) dX2_init_38 ?_
  exact go_vret (pc := 41) rfl ⟨Nat.le_of_ble_eq_true rfl, Nat.le_of_ble_eq_true rfl⟩ dX2_init_41
def cLog (P : Nat → Nat → Option Nat) : Nat → Nat → Option Nat := (wp (wp (wp (mnaP P 77 4) 76 0 (some 77)) 76 1 (some 82)) 76 2 (some 83))
set_option maxHeartbeats 4000000 in
set_option maxRecDepth 100000 in
theorem E_X3_init (P : Nat → Nat → Option Nat) (V : Mm) : Ev mX3_init [.ref 76] (77, TC, P, V) none (84, TC, (wp (wp (wp (mnaP P 77 4) 76 0 (some 77)) 76 1 (some 82)) 76 2 (some 83)), V) := by
  refine Ev.of (n := 0) oX3_init.1 (Nat.le_of_ble_eq_true rfl) ?_
  show Go mX3_init 0 [some (.ref 76)] [] (77, TC, P, V) 0 0 none (84, TC, (wp (wp (wp (mnaP P 77 4) 76 0 (some 77)) 76 1 (some 82)) 76 2 (some 83)), V)
  refine go_aload_n (pc := 0) dX3_init_0 rfl rfl ?_
  refine go_objInit (pc := 1) ⟨kX3_3, wObj⟩ rfl ⟨Nat.le_of_ble_eq_true rfl, Nat.le_of_ble_eq_true rfl⟩ dX3_init_1 ?_
  refine go_aload_n (pc := 4) dX3_init_4 rfl rfl ?_
  refine go_iconst (pc := 5) (v := 4) dX3_init_5 ci_4 ?_
  refine go_bipush (pc := 6) (v := 60) dX3_init_6 cb_60 ?_
  refine go_mna (pc := 8) (N := 77) (n := 4) (k := 60) ⟨wCL_X3_9, wArr_int⟩ (by decide) (by decide) (by decide) (by decide) (show TC 77 = (2, 4) from rfl) (fun _ hj => G_Tr hj) ⟨by decide, by decide, by decide⟩ ⟨Nat.le_of_ble_eq_true rfl, Nat.le_of_ble_eq_true rfl⟩ dX3_init_8 ?_
  refine go_putP (pc := 12) (k := 0) (idx := 11) fX3_11 (hnn_of nnX3_11) (by decide) ⟨by decide, rfl, rfl⟩ (show TC 76 = (8, 5) from rfl) dX3_init_12 ?_
  refine go_aload_n (pc := 15) dX3_init_15 rfl rfl ?_
  refine go_iconst (pc := 16) (v := 3) dX3_init_16 ci_3 ?_
  refine go_newa (pc := 17) (N := 82) (n := 3) wArr_int (by decide) (by decide) (show TC 82 = (0, 3) from rfl) (by decide) ⟨Nat.le_of_ble_eq_true rfl, Nat.le_of_ble_eq_true rfl⟩ dX3_init_17 ?_
  refine go_putP (pc := 19) (k := 1) (idx := 16) fX3_16 (hnn_of nnX3_16) (by decide) ⟨by decide, rfl, rfl⟩ (show TC 76 = (8, 5) from rfl) dX3_init_19 ?_
  refine go_aload_n (pc := 22) dX3_init_22 rfl rfl ?_
  refine go_bipush (pc := 23) (v := 50) dX3_init_23 cb_50 ?_
  refine go_newa (pc := 25) (N := 83) (n := 50) wArr_int (by decide) (by decide) (show TC 83 = (0, 50) from rfl) (by decide) ⟨Nat.le_of_ble_eq_true rfl, Nat.le_of_ble_eq_true rfl⟩ dX3_init_25 ?_
  refine go_putP (pc := 27) (k := 2) (idx := 20) fX3_20 (hnn_of nnX3_20) (by decide) ⟨by decide, rfl, rfl⟩ (show TC 76 = (8, 5) from rfl) dX3_init_27 ?_
  exact go_vret (pc := 30) rfl ⟨Nat.le_of_ble_eq_true rfl, Nat.le_of_ble_eq_true rfl⟩ dX3_init_30
def cFil (P : Nat → Nat → Option Nat) : Nat → Nat → Option Nat := (wp (wp (wp P 84 0 (some 85)) 84 1 (some 86)) 84 2 (some 87))
set_option maxHeartbeats 4000000 in
set_option maxRecDepth 100000 in
theorem E_X1_init (P : Nat → Nat → Option Nat) (V : Mm) : Ev mX1_init [.ref 84] (85, TC, P, V) none (88, TC, (wp (wp (wp P 84 0 (some 85)) 84 1 (some 86)) 84 2 (some 87)), V) := by
  refine Ev.of (n := 0) oX1_init.1 (Nat.le_of_ble_eq_true rfl) ?_
  show Go mX1_init 0 [some (.ref 84)] [] (85, TC, P, V) 0 0 none (88, TC, (wp (wp (wp P 84 0 (some 85)) 84 1 (some 86)) 84 2 (some 87)), V)
  refine go_aload_n (pc := 0) dX1_init_0 rfl rfl ?_
  refine go_objInit (pc := 1) ⟨kX1_3, wObj⟩ rfl ⟨Nat.le_of_ble_eq_true rfl, Nat.le_of_ble_eq_true rfl⟩ dX1_init_1 ?_
  refine go_aload_n (pc := 4) dX1_init_4 rfl rfl ?_
  refine go_bipush (pc := 5) (v := 20) dX1_init_5 cb_20 ?_
  refine go_newa (pc := 7) (N := 85) (n := 20) wArr_int (by decide) (by decide) (show TC 85 = (0, 20) from rfl) (by decide) ⟨Nat.le_of_ble_eq_true rfl, Nat.le_of_ble_eq_true rfl⟩ dX1_init_7 ?_
  refine go_putP (pc := 9) (k := 0) (idx := 9) fX1_9 (hnn_of nnX1_9) (by decide) ⟨by decide, rfl, rfl⟩ (show TC 84 = (6, 4) from rfl) dX1_init_9 ?_
  refine go_aload_n (pc := 12) dX1_init_12 rfl rfl ?_
  refine go_bipush (pc := 13) (v := 20) dX1_init_13 cb_20 ?_
  refine go_newa (pc := 15) (N := 86) (n := 20) wArr_int (by decide) (by decide) (show TC 86 = (0, 20) from rfl) (by decide) ⟨Nat.le_of_ble_eq_true rfl, Nat.le_of_ble_eq_true rfl⟩ dX1_init_15 ?_
  refine go_putP (pc := 17) (k := 1) (idx := 15) fX1_15 (hnn_of nnX1_15) (by decide) ⟨by decide, rfl, rfl⟩ (show TC 84 = (6, 4) from rfl) dX1_init_17 ?_
  refine go_aload_n (pc := 20) dX1_init_20 rfl rfl ?_
  refine go_bipush (pc := 21) (v := 20) dX1_init_21 cb_20 ?_
  refine go_newa (pc := 23) (N := 87) (n := 20) wArr_int (by decide) (by decide) (show TC 87 = (0, 20) from rfl) (by decide) ⟨Nat.le_of_ble_eq_true rfl, Nat.le_of_ble_eq_true rfl⟩ dX1_init_23 ?_
  refine go_putP (pc := 25) (k := 2) (idx := 18) fX1_18 (hnn_of nnX1_18) (by decide) ⟨by decide, rfl, rfl⟩ (show TC 84 = (6, 4) from rfl) dX1_init_25 ?_
  exact go_vret (pc := 28) rfl ⟨Nat.le_of_ble_eq_true rfl, Nat.le_of_ble_eq_true rfl⟩ dX1_init_28
def cCore (P : Nat → Nat → Option Nat) : Nat → Nat → Option Nat := (wp (cOut (wp (cCall (wp (cOut (wp (cCall (wp (cOut (wp (cCall (wp (cOut (wp (cCall (wp (cOut (wp (cCall (wp (cOut (wp (cCall (wp (cOut (wp (cCall (wp (cOut (wp (cCall (wp (cOut (wp (cCall (wp (cOut (wp (cCall (wp (cOut (wp (cCall (wp (cOut (wp (cCall (wp (wp (cFil (wp (cLog (wp (cKind (wp (cKind (wp (cKind (wp (wp (wp P 0 0 (some 1)) 0 1 (some 2)) 0 2 (some 3)) 4) 0 3 (some 4)) 28) 0 4 (some 28)) 52) 0 5 (some 52))) 0 6 (some 76))) 0 7 (some 84)) 0 8 (some 88)) 89) 2 0 (some 89)) 91) 3 0 (some 91)) 98) 2 1 (some 98)) 100) 3 1 (some 100)) 107) 2 2 (some 107)) 109) 3 2 (some 109)) 116) 2 3 (some 116)) 118) 3 3 (some 118)) 125) 2 4 (some 125)) 127) 3 4 (some 127)) 134) 2 5 (some 134)) 136) 3 5 (some 136)) 143) 2 6 (some 143)) 145) 3 6 (some 145)) 152) 2 7 (some 152)) 154) 3 7 (some 154)) 161) 2 8 (some 161)) 163) 3 8 (some 163)) 170) 2 9 (some 170)) 172) 3 9 (some 172)) 179) 2 10 (some 179)) 181) 3 10 (some 181)) 188) 2 11 (some 188)) 190) 3 11 (some 190))
set_option maxHeartbeats 4000000 in
set_option maxRecDepth 100000 in
theorem E_X5_init (P : Nat → Nat → Option Nat) (V : Mm) : Ev mX5_init [.ref 0] (1, TC, P, V) none (197, TC, (wp (cOut (wp (cCall (wp (cOut (wp (cCall (wp (cOut (wp (cCall (wp (cOut (wp (cCall (wp (cOut (wp (cCall (wp (cOut (wp (cCall (wp (cOut (wp (cCall (wp (cOut (wp (cCall (wp (cOut (wp (cCall (wp (cOut (wp (cCall (wp (cOut (wp (cCall (wp (cOut (wp (cCall (wp (wp (cFil (wp (cLog (wp (cKind (wp (cKind (wp (cKind (wp (wp (wp P 0 0 (some 1)) 0 1 (some 2)) 0 2 (some 3)) 4) 0 3 (some 4)) 28) 0 4 (some 28)) 52) 0 5 (some 52))) 0 6 (some 76))) 0 7 (some 84)) 0 8 (some 88)) 89) 2 0 (some 89)) 91) 3 0 (some 91)) 98) 2 1 (some 98)) 100) 3 1 (some 100)) 107) 2 2 (some 107)) 109) 3 2 (some 109)) 116) 2 3 (some 116)) 118) 3 3 (some 118)) 125) 2 4 (some 125)) 127) 3 4 (some 127)) 134) 2 5 (some 134)) 136) 3 5 (some 136)) 143) 2 6 (some 143)) 145) 3 6 (some 145)) 152) 2 7 (some 152)) 154) 3 7 (some 154)) 161) 2 8 (some 161)) 163) 3 8 (some 163)) 170) 2 9 (some 170)) 172) 3 9 (some 172)) 179) 2 10 (some 179)) 181) 3 10 (some 181)) 188) 2 11 (some 188)) 190) 3 11 (some 190)), (wr (wr (wr (wr (wr (wr V 4 3 20) 28 3 50) 52 3 50) 1 1 1000) 1 5 1000) 1 6 1000)) := by
  refine Ev.of (n := 1) oX5_init.1 (Nat.le_of_ble_eq_true rfl) ?_
  show Go mX5_init 0 [some (.ref 0), none] [] (1, TC, P, V) 0 0 none (197, TC, (wp (cOut (wp (cCall (wp (cOut (wp (cCall (wp (cOut (wp (cCall (wp (cOut (wp (cCall (wp (cOut (wp (cCall (wp (cOut (wp (cCall (wp (cOut (wp (cCall (wp (cOut (wp (cCall (wp (cOut (wp (cCall (wp (cOut (wp (cCall (wp (cOut (wp (cCall (wp (cOut (wp (cCall (wp (wp (cFil (wp (cLog (wp (cKind (wp (cKind (wp (cKind (wp (wp (wp P 0 0 (some 1)) 0 1 (some 2)) 0 2 (some 3)) 4) 0 3 (some 4)) 28) 0 4 (some 28)) 52) 0 5 (some 52))) 0 6 (some 76))) 0 7 (some 84)) 0 8 (some 88)) 89) 2 0 (some 89)) 91) 3 0 (some 91)) 98) 2 1 (some 98)) 100) 3 1 (some 100)) 107) 2 2 (some 107)) 109) 3 2 (some 109)) 116) 2 3 (some 116)) 118) 3 3 (some 118)) 125) 2 4 (some 125)) 127) 3 4 (some 127)) 134) 2 5 (some 134)) 136) 3 5 (some 136)) 143) 2 6 (some 143)) 145) 3 6 (some 145)) 152) 2 7 (some 152)) 154) 3 7 (some 154)) 161) 2 8 (some 161)) 163) 3 8 (some 163)) 170) 2 9 (some 170)) 172) 3 9 (some 172)) 179) 2 10 (some 179)) 181) 3 10 (some 181)) 188) 2 11 (some 188)) 190) 3 11 (some 190)), (wr (wr (wr (wr (wr (wr V 4 3 20) 28 3 50) 52 3 50) 1 1 1000) 1 5 1000) 1 6 1000))
  refine go_aload_n (pc := 0) dX5_init_0 rfl rfl ?_
  refine go_objInit (pc := 1) ⟨kX5_1, wObj⟩ rfl ⟨Nat.le_of_ble_eq_true rfl, Nat.le_of_ble_eq_true rfl⟩ dX5_init_1 ?_
  refine go_aload_n (pc := 4) dX5_init_4 rfl rfl ?_
  refine go_bipush (pc := 5) (v := 10) dX5_init_5 cb_10 ?_
  refine go_newa (pc := 7) (N := 1) (n := 10) wArr_int (by decide) (by decide) (show TC 1 = (0, 10) from rfl) (by decide) ⟨Nat.le_of_ble_eq_true rfl, Nat.le_of_ble_eq_true rfl⟩ dX5_init_7 ?_
  refine go_putP (pc := 9) (k := 0) (idx := 9) fX5_9 (hnn_of nnX5_9) (by decide) ⟨by decide, rfl, rfl⟩ (show TC 0 = (10, 13) from rfl) dX5_init_9 ?_
  refine go_aload_n (pc := 12) dX5_init_12 rfl rfl ?_
  refine go_bipush (pc := 13) (v := 12) dX5_init_13 cb_12 ?_
  refine go_newq (pc := 15) (N := 2) (n := 12) (t := 3) (C := "MailCore$Call") w135 (by decide) (by decide) (by decide) (show TC 2 = (3, 12) from rfl) (by decide) ⟨Nat.le_of_ble_eq_true rfl, Nat.le_of_ble_eq_true rfl⟩ dX5_init_15 ?_
  refine go_putP (pc := 18) (k := 1) (idx := 15) fX5_15 (hnn_of nnX5_15) (by decide) ⟨by decide, rfl, rfl⟩ (show TC 0 = (10, 13) from rfl) dX5_init_18 ?_
  refine go_aload_n (pc := 21) dX5_init_21 rfl rfl ?_
  refine go_bipush (pc := 22) (v := 12) dX5_init_22 cb_12 ?_
  refine go_newq (pc := 24) (N := 3) (n := 12) (t := 4) (C := "MailCore$Outcome") w137 (by decide) (by decide) (by decide) (show TC 3 = (4, 12) from rfl) (by decide) ⟨Nat.le_of_ble_eq_true rfl, Nat.le_of_ble_eq_true rfl⟩ dX5_init_24 ?_
  refine go_putP (pc := 27) (k := 2) (idx := 21) fX5_21 (hnn_of nnX5_21) (by decide) ⟨by decide, rfl, rfl⟩ (show TC 0 = (10, 13) from rfl) dX5_init_27 ?_
  refine go_aload_n (pc := 30) dX5_init_30 rfl rfl ?_
  refine go_new (pc := 31) (N := 4) (ci := 2) nX5_25 (show TC 4 = (7, 8) from rfl) ⟨Nat.le_of_ble_eq_true rfl, Nat.le_of_ble_eq_true rfl⟩ dX5_init_31 ?_
  refine go_dup (pc := 34) dX5_init_34 ?_
  refine go_bipush (pc := 35) (v := 20) dX5_init_35 cb_20 ?_
  refine go_callI (pc := 37) (M1 := mX2_init) (As := [.int 20]) (st := [.ref 4, .ref 0]) (E_X2_init isK_4 (wp (wp (wp P 0 0 (some 1)) 0 1 (some 2)) 0 2 (some 3)) V) rfl oX2_init rfl rfl iX2_init kX5_27 rfl (Nat.le_of_ble_eq_true rfl) ⟨Nat.le_of_ble_eq_true rfl, Nat.le_of_ble_eq_true rfl⟩ ⟨Nat.le_of_ble_eq_true rfl, Nat.le_of_ble_eq_true rfl⟩ dX5_init_37 ?_
  show Go mX5_init 40 [some (.ref 0), none] [.ref 4, .ref 0] (28, TC, (cKind (wp (wp (wp P 0 0 (some 1)) 0 1 (some 2)) 0 2 (some 3)) 4), (wr V 4 3 20)) _ _ _ _
  refine go_putP (pc := 40) (k := 3) (idx := 30) fX5_30 (hnn_of nnX5_30) (by decide) ⟨by decide, rfl, rfl⟩ (show TC 0 = (10, 13) from rfl) dX5_init_40 ?_
  refine go_aload_n (pc := 43) dX5_init_43 rfl rfl ?_
  refine go_new (pc := 44) (N := 28) (ci := 2) nX5_25 (show TC 28 = (7, 8) from rfl) ⟨Nat.le_of_ble_eq_true rfl, Nat.le_of_ble_eq_true rfl⟩ dX5_init_44 ?_
  refine go_dup (pc := 47) dX5_init_47 ?_
  refine go_bipush (pc := 48) (v := 50) dX5_init_48 cb_50 ?_
  refine go_callI (pc := 50) (M1 := mX2_init) (As := [.int 50]) (st := [.ref 28, .ref 0]) (E_X2_init isK_28 (wp (cKind (wp (wp (wp P 0 0 (some 1)) 0 1 (some 2)) 0 2 (some 3)) 4) 0 3 (some 4)) (wr V 4 3 20)) rfl oX2_init rfl rfl iX2_init kX5_27 rfl (Nat.le_of_ble_eq_true rfl) ⟨Nat.le_of_ble_eq_true rfl, Nat.le_of_ble_eq_true rfl⟩ ⟨Nat.le_of_ble_eq_true rfl, Nat.le_of_ble_eq_true rfl⟩ dX5_init_50 ?_
  show Go mX5_init 53 [some (.ref 0), none] [.ref 28, .ref 0] (52, TC, (cKind (wp (cKind (wp (wp (wp P 0 0 (some 1)) 0 1 (some 2)) 0 2 (some 3)) 4) 0 3 (some 4)) 28), (wr (wr V 4 3 20) 28 3 50)) _ _ _ _
  refine go_putP (pc := 53) (k := 4) (idx := 34) fX5_34 (hnn_of nnX5_34) (by decide) ⟨by decide, rfl, rfl⟩ (show TC 0 = (10, 13) from rfl) dX5_init_53 ?_
  refine go_aload_n (pc := 56) dX5_init_56 rfl rfl ?_
  refine go_new (pc := 57) (N := 52) (ci := 2) nX5_25 (show TC 52 = (7, 8) from rfl) ⟨Nat.le_of_ble_eq_true rfl, Nat.le_of_ble_eq_true rfl⟩ dX5_init_57 ?_
  refine go_dup (pc := 60) dX5_init_60 ?_
  refine go_bipush (pc := 61) (v := 50) dX5_init_61 cb_50 ?_
  refine go_callI (pc := 63) (M1 := mX2_init) (As := [.int 50]) (st := [.ref 52, .ref 0]) (E_X2_init isK_52 (wp (cKind (wp (cKind (wp (wp (wp P 0 0 (some 1)) 0 1 (some 2)) 0 2 (some 3)) 4) 0 3 (some 4)) 28) 0 4 (some 28)) (wr (wr V 4 3 20) 28 3 50)) rfl oX2_init rfl rfl iX2_init kX5_27 rfl (Nat.le_of_ble_eq_true rfl) ⟨Nat.le_of_ble_eq_true rfl, Nat.le_of_ble_eq_true rfl⟩ ⟨Nat.le_of_ble_eq_true rfl, Nat.le_of_ble_eq_true rfl⟩ dX5_init_63 ?_
  show Go mX5_init 66 [some (.ref 0), none] [.ref 52, .ref 0] (76, TC, (cKind (wp (cKind (wp (cKind (wp (wp (wp P 0 0 (some 1)) 0 1 (some 2)) 0 2 (some 3)) 4) 0 3 (some 4)) 28) 0 4 (some 28)) 52), (wr (wr (wr V 4 3 20) 28 3 50) 52 3 50)) _ _ _ _
  refine go_putP (pc := 66) (k := 5) (idx := 37) fX5_37 (hnn_of nnX5_37) (by decide) ⟨by decide, rfl, rfl⟩ (show TC 0 = (10, 13) from rfl) dX5_init_66 ?_
  refine go_aload_n (pc := 69) dX5_init_69 rfl rfl ?_
  refine go_new (pc := 70) (N := 76) (ci := 3) nX5_40 (show TC 76 = (8, 5) from rfl) ⟨Nat.le_of_ble_eq_true rfl, Nat.le_of_ble_eq_true rfl⟩ dX5_init_70 ?_
  refine go_dup (pc := 73) dX5_init_73 ?_
  refine go_callI (pc := 74) (M1 := mX3_init) (As := []) (st := [.ref 76, .ref 0]) (E_X3_init (wp (cKind (wp (cKind (wp (cKind (wp (wp (wp P 0 0 (some 1)) 0 1 (some 2)) 0 2 (some 3)) 4) 0 3 (some 4)) 28) 0 4 (some 28)) 52) 0 5 (some 52)) (wr (wr (wr V 4 3 20) 28 3 50) 52 3 50)) rfl oX3_init rfl rfl iX3_init kX5_42 rfl (Nat.le_of_ble_eq_true rfl) ⟨Nat.le_of_ble_eq_true rfl, Nat.le_of_ble_eq_true rfl⟩ ⟨Nat.le_of_ble_eq_true rfl, Nat.le_of_ble_eq_true rfl⟩ dX5_init_74 ?_
  show Go mX5_init 77 [some (.ref 0), none] [.ref 76, .ref 0] (84, TC, (cLog (wp (cKind (wp (cKind (wp (cKind (wp (wp (wp P 0 0 (some 1)) 0 1 (some 2)) 0 2 (some 3)) 4) 0 3 (some 4)) 28) 0 4 (some 28)) 52) 0 5 (some 52))), (wr (wr (wr V 4 3 20) 28 3 50) 52 3 50)) _ _ _ _
  refine go_putP (pc := 77) (k := 6) (idx := 43) fX5_43 (hnn_of nnX5_43) (by decide) ⟨by decide, rfl, rfl⟩ (show TC 0 = (10, 13) from rfl) dX5_init_77 ?_
  refine go_aload_n (pc := 80) dX5_init_80 rfl rfl ?_
  refine go_new (pc := 81) (N := 84) (ci := 1) nX5_47 (show TC 84 = (6, 4) from rfl) ⟨Nat.le_of_ble_eq_true rfl, Nat.le_of_ble_eq_true rfl⟩ dX5_init_81 ?_
  refine go_dup (pc := 84) dX5_init_84 ?_
  refine go_callI (pc := 85) (M1 := mX1_init) (As := []) (st := [.ref 84, .ref 0]) (E_X1_init (wp (cLog (wp (cKind (wp (cKind (wp (cKind (wp (wp (wp P 0 0 (some 1)) 0 1 (some 2)) 0 2 (some 3)) 4) 0 3 (some 4)) 28) 0 4 (some 28)) 52) 0 5 (some 52))) 0 6 (some 76)) (wr (wr (wr V 4 3 20) 28 3 50) 52 3 50)) rfl oX1_init rfl rfl iX1_init kX5_49 rfl (Nat.le_of_ble_eq_true rfl) ⟨Nat.le_of_ble_eq_true rfl, Nat.le_of_ble_eq_true rfl⟩ ⟨Nat.le_of_ble_eq_true rfl, Nat.le_of_ble_eq_true rfl⟩ dX5_init_85 ?_
  show Go mX5_init 88 [some (.ref 0), none] [.ref 84, .ref 0] (88, TC, (cFil (wp (cLog (wp (cKind (wp (cKind (wp (cKind (wp (wp (wp P 0 0 (some 1)) 0 1 (some 2)) 0 2 (some 3)) 4) 0 3 (some 4)) 28) 0 4 (some 28)) 52) 0 5 (some 52))) 0 6 (some 76))), (wr (wr (wr V 4 3 20) 28 3 50) 52 3 50)) _ _ _ _
  refine go_putP (pc := 88) (k := 7) (idx := 50) fX5_50 (hnn_of nnX5_50) (by decide) ⟨by decide, rfl, rfl⟩ (show TC 0 = (10, 13) from rfl) dX5_init_88 ?_
  refine go_aload_n (pc := 91) dX5_init_91 rfl rfl ?_
  refine go_bipush (pc := 92) (v := 50) dX5_init_92 cb_50 ?_
  refine go_newa (pc := 94) (N := 88) (n := 50) wArr_int (by decide) (by decide) (show TC 88 = (0, 50) from rfl) (by decide) ⟨Nat.le_of_ble_eq_true rfl, Nat.le_of_ble_eq_true rfl⟩ dX5_init_94 ?_
  refine go_putP (pc := 96) (k := 8) (idx := 54) fX5_54 (hnn_of nnX5_54) (by decide) ⟨by decide, rfl, rfl⟩ (show TC 0 = (10, 13) from rfl) dX5_init_96 ?_
  refine go_iconst (pc := 99) (v := 0) dX5_init_99 ci_0 ?_
  refine go_istore_n (pc := 100) (i := 1) dX5_init_100 rfl (Nat.le_of_ble_eq_true rfl) (L2 := [some (.ref 0), some (.int 0)]) rfl ?_
  refine go_iload_n (pc := 101) dX5_init_101 rfl rfl ?_
  refine go_bipush (pc := 102) (v := 12) dX5_init_102 cb_12 ?_
  refine go_icmp_ge (pc := 104) (tgt := 139) dX5_init_104 rfl (fun c => absurd c (by decide)) (fun _ => ?_)
  refine go_aload_n (pc := 107) dX5_init_107 rfl rfl ?_
  refine go_getP (pc := 108) (a := 2) fX5_15 (by decide) (show TC 0 = (10, 13) from rfl) rfl dX5_init_108 ?_
  refine go_iload_n (pc := 111) dX5_init_111 rfl rfl ?_
  refine go_new (pc := 112) (N := 89) (ci := 0) nX5_13 (show TC 89 = (5, 12) from rfl) ⟨Nat.le_of_ble_eq_true rfl, Nat.le_of_ble_eq_true rfl⟩ dX5_init_112 ?_
  refine go_dup (pc := 115) dX5_init_115 ?_
  refine go_callI (pc := 116) (M1 := mX0_init) (As := []) (st := [.ref 89, .int 0, .ref 2]) (E_X0_init (o := 89) (isCall_of (j := 0) (by decide)) (wp (wp (cFil (wp (cLog (wp (cKind (wp (cKind (wp (cKind (wp (wp (wp P 0 0 (some 1)) 0 1 (some 2)) 0 2 (some 3)) 4) 0 3 (some 4)) 28) 0 4 (some 28)) 52) 0 5 (some 52))) 0 6 (some 76))) 0 7 (some 84)) 0 8 (some 88)) (wr (wr (wr V 4 3 20) 28 3 50) 52 3 50)) rfl oX0_init rfl rfl iX0_init kX5_57 rfl (Nat.le_of_ble_eq_true rfl) ⟨Nat.le_of_ble_eq_true rfl, Nat.le_of_ble_eq_true rfl⟩ ⟨Nat.le_of_ble_eq_true rfl, Nat.le_of_ble_eq_true rfl⟩ dX5_init_116 ?_
  show Go mX5_init 119 [some (.ref 0), some (.int 0)] [.ref 89, .int 0, .ref 2] (91, TC, (cCall (wp (wp (cFil (wp (cLog (wp (cKind (wp (cKind (wp (cKind (wp (wp (wp P 0 0 (some 1)) 0 1 (some 2)) 0 2 (some 3)) 4) 0 3 (some 4)) 28) 0 4 (some 28)) 52) 0 5 (some 52))) 0 6 (some 76))) 0 7 (some 84)) 0 8 (some 88)) 89), (wr (wr (wr V 4 3 20) 28 3 50) 52 3 50)) _ _ _ _
  refine go_astq (pc := 119) (t := 3) (ci := 0) (by decide) (show TC 2 = (3, 12) from rfl) (show TC 89 = (5, 12) from rfl) (vin (by decide)) dX5_init_119 ?_
  refine go_aload_n (pc := 120) dX5_init_120 rfl rfl ?_
  refine go_getP (pc := 121) (a := 3) fX5_21 (by decide) (show TC 0 = (10, 13) from rfl) rfl dX5_init_121 ?_
  refine go_iload_n (pc := 124) dX5_init_124 rfl rfl ?_
  refine go_new (pc := 125) (N := 91) (ci := 4) nX5_19 (show TC 91 = (9, 3) from rfl) ⟨Nat.le_of_ble_eq_true rfl, Nat.le_of_ble_eq_true rfl⟩ dX5_init_125 ?_
  refine go_dup (pc := 128) dX5_init_128 ?_
  refine go_callI (pc := 129) (M1 := mX4_init) (As := []) (st := [.ref 91, .int 0, .ref 3]) (E_X4_init (o := 91) (isOut_of (j := 0) (by decide)) (wp (cCall (wp (wp (cFil (wp (cLog (wp (cKind (wp (cKind (wp (cKind (wp (wp (wp P 0 0 (some 1)) 0 1 (some 2)) 0 2 (some 3)) 4) 0 3 (some 4)) 28) 0 4 (some 28)) 52) 0 5 (some 52))) 0 6 (some 76))) 0 7 (some 84)) 0 8 (some 88)) 89) 2 0 (some 89)) (wr (wr (wr V 4 3 20) 28 3 50) 52 3 50)) rfl oX4_init rfl rfl iX4_init kX5_58 rfl (Nat.le_of_ble_eq_true rfl) ⟨Nat.le_of_ble_eq_true rfl, Nat.le_of_ble_eq_true rfl⟩ ⟨Nat.le_of_ble_eq_true rfl, Nat.le_of_ble_eq_true rfl⟩ dX5_init_129 ?_
  show Go mX5_init 132 [some (.ref 0), some (.int 0)] [.ref 91, .int 0, .ref 3] (98, TC, (cOut (wp (cCall (wp (wp (cFil (wp (cLog (wp (cKind (wp (cKind (wp (cKind (wp (wp (wp P 0 0 (some 1)) 0 1 (some 2)) 0 2 (some 3)) 4) 0 3 (some 4)) 28) 0 4 (some 28)) 52) 0 5 (some 52))) 0 6 (some 76))) 0 7 (some 84)) 0 8 (some 88)) 89) 2 0 (some 89)) 91), (wr (wr (wr V 4 3 20) 28 3 50) 52 3 50)) _ _ _ _
  refine go_astq (pc := 132) (t := 4) (ci := 4) (by decide) (show TC 3 = (4, 12) from rfl) (show TC 91 = (9, 3) from rfl) (vin (by decide)) dX5_init_132 ?_
  refine go_iinc (pc := 133) (v := 1) dX5_init_133 rfl (by decide) (Nat.le_of_ble_eq_true rfl) (L2 := [some (.ref 0), some (.int 1)]) rfl ?_
  refine go_goto (pc := 136) (tgt := 101) dX5_init_136 rfl ?_
  refine go_iload_n (pc := 101) dX5_init_101 rfl rfl ?_
  refine go_bipush (pc := 102) (v := 12) dX5_init_102 cb_12 ?_
  refine go_icmp_ge (pc := 104) (tgt := 139) dX5_init_104 rfl (fun c => absurd c (by decide)) (fun _ => ?_)
  refine go_aload_n (pc := 107) dX5_init_107 rfl rfl ?_
  refine go_getP (pc := 108) (a := 2) fX5_15 (by decide) (show TC 0 = (10, 13) from rfl) rfl dX5_init_108 ?_
  refine go_iload_n (pc := 111) dX5_init_111 rfl rfl ?_
  refine go_new (pc := 112) (N := 98) (ci := 0) nX5_13 (show TC 98 = (5, 12) from rfl) ⟨Nat.le_of_ble_eq_true rfl, Nat.le_of_ble_eq_true rfl⟩ dX5_init_112 ?_
  refine go_dup (pc := 115) dX5_init_115 ?_
  refine go_callI (pc := 116) (M1 := mX0_init) (As := []) (st := [.ref 98, .int 1, .ref 2]) (E_X0_init (o := 98) (isCall_of (j := 1) (by decide)) (wp (cOut (wp (cCall (wp (wp (cFil (wp (cLog (wp (cKind (wp (cKind (wp (cKind (wp (wp (wp P 0 0 (some 1)) 0 1 (some 2)) 0 2 (some 3)) 4) 0 3 (some 4)) 28) 0 4 (some 28)) 52) 0 5 (some 52))) 0 6 (some 76))) 0 7 (some 84)) 0 8 (some 88)) 89) 2 0 (some 89)) 91) 3 0 (some 91)) (wr (wr (wr V 4 3 20) 28 3 50) 52 3 50)) rfl oX0_init rfl rfl iX0_init kX5_57 rfl (Nat.le_of_ble_eq_true rfl) ⟨Nat.le_of_ble_eq_true rfl, Nat.le_of_ble_eq_true rfl⟩ ⟨Nat.le_of_ble_eq_true rfl, Nat.le_of_ble_eq_true rfl⟩ dX5_init_116 ?_
  show Go mX5_init 119 [some (.ref 0), some (.int 1)] [.ref 98, .int 1, .ref 2] (100, TC, (cCall (wp (cOut (wp (cCall (wp (wp (cFil (wp (cLog (wp (cKind (wp (cKind (wp (cKind (wp (wp (wp P 0 0 (some 1)) 0 1 (some 2)) 0 2 (some 3)) 4) 0 3 (some 4)) 28) 0 4 (some 28)) 52) 0 5 (some 52))) 0 6 (some 76))) 0 7 (some 84)) 0 8 (some 88)) 89) 2 0 (some 89)) 91) 3 0 (some 91)) 98), (wr (wr (wr V 4 3 20) 28 3 50) 52 3 50)) _ _ _ _
  refine go_astq (pc := 119) (t := 3) (ci := 0) (by decide) (show TC 2 = (3, 12) from rfl) (show TC 98 = (5, 12) from rfl) (vin (by decide)) dX5_init_119 ?_
  refine go_aload_n (pc := 120) dX5_init_120 rfl rfl ?_
  refine go_getP (pc := 121) (a := 3) fX5_21 (by decide) (show TC 0 = (10, 13) from rfl) rfl dX5_init_121 ?_
  refine go_iload_n (pc := 124) dX5_init_124 rfl rfl ?_
  refine go_new (pc := 125) (N := 100) (ci := 4) nX5_19 (show TC 100 = (9, 3) from rfl) ⟨Nat.le_of_ble_eq_true rfl, Nat.le_of_ble_eq_true rfl⟩ dX5_init_125 ?_
  refine go_dup (pc := 128) dX5_init_128 ?_
  refine go_callI (pc := 129) (M1 := mX4_init) (As := []) (st := [.ref 100, .int 1, .ref 3]) (E_X4_init (o := 100) (isOut_of (j := 1) (by decide)) (wp (cCall (wp (cOut (wp (cCall (wp (wp (cFil (wp (cLog (wp (cKind (wp (cKind (wp (cKind (wp (wp (wp P 0 0 (some 1)) 0 1 (some 2)) 0 2 (some 3)) 4) 0 3 (some 4)) 28) 0 4 (some 28)) 52) 0 5 (some 52))) 0 6 (some 76))) 0 7 (some 84)) 0 8 (some 88)) 89) 2 0 (some 89)) 91) 3 0 (some 91)) 98) 2 1 (some 98)) (wr (wr (wr V 4 3 20) 28 3 50) 52 3 50)) rfl oX4_init rfl rfl iX4_init kX5_58 rfl (Nat.le_of_ble_eq_true rfl) ⟨Nat.le_of_ble_eq_true rfl, Nat.le_of_ble_eq_true rfl⟩ ⟨Nat.le_of_ble_eq_true rfl, Nat.le_of_ble_eq_true rfl⟩ dX5_init_129 ?_
  show Go mX5_init 132 [some (.ref 0), some (.int 1)] [.ref 100, .int 1, .ref 3] (107, TC, (cOut (wp (cCall (wp (cOut (wp (cCall (wp (wp (cFil (wp (cLog (wp (cKind (wp (cKind (wp (cKind (wp (wp (wp P 0 0 (some 1)) 0 1 (some 2)) 0 2 (some 3)) 4) 0 3 (some 4)) 28) 0 4 (some 28)) 52) 0 5 (some 52))) 0 6 (some 76))) 0 7 (some 84)) 0 8 (some 88)) 89) 2 0 (some 89)) 91) 3 0 (some 91)) 98) 2 1 (some 98)) 100), (wr (wr (wr V 4 3 20) 28 3 50) 52 3 50)) _ _ _ _
  refine go_astq (pc := 132) (t := 4) (ci := 4) (by decide) (show TC 3 = (4, 12) from rfl) (show TC 100 = (9, 3) from rfl) (vin (by decide)) dX5_init_132 ?_
  refine go_iinc (pc := 133) (v := 2) dX5_init_133 rfl (by decide) (Nat.le_of_ble_eq_true rfl) (L2 := [some (.ref 0), some (.int 2)]) rfl ?_
  refine go_goto (pc := 136) (tgt := 101) dX5_init_136 rfl ?_
  refine go_iload_n (pc := 101) dX5_init_101 rfl rfl ?_
  refine go_bipush (pc := 102) (v := 12) dX5_init_102 cb_12 ?_
  refine go_icmp_ge (pc := 104) (tgt := 139) dX5_init_104 rfl (fun c => absurd c (by decide)) (fun _ => ?_)
  refine go_aload_n (pc := 107) dX5_init_107 rfl rfl ?_
  refine go_getP (pc := 108) (a := 2) fX5_15 (by decide) (show TC 0 = (10, 13) from rfl) rfl dX5_init_108 ?_
  refine go_iload_n (pc := 111) dX5_init_111 rfl rfl ?_
  refine go_new (pc := 112) (N := 107) (ci := 0) nX5_13 (show TC 107 = (5, 12) from rfl) ⟨Nat.le_of_ble_eq_true rfl, Nat.le_of_ble_eq_true rfl⟩ dX5_init_112 ?_
  refine go_dup (pc := 115) dX5_init_115 ?_
  refine go_callI (pc := 116) (M1 := mX0_init) (As := []) (st := [.ref 107, .int 2, .ref 2]) (E_X0_init (o := 107) (isCall_of (j := 2) (by decide)) (wp (cOut (wp (cCall (wp (cOut (wp (cCall (wp (wp (cFil (wp (cLog (wp (cKind (wp (cKind (wp (cKind (wp (wp (wp P 0 0 (some 1)) 0 1 (some 2)) 0 2 (some 3)) 4) 0 3 (some 4)) 28) 0 4 (some 28)) 52) 0 5 (some 52))) 0 6 (some 76))) 0 7 (some 84)) 0 8 (some 88)) 89) 2 0 (some 89)) 91) 3 0 (some 91)) 98) 2 1 (some 98)) 100) 3 1 (some 100)) (wr (wr (wr V 4 3 20) 28 3 50) 52 3 50)) rfl oX0_init rfl rfl iX0_init kX5_57 rfl (Nat.le_of_ble_eq_true rfl) ⟨Nat.le_of_ble_eq_true rfl, Nat.le_of_ble_eq_true rfl⟩ ⟨Nat.le_of_ble_eq_true rfl, Nat.le_of_ble_eq_true rfl⟩ dX5_init_116 ?_
  show Go mX5_init 119 [some (.ref 0), some (.int 2)] [.ref 107, .int 2, .ref 2] (109, TC, (cCall (wp (cOut (wp (cCall (wp (cOut (wp (cCall (wp (wp (cFil (wp (cLog (wp (cKind (wp (cKind (wp (cKind (wp (wp (wp P 0 0 (some 1)) 0 1 (some 2)) 0 2 (some 3)) 4) 0 3 (some 4)) 28) 0 4 (some 28)) 52) 0 5 (some 52))) 0 6 (some 76))) 0 7 (some 84)) 0 8 (some 88)) 89) 2 0 (some 89)) 91) 3 0 (some 91)) 98) 2 1 (some 98)) 100) 3 1 (some 100)) 107), (wr (wr (wr V 4 3 20) 28 3 50) 52 3 50)) _ _ _ _
  refine go_astq (pc := 119) (t := 3) (ci := 0) (by decide) (show TC 2 = (3, 12) from rfl) (show TC 107 = (5, 12) from rfl) (vin (by decide)) dX5_init_119 ?_
  refine go_aload_n (pc := 120) dX5_init_120 rfl rfl ?_
  refine go_getP (pc := 121) (a := 3) fX5_21 (by decide) (show TC 0 = (10, 13) from rfl) rfl dX5_init_121 ?_
  refine go_iload_n (pc := 124) dX5_init_124 rfl rfl ?_
  refine go_new (pc := 125) (N := 109) (ci := 4) nX5_19 (show TC 109 = (9, 3) from rfl) ⟨Nat.le_of_ble_eq_true rfl, Nat.le_of_ble_eq_true rfl⟩ dX5_init_125 ?_
  refine go_dup (pc := 128) dX5_init_128 ?_
  refine go_callI (pc := 129) (M1 := mX4_init) (As := []) (st := [.ref 109, .int 2, .ref 3]) (E_X4_init (o := 109) (isOut_of (j := 2) (by decide)) (wp (cCall (wp (cOut (wp (cCall (wp (cOut (wp (cCall (wp (wp (cFil (wp (cLog (wp (cKind (wp (cKind (wp (cKind (wp (wp (wp P 0 0 (some 1)) 0 1 (some 2)) 0 2 (some 3)) 4) 0 3 (some 4)) 28) 0 4 (some 28)) 52) 0 5 (some 52))) 0 6 (some 76))) 0 7 (some 84)) 0 8 (some 88)) 89) 2 0 (some 89)) 91) 3 0 (some 91)) 98) 2 1 (some 98)) 100) 3 1 (some 100)) 107) 2 2 (some 107)) (wr (wr (wr V 4 3 20) 28 3 50) 52 3 50)) rfl oX4_init rfl rfl iX4_init kX5_58 rfl (Nat.le_of_ble_eq_true rfl) ⟨Nat.le_of_ble_eq_true rfl, Nat.le_of_ble_eq_true rfl⟩ ⟨Nat.le_of_ble_eq_true rfl, Nat.le_of_ble_eq_true rfl⟩ dX5_init_129 ?_
  show Go mX5_init 132 [some (.ref 0), some (.int 2)] [.ref 109, .int 2, .ref 3] (116, TC, (cOut (wp (cCall (wp (cOut (wp (cCall (wp (cOut (wp (cCall (wp (wp (cFil (wp (cLog (wp (cKind (wp (cKind (wp (cKind (wp (wp (wp P 0 0 (some 1)) 0 1 (some 2)) 0 2 (some 3)) 4) 0 3 (some 4)) 28) 0 4 (some 28)) 52) 0 5 (some 52))) 0 6 (some 76))) 0 7 (some 84)) 0 8 (some 88)) 89) 2 0 (some 89)) 91) 3 0 (some 91)) 98) 2 1 (some 98)) 100) 3 1 (some 100)) 107) 2 2 (some 107)) 109), (wr (wr (wr V 4 3 20) 28 3 50) 52 3 50)) _ _ _ _
  refine go_astq (pc := 132) (t := 4) (ci := 4) (by decide) (show TC 3 = (4, 12) from rfl) (show TC 109 = (9, 3) from rfl) (vin (by decide)) dX5_init_132 ?_
  refine go_iinc (pc := 133) (v := 3) dX5_init_133 rfl (by decide) (Nat.le_of_ble_eq_true rfl) (L2 := [some (.ref 0), some (.int 3)]) rfl ?_
  refine go_goto (pc := 136) (tgt := 101) dX5_init_136 rfl ?_
  refine go_iload_n (pc := 101) dX5_init_101 rfl rfl ?_
  refine go_bipush (pc := 102) (v := 12) dX5_init_102 cb_12 ?_
  refine go_icmp_ge (pc := 104) (tgt := 139) dX5_init_104 rfl (fun c => absurd c (by decide)) (fun _ => ?_)
  refine go_aload_n (pc := 107) dX5_init_107 rfl rfl ?_
  refine go_getP (pc := 108) (a := 2) fX5_15 (by decide) (show TC 0 = (10, 13) from rfl) rfl dX5_init_108 ?_
  refine go_iload_n (pc := 111) dX5_init_111 rfl rfl ?_
  refine go_new (pc := 112) (N := 116) (ci := 0) nX5_13 (show TC 116 = (5, 12) from rfl) ⟨Nat.le_of_ble_eq_true rfl, Nat.le_of_ble_eq_true rfl⟩ dX5_init_112 ?_
  refine go_dup (pc := 115) dX5_init_115 ?_
  refine go_callI (pc := 116) (M1 := mX0_init) (As := []) (st := [.ref 116, .int 3, .ref 2]) (E_X0_init (o := 116) (isCall_of (j := 3) (by decide)) (wp (cOut (wp (cCall (wp (cOut (wp (cCall (wp (cOut (wp (cCall (wp (wp (cFil (wp (cLog (wp (cKind (wp (cKind (wp (cKind (wp (wp (wp P 0 0 (some 1)) 0 1 (some 2)) 0 2 (some 3)) 4) 0 3 (some 4)) 28) 0 4 (some 28)) 52) 0 5 (some 52))) 0 6 (some 76))) 0 7 (some 84)) 0 8 (some 88)) 89) 2 0 (some 89)) 91) 3 0 (some 91)) 98) 2 1 (some 98)) 100) 3 1 (some 100)) 107) 2 2 (some 107)) 109) 3 2 (some 109)) (wr (wr (wr V 4 3 20) 28 3 50) 52 3 50)) rfl oX0_init rfl rfl iX0_init kX5_57 rfl (Nat.le_of_ble_eq_true rfl) ⟨Nat.le_of_ble_eq_true rfl, Nat.le_of_ble_eq_true rfl⟩ ⟨Nat.le_of_ble_eq_true rfl, Nat.le_of_ble_eq_true rfl⟩ dX5_init_116 ?_
  show Go mX5_init 119 [some (.ref 0), some (.int 3)] [.ref 116, .int 3, .ref 2] (118, TC, (cCall (wp (cOut (wp (cCall (wp (cOut (wp (cCall (wp (cOut (wp (cCall (wp (wp (cFil (wp (cLog (wp (cKind (wp (cKind (wp (cKind (wp (wp (wp P 0 0 (some 1)) 0 1 (some 2)) 0 2 (some 3)) 4) 0 3 (some 4)) 28) 0 4 (some 28)) 52) 0 5 (some 52))) 0 6 (some 76))) 0 7 (some 84)) 0 8 (some 88)) 89) 2 0 (some 89)) 91) 3 0 (some 91)) 98) 2 1 (some 98)) 100) 3 1 (some 100)) 107) 2 2 (some 107)) 109) 3 2 (some 109)) 116), (wr (wr (wr V 4 3 20) 28 3 50) 52 3 50)) _ _ _ _
  refine go_astq (pc := 119) (t := 3) (ci := 0) (by decide) (show TC 2 = (3, 12) from rfl) (show TC 116 = (5, 12) from rfl) (vin (by decide)) dX5_init_119 ?_
  refine go_aload_n (pc := 120) dX5_init_120 rfl rfl ?_
  refine go_getP (pc := 121) (a := 3) fX5_21 (by decide) (show TC 0 = (10, 13) from rfl) rfl dX5_init_121 ?_
  refine go_iload_n (pc := 124) dX5_init_124 rfl rfl ?_
  refine go_new (pc := 125) (N := 118) (ci := 4) nX5_19 (show TC 118 = (9, 3) from rfl) ⟨Nat.le_of_ble_eq_true rfl, Nat.le_of_ble_eq_true rfl⟩ dX5_init_125 ?_
  refine go_dup (pc := 128) dX5_init_128 ?_
  refine go_callI (pc := 129) (M1 := mX4_init) (As := []) (st := [.ref 118, .int 3, .ref 3]) (E_X4_init (o := 118) (isOut_of (j := 3) (by decide)) (wp (cCall (wp (cOut (wp (cCall (wp (cOut (wp (cCall (wp (cOut (wp (cCall (wp (wp (cFil (wp (cLog (wp (cKind (wp (cKind (wp (cKind (wp (wp (wp P 0 0 (some 1)) 0 1 (some 2)) 0 2 (some 3)) 4) 0 3 (some 4)) 28) 0 4 (some 28)) 52) 0 5 (some 52))) 0 6 (some 76))) 0 7 (some 84)) 0 8 (some 88)) 89) 2 0 (some 89)) 91) 3 0 (some 91)) 98) 2 1 (some 98)) 100) 3 1 (some 100)) 107) 2 2 (some 107)) 109) 3 2 (some 109)) 116) 2 3 (some 116)) (wr (wr (wr V 4 3 20) 28 3 50) 52 3 50)) rfl oX4_init rfl rfl iX4_init kX5_58 rfl (Nat.le_of_ble_eq_true rfl) ⟨Nat.le_of_ble_eq_true rfl, Nat.le_of_ble_eq_true rfl⟩ ⟨Nat.le_of_ble_eq_true rfl, Nat.le_of_ble_eq_true rfl⟩ dX5_init_129 ?_
  show Go mX5_init 132 [some (.ref 0), some (.int 3)] [.ref 118, .int 3, .ref 3] (125, TC, (cOut (wp (cCall (wp (cOut (wp (cCall (wp (cOut (wp (cCall (wp (cOut (wp (cCall (wp (wp (cFil (wp (cLog (wp (cKind (wp (cKind (wp (cKind (wp (wp (wp P 0 0 (some 1)) 0 1 (some 2)) 0 2 (some 3)) 4) 0 3 (some 4)) 28) 0 4 (some 28)) 52) 0 5 (some 52))) 0 6 (some 76))) 0 7 (some 84)) 0 8 (some 88)) 89) 2 0 (some 89)) 91) 3 0 (some 91)) 98) 2 1 (some 98)) 100) 3 1 (some 100)) 107) 2 2 (some 107)) 109) 3 2 (some 109)) 116) 2 3 (some 116)) 118), (wr (wr (wr V 4 3 20) 28 3 50) 52 3 50)) _ _ _ _
  refine go_astq (pc := 132) (t := 4) (ci := 4) (by decide) (show TC 3 = (4, 12) from rfl) (show TC 118 = (9, 3) from rfl) (vin (by decide)) dX5_init_132 ?_
  refine go_iinc (pc := 133) (v := 4) dX5_init_133 rfl (by decide) (Nat.le_of_ble_eq_true rfl) (L2 := [some (.ref 0), some (.int 4)]) rfl ?_
  refine go_goto (pc := 136) (tgt := 101) dX5_init_136 rfl ?_
  refine go_iload_n (pc := 101) dX5_init_101 rfl rfl ?_
  refine go_bipush (pc := 102) (v := 12) dX5_init_102 cb_12 ?_
  refine go_icmp_ge (pc := 104) (tgt := 139) dX5_init_104 rfl (fun c => absurd c (by decide)) (fun _ => ?_)
  refine go_aload_n (pc := 107) dX5_init_107 rfl rfl ?_
  refine go_getP (pc := 108) (a := 2) fX5_15 (by decide) (show TC 0 = (10, 13) from rfl) rfl dX5_init_108 ?_
  refine go_iload_n (pc := 111) dX5_init_111 rfl rfl ?_
  refine go_new (pc := 112) (N := 125) (ci := 0) nX5_13 (show TC 125 = (5, 12) from rfl) ⟨Nat.le_of_ble_eq_true rfl, Nat.le_of_ble_eq_true rfl⟩ dX5_init_112 ?_
  refine go_dup (pc := 115) dX5_init_115 ?_
  refine go_callI (pc := 116) (M1 := mX0_init) (As := []) (st := [.ref 125, .int 4, .ref 2]) (E_X0_init (o := 125) (isCall_of (j := 4) (by decide)) (wp (cOut (wp (cCall (wp (cOut (wp (cCall (wp (cOut (wp (cCall (wp (cOut (wp (cCall (wp (wp (cFil (wp (cLog (wp (cKind (wp (cKind (wp (cKind (wp (wp (wp P 0 0 (some 1)) 0 1 (some 2)) 0 2 (some 3)) 4) 0 3 (some 4)) 28) 0 4 (some 28)) 52) 0 5 (some 52))) 0 6 (some 76))) 0 7 (some 84)) 0 8 (some 88)) 89) 2 0 (some 89)) 91) 3 0 (some 91)) 98) 2 1 (some 98)) 100) 3 1 (some 100)) 107) 2 2 (some 107)) 109) 3 2 (some 109)) 116) 2 3 (some 116)) 118) 3 3 (some 118)) (wr (wr (wr V 4 3 20) 28 3 50) 52 3 50)) rfl oX0_init rfl rfl iX0_init kX5_57 rfl (Nat.le_of_ble_eq_true rfl) ⟨Nat.le_of_ble_eq_true rfl, Nat.le_of_ble_eq_true rfl⟩ ⟨Nat.le_of_ble_eq_true rfl, Nat.le_of_ble_eq_true rfl⟩ dX5_init_116 ?_
  show Go mX5_init 119 [some (.ref 0), some (.int 4)] [.ref 125, .int 4, .ref 2] (127, TC, (cCall (wp (cOut (wp (cCall (wp (cOut (wp (cCall (wp (cOut (wp (cCall (wp (cOut (wp (cCall (wp (wp (cFil (wp (cLog (wp (cKind (wp (cKind (wp (cKind (wp (wp (wp P 0 0 (some 1)) 0 1 (some 2)) 0 2 (some 3)) 4) 0 3 (some 4)) 28) 0 4 (some 28)) 52) 0 5 (some 52))) 0 6 (some 76))) 0 7 (some 84)) 0 8 (some 88)) 89) 2 0 (some 89)) 91) 3 0 (some 91)) 98) 2 1 (some 98)) 100) 3 1 (some 100)) 107) 2 2 (some 107)) 109) 3 2 (some 109)) 116) 2 3 (some 116)) 118) 3 3 (some 118)) 125), (wr (wr (wr V 4 3 20) 28 3 50) 52 3 50)) _ _ _ _
  refine go_astq (pc := 119) (t := 3) (ci := 0) (by decide) (show TC 2 = (3, 12) from rfl) (show TC 125 = (5, 12) from rfl) (vin (by decide)) dX5_init_119 ?_
  refine go_aload_n (pc := 120) dX5_init_120 rfl rfl ?_
  refine go_getP (pc := 121) (a := 3) fX5_21 (by decide) (show TC 0 = (10, 13) from rfl) rfl dX5_init_121 ?_
  refine go_iload_n (pc := 124) dX5_init_124 rfl rfl ?_
  refine go_new (pc := 125) (N := 127) (ci := 4) nX5_19 (show TC 127 = (9, 3) from rfl) ⟨Nat.le_of_ble_eq_true rfl, Nat.le_of_ble_eq_true rfl⟩ dX5_init_125 ?_
  refine go_dup (pc := 128) dX5_init_128 ?_
  refine go_callI (pc := 129) (M1 := mX4_init) (As := []) (st := [.ref 127, .int 4, .ref 3]) (E_X4_init (o := 127) (isOut_of (j := 4) (by decide)) (wp (cCall (wp (cOut (wp (cCall (wp (cOut (wp (cCall (wp (cOut (wp (cCall (wp (cOut (wp (cCall (wp (wp (cFil (wp (cLog (wp (cKind (wp (cKind (wp (cKind (wp (wp (wp P 0 0 (some 1)) 0 1 (some 2)) 0 2 (some 3)) 4) 0 3 (some 4)) 28) 0 4 (some 28)) 52) 0 5 (some 52))) 0 6 (some 76))) 0 7 (some 84)) 0 8 (some 88)) 89) 2 0 (some 89)) 91) 3 0 (some 91)) 98) 2 1 (some 98)) 100) 3 1 (some 100)) 107) 2 2 (some 107)) 109) 3 2 (some 109)) 116) 2 3 (some 116)) 118) 3 3 (some 118)) 125) 2 4 (some 125)) (wr (wr (wr V 4 3 20) 28 3 50) 52 3 50)) rfl oX4_init rfl rfl iX4_init kX5_58 rfl (Nat.le_of_ble_eq_true rfl) ⟨Nat.le_of_ble_eq_true rfl, Nat.le_of_ble_eq_true rfl⟩ ⟨Nat.le_of_ble_eq_true rfl, Nat.le_of_ble_eq_true rfl⟩ dX5_init_129 ?_
  show Go mX5_init 132 [some (.ref 0), some (.int 4)] [.ref 127, .int 4, .ref 3] (134, TC, (cOut (wp (cCall (wp (cOut (wp (cCall (wp (cOut (wp (cCall (wp (cOut (wp (cCall (wp (cOut (wp (cCall (wp (wp (cFil (wp (cLog (wp (cKind (wp (cKind (wp (cKind (wp (wp (wp P 0 0 (some 1)) 0 1 (some 2)) 0 2 (some 3)) 4) 0 3 (some 4)) 28) 0 4 (some 28)) 52) 0 5 (some 52))) 0 6 (some 76))) 0 7 (some 84)) 0 8 (some 88)) 89) 2 0 (some 89)) 91) 3 0 (some 91)) 98) 2 1 (some 98)) 100) 3 1 (some 100)) 107) 2 2 (some 107)) 109) 3 2 (some 109)) 116) 2 3 (some 116)) 118) 3 3 (some 118)) 125) 2 4 (some 125)) 127), (wr (wr (wr V 4 3 20) 28 3 50) 52 3 50)) _ _ _ _
  refine go_astq (pc := 132) (t := 4) (ci := 4) (by decide) (show TC 3 = (4, 12) from rfl) (show TC 127 = (9, 3) from rfl) (vin (by decide)) dX5_init_132 ?_
  refine go_iinc (pc := 133) (v := 5) dX5_init_133 rfl (by decide) (Nat.le_of_ble_eq_true rfl) (L2 := [some (.ref 0), some (.int 5)]) rfl ?_
  refine go_goto (pc := 136) (tgt := 101) dX5_init_136 rfl ?_
  refine go_iload_n (pc := 101) dX5_init_101 rfl rfl ?_
  refine go_bipush (pc := 102) (v := 12) dX5_init_102 cb_12 ?_
  refine go_icmp_ge (pc := 104) (tgt := 139) dX5_init_104 rfl (fun c => absurd c (by decide)) (fun _ => ?_)
  refine go_aload_n (pc := 107) dX5_init_107 rfl rfl ?_
  refine go_getP (pc := 108) (a := 2) fX5_15 (by decide) (show TC 0 = (10, 13) from rfl) rfl dX5_init_108 ?_
  refine go_iload_n (pc := 111) dX5_init_111 rfl rfl ?_
  refine go_new (pc := 112) (N := 134) (ci := 0) nX5_13 (show TC 134 = (5, 12) from rfl) ⟨Nat.le_of_ble_eq_true rfl, Nat.le_of_ble_eq_true rfl⟩ dX5_init_112 ?_
  refine go_dup (pc := 115) dX5_init_115 ?_
  refine go_callI (pc := 116) (M1 := mX0_init) (As := []) (st := [.ref 134, .int 5, .ref 2]) (E_X0_init (o := 134) (isCall_of (j := 5) (by decide)) (wp (cOut (wp (cCall (wp (cOut (wp (cCall (wp (cOut (wp (cCall (wp (cOut (wp (cCall (wp (cOut (wp (cCall (wp (wp (cFil (wp (cLog (wp (cKind (wp (cKind (wp (cKind (wp (wp (wp P 0 0 (some 1)) 0 1 (some 2)) 0 2 (some 3)) 4) 0 3 (some 4)) 28) 0 4 (some 28)) 52) 0 5 (some 52))) 0 6 (some 76))) 0 7 (some 84)) 0 8 (some 88)) 89) 2 0 (some 89)) 91) 3 0 (some 91)) 98) 2 1 (some 98)) 100) 3 1 (some 100)) 107) 2 2 (some 107)) 109) 3 2 (some 109)) 116) 2 3 (some 116)) 118) 3 3 (some 118)) 125) 2 4 (some 125)) 127) 3 4 (some 127)) (wr (wr (wr V 4 3 20) 28 3 50) 52 3 50)) rfl oX0_init rfl rfl iX0_init kX5_57 rfl (Nat.le_of_ble_eq_true rfl) ⟨Nat.le_of_ble_eq_true rfl, Nat.le_of_ble_eq_true rfl⟩ ⟨Nat.le_of_ble_eq_true rfl, Nat.le_of_ble_eq_true rfl⟩ dX5_init_116 ?_
  show Go mX5_init 119 [some (.ref 0), some (.int 5)] [.ref 134, .int 5, .ref 2] (136, TC, (cCall (wp (cOut (wp (cCall (wp (cOut (wp (cCall (wp (cOut (wp (cCall (wp (cOut (wp (cCall (wp (cOut (wp (cCall (wp (wp (cFil (wp (cLog (wp (cKind (wp (cKind (wp (cKind (wp (wp (wp P 0 0 (some 1)) 0 1 (some 2)) 0 2 (some 3)) 4) 0 3 (some 4)) 28) 0 4 (some 28)) 52) 0 5 (some 52))) 0 6 (some 76))) 0 7 (some 84)) 0 8 (some 88)) 89) 2 0 (some 89)) 91) 3 0 (some 91)) 98) 2 1 (some 98)) 100) 3 1 (some 100)) 107) 2 2 (some 107)) 109) 3 2 (some 109)) 116) 2 3 (some 116)) 118) 3 3 (some 118)) 125) 2 4 (some 125)) 127) 3 4 (some 127)) 134), (wr (wr (wr V 4 3 20) 28 3 50) 52 3 50)) _ _ _ _
  refine go_astq (pc := 119) (t := 3) (ci := 0) (by decide) (show TC 2 = (3, 12) from rfl) (show TC 134 = (5, 12) from rfl) (vin (by decide)) dX5_init_119 ?_
  refine go_aload_n (pc := 120) dX5_init_120 rfl rfl ?_
  refine go_getP (pc := 121) (a := 3) fX5_21 (by decide) (show TC 0 = (10, 13) from rfl) rfl dX5_init_121 ?_
  refine go_iload_n (pc := 124) dX5_init_124 rfl rfl ?_
  refine go_new (pc := 125) (N := 136) (ci := 4) nX5_19 (show TC 136 = (9, 3) from rfl) ⟨Nat.le_of_ble_eq_true rfl, Nat.le_of_ble_eq_true rfl⟩ dX5_init_125 ?_
  refine go_dup (pc := 128) dX5_init_128 ?_
  refine go_callI (pc := 129) (M1 := mX4_init) (As := []) (st := [.ref 136, .int 5, .ref 3]) (E_X4_init (o := 136) (isOut_of (j := 5) (by decide)) (wp (cCall (wp (cOut (wp (cCall (wp (cOut (wp (cCall (wp (cOut (wp (cCall (wp (cOut (wp (cCall (wp (cOut (wp (cCall (wp (wp (cFil (wp (cLog (wp (cKind (wp (cKind (wp (cKind (wp (wp (wp P 0 0 (some 1)) 0 1 (some 2)) 0 2 (some 3)) 4) 0 3 (some 4)) 28) 0 4 (some 28)) 52) 0 5 (some 52))) 0 6 (some 76))) 0 7 (some 84)) 0 8 (some 88)) 89) 2 0 (some 89)) 91) 3 0 (some 91)) 98) 2 1 (some 98)) 100) 3 1 (some 100)) 107) 2 2 (some 107)) 109) 3 2 (some 109)) 116) 2 3 (some 116)) 118) 3 3 (some 118)) 125) 2 4 (some 125)) 127) 3 4 (some 127)) 134) 2 5 (some 134)) (wr (wr (wr V 4 3 20) 28 3 50) 52 3 50)) rfl oX4_init rfl rfl iX4_init kX5_58 rfl (Nat.le_of_ble_eq_true rfl) ⟨Nat.le_of_ble_eq_true rfl, Nat.le_of_ble_eq_true rfl⟩ ⟨Nat.le_of_ble_eq_true rfl, Nat.le_of_ble_eq_true rfl⟩ dX5_init_129 ?_
  show Go mX5_init 132 [some (.ref 0), some (.int 5)] [.ref 136, .int 5, .ref 3] (143, TC, (cOut (wp (cCall (wp (cOut (wp (cCall (wp (cOut (wp (cCall (wp (cOut (wp (cCall (wp (cOut (wp (cCall (wp (cOut (wp (cCall (wp (wp (cFil (wp (cLog (wp (cKind (wp (cKind (wp (cKind (wp (wp (wp P 0 0 (some 1)) 0 1 (some 2)) 0 2 (some 3)) 4) 0 3 (some 4)) 28) 0 4 (some 28)) 52) 0 5 (some 52))) 0 6 (some 76))) 0 7 (some 84)) 0 8 (some 88)) 89) 2 0 (some 89)) 91) 3 0 (some 91)) 98) 2 1 (some 98)) 100) 3 1 (some 100)) 107) 2 2 (some 107)) 109) 3 2 (some 109)) 116) 2 3 (some 116)) 118) 3 3 (some 118)) 125) 2 4 (some 125)) 127) 3 4 (some 127)) 134) 2 5 (some 134)) 136), (wr (wr (wr V 4 3 20) 28 3 50) 52 3 50)) _ _ _ _
  refine go_astq (pc := 132) (t := 4) (ci := 4) (by decide) (show TC 3 = (4, 12) from rfl) (show TC 136 = (9, 3) from rfl) (vin (by decide)) dX5_init_132 ?_
  refine go_iinc (pc := 133) (v := 6) dX5_init_133 rfl (by decide) (Nat.le_of_ble_eq_true rfl) (L2 := [some (.ref 0), some (.int 6)]) rfl ?_
  refine go_goto (pc := 136) (tgt := 101) dX5_init_136 rfl ?_
  refine go_iload_n (pc := 101) dX5_init_101 rfl rfl ?_
  refine go_bipush (pc := 102) (v := 12) dX5_init_102 cb_12 ?_
  refine go_icmp_ge (pc := 104) (tgt := 139) dX5_init_104 rfl (fun c => absurd c (by decide)) (fun _ => ?_)
  refine go_aload_n (pc := 107) dX5_init_107 rfl rfl ?_
  refine go_getP (pc := 108) (a := 2) fX5_15 (by decide) (show TC 0 = (10, 13) from rfl) rfl dX5_init_108 ?_
  refine go_iload_n (pc := 111) dX5_init_111 rfl rfl ?_
  refine go_new (pc := 112) (N := 143) (ci := 0) nX5_13 (show TC 143 = (5, 12) from rfl) ⟨Nat.le_of_ble_eq_true rfl, Nat.le_of_ble_eq_true rfl⟩ dX5_init_112 ?_
  refine go_dup (pc := 115) dX5_init_115 ?_
  refine go_callI (pc := 116) (M1 := mX0_init) (As := []) (st := [.ref 143, .int 6, .ref 2]) (E_X0_init (o := 143) (isCall_of (j := 6) (by decide)) (wp (cOut (wp (cCall (wp (cOut (wp (cCall (wp (cOut (wp (cCall (wp (cOut (wp (cCall (wp (cOut (wp (cCall (wp (cOut (wp (cCall (wp (wp (cFil (wp (cLog (wp (cKind (wp (cKind (wp (cKind (wp (wp (wp P 0 0 (some 1)) 0 1 (some 2)) 0 2 (some 3)) 4) 0 3 (some 4)) 28) 0 4 (some 28)) 52) 0 5 (some 52))) 0 6 (some 76))) 0 7 (some 84)) 0 8 (some 88)) 89) 2 0 (some 89)) 91) 3 0 (some 91)) 98) 2 1 (some 98)) 100) 3 1 (some 100)) 107) 2 2 (some 107)) 109) 3 2 (some 109)) 116) 2 3 (some 116)) 118) 3 3 (some 118)) 125) 2 4 (some 125)) 127) 3 4 (some 127)) 134) 2 5 (some 134)) 136) 3 5 (some 136)) (wr (wr (wr V 4 3 20) 28 3 50) 52 3 50)) rfl oX0_init rfl rfl iX0_init kX5_57 rfl (Nat.le_of_ble_eq_true rfl) ⟨Nat.le_of_ble_eq_true rfl, Nat.le_of_ble_eq_true rfl⟩ ⟨Nat.le_of_ble_eq_true rfl, Nat.le_of_ble_eq_true rfl⟩ dX5_init_116 ?_
  show Go mX5_init 119 [some (.ref 0), some (.int 6)] [.ref 143, .int 6, .ref 2] (145, TC, (cCall (wp (cOut (wp (cCall (wp (cOut (wp (cCall (wp (cOut (wp (cCall (wp (cOut (wp (cCall (wp (cOut (wp (cCall (wp (cOut (wp (cCall (wp (wp (cFil (wp (cLog (wp (cKind (wp (cKind (wp (cKind (wp (wp (wp P 0 0 (some 1)) 0 1 (some 2)) 0 2 (some 3)) 4) 0 3 (some 4)) 28) 0 4 (some 28)) 52) 0 5 (some 52))) 0 6 (some 76))) 0 7 (some 84)) 0 8 (some 88)) 89) 2 0 (some 89)) 91) 3 0 (some 91)) 98) 2 1 (some 98)) 100) 3 1 (some 100)) 107) 2 2 (some 107)) 109) 3 2 (some 109)) 116) 2 3 (some 116)) 118) 3 3 (some 118)) 125) 2 4 (some 125)) 127) 3 4 (some 127)) 134) 2 5 (some 134)) 136) 3 5 (some 136)) 143), (wr (wr (wr V 4 3 20) 28 3 50) 52 3 50)) _ _ _ _
  refine go_astq (pc := 119) (t := 3) (ci := 0) (by decide) (show TC 2 = (3, 12) from rfl) (show TC 143 = (5, 12) from rfl) (vin (by decide)) dX5_init_119 ?_
  refine go_aload_n (pc := 120) dX5_init_120 rfl rfl ?_
  refine go_getP (pc := 121) (a := 3) fX5_21 (by decide) (show TC 0 = (10, 13) from rfl) rfl dX5_init_121 ?_
  refine go_iload_n (pc := 124) dX5_init_124 rfl rfl ?_
  refine go_new (pc := 125) (N := 145) (ci := 4) nX5_19 (show TC 145 = (9, 3) from rfl) ⟨Nat.le_of_ble_eq_true rfl, Nat.le_of_ble_eq_true rfl⟩ dX5_init_125 ?_
  refine go_dup (pc := 128) dX5_init_128 ?_
  refine go_callI (pc := 129) (M1 := mX4_init) (As := []) (st := [.ref 145, .int 6, .ref 3]) (E_X4_init (o := 145) (isOut_of (j := 6) (by decide)) (wp (cCall (wp (cOut (wp (cCall (wp (cOut (wp (cCall (wp (cOut (wp (cCall (wp (cOut (wp (cCall (wp (cOut (wp (cCall (wp (cOut (wp (cCall (wp (wp (cFil (wp (cLog (wp (cKind (wp (cKind (wp (cKind (wp (wp (wp P 0 0 (some 1)) 0 1 (some 2)) 0 2 (some 3)) 4) 0 3 (some 4)) 28) 0 4 (some 28)) 52) 0 5 (some 52))) 0 6 (some 76))) 0 7 (some 84)) 0 8 (some 88)) 89) 2 0 (some 89)) 91) 3 0 (some 91)) 98) 2 1 (some 98)) 100) 3 1 (some 100)) 107) 2 2 (some 107)) 109) 3 2 (some 109)) 116) 2 3 (some 116)) 118) 3 3 (some 118)) 125) 2 4 (some 125)) 127) 3 4 (some 127)) 134) 2 5 (some 134)) 136) 3 5 (some 136)) 143) 2 6 (some 143)) (wr (wr (wr V 4 3 20) 28 3 50) 52 3 50)) rfl oX4_init rfl rfl iX4_init kX5_58 rfl (Nat.le_of_ble_eq_true rfl) ⟨Nat.le_of_ble_eq_true rfl, Nat.le_of_ble_eq_true rfl⟩ ⟨Nat.le_of_ble_eq_true rfl, Nat.le_of_ble_eq_true rfl⟩ dX5_init_129 ?_
  show Go mX5_init 132 [some (.ref 0), some (.int 6)] [.ref 145, .int 6, .ref 3] (152, TC, (cOut (wp (cCall (wp (cOut (wp (cCall (wp (cOut (wp (cCall (wp (cOut (wp (cCall (wp (cOut (wp (cCall (wp (cOut (wp (cCall (wp (cOut (wp (cCall (wp (wp (cFil (wp (cLog (wp (cKind (wp (cKind (wp (cKind (wp (wp (wp P 0 0 (some 1)) 0 1 (some 2)) 0 2 (some 3)) 4) 0 3 (some 4)) 28) 0 4 (some 28)) 52) 0 5 (some 52))) 0 6 (some 76))) 0 7 (some 84)) 0 8 (some 88)) 89) 2 0 (some 89)) 91) 3 0 (some 91)) 98) 2 1 (some 98)) 100) 3 1 (some 100)) 107) 2 2 (some 107)) 109) 3 2 (some 109)) 116) 2 3 (some 116)) 118) 3 3 (some 118)) 125) 2 4 (some 125)) 127) 3 4 (some 127)) 134) 2 5 (some 134)) 136) 3 5 (some 136)) 143) 2 6 (some 143)) 145), (wr (wr (wr V 4 3 20) 28 3 50) 52 3 50)) _ _ _ _
  refine go_astq (pc := 132) (t := 4) (ci := 4) (by decide) (show TC 3 = (4, 12) from rfl) (show TC 145 = (9, 3) from rfl) (vin (by decide)) dX5_init_132 ?_
  refine go_iinc (pc := 133) (v := 7) dX5_init_133 rfl (by decide) (Nat.le_of_ble_eq_true rfl) (L2 := [some (.ref 0), some (.int 7)]) rfl ?_
  refine go_goto (pc := 136) (tgt := 101) dX5_init_136 rfl ?_
  refine go_iload_n (pc := 101) dX5_init_101 rfl rfl ?_
  refine go_bipush (pc := 102) (v := 12) dX5_init_102 cb_12 ?_
  refine go_icmp_ge (pc := 104) (tgt := 139) dX5_init_104 rfl (fun c => absurd c (by decide)) (fun _ => ?_)
  refine go_aload_n (pc := 107) dX5_init_107 rfl rfl ?_
  refine go_getP (pc := 108) (a := 2) fX5_15 (by decide) (show TC 0 = (10, 13) from rfl) rfl dX5_init_108 ?_
  refine go_iload_n (pc := 111) dX5_init_111 rfl rfl ?_
  refine go_new (pc := 112) (N := 152) (ci := 0) nX5_13 (show TC 152 = (5, 12) from rfl) ⟨Nat.le_of_ble_eq_true rfl, Nat.le_of_ble_eq_true rfl⟩ dX5_init_112 ?_
  refine go_dup (pc := 115) dX5_init_115 ?_
  refine go_callI (pc := 116) (M1 := mX0_init) (As := []) (st := [.ref 152, .int 7, .ref 2]) (E_X0_init (o := 152) (isCall_of (j := 7) (by decide)) (wp (cOut (wp (cCall (wp (cOut (wp (cCall (wp (cOut (wp (cCall (wp (cOut (wp (cCall (wp (cOut (wp (cCall (wp (cOut (wp (cCall (wp (cOut (wp (cCall (wp (wp (cFil (wp (cLog (wp (cKind (wp (cKind (wp (cKind (wp (wp (wp P 0 0 (some 1)) 0 1 (some 2)) 0 2 (some 3)) 4) 0 3 (some 4)) 28) 0 4 (some 28)) 52) 0 5 (some 52))) 0 6 (some 76))) 0 7 (some 84)) 0 8 (some 88)) 89) 2 0 (some 89)) 91) 3 0 (some 91)) 98) 2 1 (some 98)) 100) 3 1 (some 100)) 107) 2 2 (some 107)) 109) 3 2 (some 109)) 116) 2 3 (some 116)) 118) 3 3 (some 118)) 125) 2 4 (some 125)) 127) 3 4 (some 127)) 134) 2 5 (some 134)) 136) 3 5 (some 136)) 143) 2 6 (some 143)) 145) 3 6 (some 145)) (wr (wr (wr V 4 3 20) 28 3 50) 52 3 50)) rfl oX0_init rfl rfl iX0_init kX5_57 rfl (Nat.le_of_ble_eq_true rfl) ⟨Nat.le_of_ble_eq_true rfl, Nat.le_of_ble_eq_true rfl⟩ ⟨Nat.le_of_ble_eq_true rfl, Nat.le_of_ble_eq_true rfl⟩ dX5_init_116 ?_
  show Go mX5_init 119 [some (.ref 0), some (.int 7)] [.ref 152, .int 7, .ref 2] (154, TC, (cCall (wp (cOut (wp (cCall (wp (cOut (wp (cCall (wp (cOut (wp (cCall (wp (cOut (wp (cCall (wp (cOut (wp (cCall (wp (cOut (wp (cCall (wp (cOut (wp (cCall (wp (wp (cFil (wp (cLog (wp (cKind (wp (cKind (wp (cKind (wp (wp (wp P 0 0 (some 1)) 0 1 (some 2)) 0 2 (some 3)) 4) 0 3 (some 4)) 28) 0 4 (some 28)) 52) 0 5 (some 52))) 0 6 (some 76))) 0 7 (some 84)) 0 8 (some 88)) 89) 2 0 (some 89)) 91) 3 0 (some 91)) 98) 2 1 (some 98)) 100) 3 1 (some 100)) 107) 2 2 (some 107)) 109) 3 2 (some 109)) 116) 2 3 (some 116)) 118) 3 3 (some 118)) 125) 2 4 (some 125)) 127) 3 4 (some 127)) 134) 2 5 (some 134)) 136) 3 5 (some 136)) 143) 2 6 (some 143)) 145) 3 6 (some 145)) 152), (wr (wr (wr V 4 3 20) 28 3 50) 52 3 50)) _ _ _ _
  refine go_astq (pc := 119) (t := 3) (ci := 0) (by decide) (show TC 2 = (3, 12) from rfl) (show TC 152 = (5, 12) from rfl) (vin (by decide)) dX5_init_119 ?_
  refine go_aload_n (pc := 120) dX5_init_120 rfl rfl ?_
  refine go_getP (pc := 121) (a := 3) fX5_21 (by decide) (show TC 0 = (10, 13) from rfl) rfl dX5_init_121 ?_
  refine go_iload_n (pc := 124) dX5_init_124 rfl rfl ?_
  refine go_new (pc := 125) (N := 154) (ci := 4) nX5_19 (show TC 154 = (9, 3) from rfl) ⟨Nat.le_of_ble_eq_true rfl, Nat.le_of_ble_eq_true rfl⟩ dX5_init_125 ?_
  refine go_dup (pc := 128) dX5_init_128 ?_
  refine go_callI (pc := 129) (M1 := mX4_init) (As := []) (st := [.ref 154, .int 7, .ref 3]) (E_X4_init (o := 154) (isOut_of (j := 7) (by decide)) (wp (cCall (wp (cOut (wp (cCall (wp (cOut (wp (cCall (wp (cOut (wp (cCall (wp (cOut (wp (cCall (wp (cOut (wp (cCall (wp (cOut (wp (cCall (wp (cOut (wp (cCall (wp (wp (cFil (wp (cLog (wp (cKind (wp (cKind (wp (cKind (wp (wp (wp P 0 0 (some 1)) 0 1 (some 2)) 0 2 (some 3)) 4) 0 3 (some 4)) 28) 0 4 (some 28)) 52) 0 5 (some 52))) 0 6 (some 76))) 0 7 (some 84)) 0 8 (some 88)) 89) 2 0 (some 89)) 91) 3 0 (some 91)) 98) 2 1 (some 98)) 100) 3 1 (some 100)) 107) 2 2 (some 107)) 109) 3 2 (some 109)) 116) 2 3 (some 116)) 118) 3 3 (some 118)) 125) 2 4 (some 125)) 127) 3 4 (some 127)) 134) 2 5 (some 134)) 136) 3 5 (some 136)) 143) 2 6 (some 143)) 145) 3 6 (some 145)) 152) 2 7 (some 152)) (wr (wr (wr V 4 3 20) 28 3 50) 52 3 50)) rfl oX4_init rfl rfl iX4_init kX5_58 rfl (Nat.le_of_ble_eq_true rfl) ⟨Nat.le_of_ble_eq_true rfl, Nat.le_of_ble_eq_true rfl⟩ ⟨Nat.le_of_ble_eq_true rfl, Nat.le_of_ble_eq_true rfl⟩ dX5_init_129 ?_
  show Go mX5_init 132 [some (.ref 0), some (.int 7)] [.ref 154, .int 7, .ref 3] (161, TC, (cOut (wp (cCall (wp (cOut (wp (cCall (wp (cOut (wp (cCall (wp (cOut (wp (cCall (wp (cOut (wp (cCall (wp (cOut (wp (cCall (wp (cOut (wp (cCall (wp (cOut (wp (cCall (wp (wp (cFil (wp (cLog (wp (cKind (wp (cKind (wp (cKind (wp (wp (wp P 0 0 (some 1)) 0 1 (some 2)) 0 2 (some 3)) 4) 0 3 (some 4)) 28) 0 4 (some 28)) 52) 0 5 (some 52))) 0 6 (some 76))) 0 7 (some 84)) 0 8 (some 88)) 89) 2 0 (some 89)) 91) 3 0 (some 91)) 98) 2 1 (some 98)) 100) 3 1 (some 100)) 107) 2 2 (some 107)) 109) 3 2 (some 109)) 116) 2 3 (some 116)) 118) 3 3 (some 118)) 125) 2 4 (some 125)) 127) 3 4 (some 127)) 134) 2 5 (some 134)) 136) 3 5 (some 136)) 143) 2 6 (some 143)) 145) 3 6 (some 145)) 152) 2 7 (some 152)) 154), (wr (wr (wr V 4 3 20) 28 3 50) 52 3 50)) _ _ _ _
  refine go_astq (pc := 132) (t := 4) (ci := 4) (by decide) (show TC 3 = (4, 12) from rfl) (show TC 154 = (9, 3) from rfl) (vin (by decide)) dX5_init_132 ?_
  refine go_iinc (pc := 133) (v := 8) dX5_init_133 rfl (by decide) (Nat.le_of_ble_eq_true rfl) (L2 := [some (.ref 0), some (.int 8)]) rfl ?_
  refine go_goto (pc := 136) (tgt := 101) dX5_init_136 rfl ?_
  refine go_iload_n (pc := 101) dX5_init_101 rfl rfl ?_
  refine go_bipush (pc := 102) (v := 12) dX5_init_102 cb_12 ?_
  refine go_icmp_ge (pc := 104) (tgt := 139) dX5_init_104 rfl (fun c => absurd c (by decide)) (fun _ => ?_)
  refine go_aload_n (pc := 107) dX5_init_107 rfl rfl ?_
  refine go_getP (pc := 108) (a := 2) fX5_15 (by decide) (show TC 0 = (10, 13) from rfl) rfl dX5_init_108 ?_
  refine go_iload_n (pc := 111) dX5_init_111 rfl rfl ?_
  refine go_new (pc := 112) (N := 161) (ci := 0) nX5_13 (show TC 161 = (5, 12) from rfl) ⟨Nat.le_of_ble_eq_true rfl, Nat.le_of_ble_eq_true rfl⟩ dX5_init_112 ?_
  refine go_dup (pc := 115) dX5_init_115 ?_
  refine go_callI (pc := 116) (M1 := mX0_init) (As := []) (st := [.ref 161, .int 8, .ref 2]) (E_X0_init (o := 161) (isCall_of (j := 8) (by decide)) (wp (cOut (wp (cCall (wp (cOut (wp (cCall (wp (cOut (wp (cCall (wp (cOut (wp (cCall (wp (cOut (wp (cCall (wp (cOut (wp (cCall (wp (cOut (wp (cCall (wp (cOut (wp (cCall (wp (wp (cFil (wp (cLog (wp (cKind (wp (cKind (wp (cKind (wp (wp (wp P 0 0 (some 1)) 0 1 (some 2)) 0 2 (some 3)) 4) 0 3 (some 4)) 28) 0 4 (some 28)) 52) 0 5 (some 52))) 0 6 (some 76))) 0 7 (some 84)) 0 8 (some 88)) 89) 2 0 (some 89)) 91) 3 0 (some 91)) 98) 2 1 (some 98)) 100) 3 1 (some 100)) 107) 2 2 (some 107)) 109) 3 2 (some 109)) 116) 2 3 (some 116)) 118) 3 3 (some 118)) 125) 2 4 (some 125)) 127) 3 4 (some 127)) 134) 2 5 (some 134)) 136) 3 5 (some 136)) 143) 2 6 (some 143)) 145) 3 6 (some 145)) 152) 2 7 (some 152)) 154) 3 7 (some 154)) (wr (wr (wr V 4 3 20) 28 3 50) 52 3 50)) rfl oX0_init rfl rfl iX0_init kX5_57 rfl (Nat.le_of_ble_eq_true rfl) ⟨Nat.le_of_ble_eq_true rfl, Nat.le_of_ble_eq_true rfl⟩ ⟨Nat.le_of_ble_eq_true rfl, Nat.le_of_ble_eq_true rfl⟩ dX5_init_116 ?_
  show Go mX5_init 119 [some (.ref 0), some (.int 8)] [.ref 161, .int 8, .ref 2] (163, TC, (cCall (wp (cOut (wp (cCall (wp (cOut (wp (cCall (wp (cOut (wp (cCall (wp (cOut (wp (cCall (wp (cOut (wp (cCall (wp (cOut (wp (cCall (wp (cOut (wp (cCall (wp (cOut (wp (cCall (wp (wp (cFil (wp (cLog (wp (cKind (wp (cKind (wp (cKind (wp (wp (wp P 0 0 (some 1)) 0 1 (some 2)) 0 2 (some 3)) 4) 0 3 (some 4)) 28) 0 4 (some 28)) 52) 0 5 (some 52))) 0 6 (some 76))) 0 7 (some 84)) 0 8 (some 88)) 89) 2 0 (some 89)) 91) 3 0 (some 91)) 98) 2 1 (some 98)) 100) 3 1 (some 100)) 107) 2 2 (some 107)) 109) 3 2 (some 109)) 116) 2 3 (some 116)) 118) 3 3 (some 118)) 125) 2 4 (some 125)) 127) 3 4 (some 127)) 134) 2 5 (some 134)) 136) 3 5 (some 136)) 143) 2 6 (some 143)) 145) 3 6 (some 145)) 152) 2 7 (some 152)) 154) 3 7 (some 154)) 161), (wr (wr (wr V 4 3 20) 28 3 50) 52 3 50)) _ _ _ _
  refine go_astq (pc := 119) (t := 3) (ci := 0) (by decide) (show TC 2 = (3, 12) from rfl) (show TC 161 = (5, 12) from rfl) (vin (by decide)) dX5_init_119 ?_
  refine go_aload_n (pc := 120) dX5_init_120 rfl rfl ?_
  refine go_getP (pc := 121) (a := 3) fX5_21 (by decide) (show TC 0 = (10, 13) from rfl) rfl dX5_init_121 ?_
  refine go_iload_n (pc := 124) dX5_init_124 rfl rfl ?_
  refine go_new (pc := 125) (N := 163) (ci := 4) nX5_19 (show TC 163 = (9, 3) from rfl) ⟨Nat.le_of_ble_eq_true rfl, Nat.le_of_ble_eq_true rfl⟩ dX5_init_125 ?_
  refine go_dup (pc := 128) dX5_init_128 ?_
  refine go_callI (pc := 129) (M1 := mX4_init) (As := []) (st := [.ref 163, .int 8, .ref 3]) (E_X4_init (o := 163) (isOut_of (j := 8) (by decide)) (wp (cCall (wp (cOut (wp (cCall (wp (cOut (wp (cCall (wp (cOut (wp (cCall (wp (cOut (wp (cCall (wp (cOut (wp (cCall (wp (cOut (wp (cCall (wp (cOut (wp (cCall (wp (cOut (wp (cCall (wp (wp (cFil (wp (cLog (wp (cKind (wp (cKind (wp (cKind (wp (wp (wp P 0 0 (some 1)) 0 1 (some 2)) 0 2 (some 3)) 4) 0 3 (some 4)) 28) 0 4 (some 28)) 52) 0 5 (some 52))) 0 6 (some 76))) 0 7 (some 84)) 0 8 (some 88)) 89) 2 0 (some 89)) 91) 3 0 (some 91)) 98) 2 1 (some 98)) 100) 3 1 (some 100)) 107) 2 2 (some 107)) 109) 3 2 (some 109)) 116) 2 3 (some 116)) 118) 3 3 (some 118)) 125) 2 4 (some 125)) 127) 3 4 (some 127)) 134) 2 5 (some 134)) 136) 3 5 (some 136)) 143) 2 6 (some 143)) 145) 3 6 (some 145)) 152) 2 7 (some 152)) 154) 3 7 (some 154)) 161) 2 8 (some 161)) (wr (wr (wr V 4 3 20) 28 3 50) 52 3 50)) rfl oX4_init rfl rfl iX4_init kX5_58 rfl (Nat.le_of_ble_eq_true rfl) ⟨Nat.le_of_ble_eq_true rfl, Nat.le_of_ble_eq_true rfl⟩ ⟨Nat.le_of_ble_eq_true rfl, Nat.le_of_ble_eq_true rfl⟩ dX5_init_129 ?_
  show Go mX5_init 132 [some (.ref 0), some (.int 8)] [.ref 163, .int 8, .ref 3] (170, TC, (cOut (wp (cCall (wp (cOut (wp (cCall (wp (cOut (wp (cCall (wp (cOut (wp (cCall (wp (cOut (wp (cCall (wp (cOut (wp (cCall (wp (cOut (wp (cCall (wp (cOut (wp (cCall (wp (cOut (wp (cCall (wp (wp (cFil (wp (cLog (wp (cKind (wp (cKind (wp (cKind (wp (wp (wp P 0 0 (some 1)) 0 1 (some 2)) 0 2 (some 3)) 4) 0 3 (some 4)) 28) 0 4 (some 28)) 52) 0 5 (some 52))) 0 6 (some 76))) 0 7 (some 84)) 0 8 (some 88)) 89) 2 0 (some 89)) 91) 3 0 (some 91)) 98) 2 1 (some 98)) 100) 3 1 (some 100)) 107) 2 2 (some 107)) 109) 3 2 (some 109)) 116) 2 3 (some 116)) 118) 3 3 (some 118)) 125) 2 4 (some 125)) 127) 3 4 (some 127)) 134) 2 5 (some 134)) 136) 3 5 (some 136)) 143) 2 6 (some 143)) 145) 3 6 (some 145)) 152) 2 7 (some 152)) 154) 3 7 (some 154)) 161) 2 8 (some 161)) 163), (wr (wr (wr V 4 3 20) 28 3 50) 52 3 50)) _ _ _ _
  refine go_astq (pc := 132) (t := 4) (ci := 4) (by decide) (show TC 3 = (4, 12) from rfl) (show TC 163 = (9, 3) from rfl) (vin (by decide)) dX5_init_132 ?_
  refine go_iinc (pc := 133) (v := 9) dX5_init_133 rfl (by decide) (Nat.le_of_ble_eq_true rfl) (L2 := [some (.ref 0), some (.int 9)]) rfl ?_
  refine go_goto (pc := 136) (tgt := 101) dX5_init_136 rfl ?_
  refine go_iload_n (pc := 101) dX5_init_101 rfl rfl ?_
  refine go_bipush (pc := 102) (v := 12) dX5_init_102 cb_12 ?_
  refine go_icmp_ge (pc := 104) (tgt := 139) dX5_init_104 rfl (fun c => absurd c (by decide)) (fun _ => ?_)
  refine go_aload_n (pc := 107) dX5_init_107 rfl rfl ?_
  refine go_getP (pc := 108) (a := 2) fX5_15 (by decide) (show TC 0 = (10, 13) from rfl) rfl dX5_init_108 ?_
  refine go_iload_n (pc := 111) dX5_init_111 rfl rfl ?_
  refine go_new (pc := 112) (N := 170) (ci := 0) nX5_13 (show TC 170 = (5, 12) from rfl) ⟨Nat.le_of_ble_eq_true rfl, Nat.le_of_ble_eq_true rfl⟩ dX5_init_112 ?_
  refine go_dup (pc := 115) dX5_init_115 ?_
  refine go_callI (pc := 116) (M1 := mX0_init) (As := []) (st := [.ref 170, .int 9, .ref 2]) (E_X0_init (o := 170) (isCall_of (j := 9) (by decide)) (wp (cOut (wp (cCall (wp (cOut (wp (cCall (wp (cOut (wp (cCall (wp (cOut (wp (cCall (wp (cOut (wp (cCall (wp (cOut (wp (cCall (wp (cOut (wp (cCall (wp (cOut (wp (cCall (wp (cOut (wp (cCall (wp (wp (cFil (wp (cLog (wp (cKind (wp (cKind (wp (cKind (wp (wp (wp P 0 0 (some 1)) 0 1 (some 2)) 0 2 (some 3)) 4) 0 3 (some 4)) 28) 0 4 (some 28)) 52) 0 5 (some 52))) 0 6 (some 76))) 0 7 (some 84)) 0 8 (some 88)) 89) 2 0 (some 89)) 91) 3 0 (some 91)) 98) 2 1 (some 98)) 100) 3 1 (some 100)) 107) 2 2 (some 107)) 109) 3 2 (some 109)) 116) 2 3 (some 116)) 118) 3 3 (some 118)) 125) 2 4 (some 125)) 127) 3 4 (some 127)) 134) 2 5 (some 134)) 136) 3 5 (some 136)) 143) 2 6 (some 143)) 145) 3 6 (some 145)) 152) 2 7 (some 152)) 154) 3 7 (some 154)) 161) 2 8 (some 161)) 163) 3 8 (some 163)) (wr (wr (wr V 4 3 20) 28 3 50) 52 3 50)) rfl oX0_init rfl rfl iX0_init kX5_57 rfl (Nat.le_of_ble_eq_true rfl) ⟨Nat.le_of_ble_eq_true rfl, Nat.le_of_ble_eq_true rfl⟩ ⟨Nat.le_of_ble_eq_true rfl, Nat.le_of_ble_eq_true rfl⟩ dX5_init_116 ?_
  show Go mX5_init 119 [some (.ref 0), some (.int 9)] [.ref 170, .int 9, .ref 2] (172, TC, (cCall (wp (cOut (wp (cCall (wp (cOut (wp (cCall (wp (cOut (wp (cCall (wp (cOut (wp (cCall (wp (cOut (wp (cCall (wp (cOut (wp (cCall (wp (cOut (wp (cCall (wp (cOut (wp (cCall (wp (cOut (wp (cCall (wp (wp (cFil (wp (cLog (wp (cKind (wp (cKind (wp (cKind (wp (wp (wp P 0 0 (some 1)) 0 1 (some 2)) 0 2 (some 3)) 4) 0 3 (some 4)) 28) 0 4 (some 28)) 52) 0 5 (some 52))) 0 6 (some 76))) 0 7 (some 84)) 0 8 (some 88)) 89) 2 0 (some 89)) 91) 3 0 (some 91)) 98) 2 1 (some 98)) 100) 3 1 (some 100)) 107) 2 2 (some 107)) 109) 3 2 (some 109)) 116) 2 3 (some 116)) 118) 3 3 (some 118)) 125) 2 4 (some 125)) 127) 3 4 (some 127)) 134) 2 5 (some 134)) 136) 3 5 (some 136)) 143) 2 6 (some 143)) 145) 3 6 (some 145)) 152) 2 7 (some 152)) 154) 3 7 (some 154)) 161) 2 8 (some 161)) 163) 3 8 (some 163)) 170), (wr (wr (wr V 4 3 20) 28 3 50) 52 3 50)) _ _ _ _
  refine go_astq (pc := 119) (t := 3) (ci := 0) (by decide) (show TC 2 = (3, 12) from rfl) (show TC 170 = (5, 12) from rfl) (vin (by decide)) dX5_init_119 ?_
  refine go_aload_n (pc := 120) dX5_init_120 rfl rfl ?_
  refine go_getP (pc := 121) (a := 3) fX5_21 (by decide) (show TC 0 = (10, 13) from rfl) rfl dX5_init_121 ?_
  refine go_iload_n (pc := 124) dX5_init_124 rfl rfl ?_
  refine go_new (pc := 125) (N := 172) (ci := 4) nX5_19 (show TC 172 = (9, 3) from rfl) ⟨Nat.le_of_ble_eq_true rfl, Nat.le_of_ble_eq_true rfl⟩ dX5_init_125 ?_
  refine go_dup (pc := 128) dX5_init_128 ?_
  refine go_callI (pc := 129) (M1 := mX4_init) (As := []) (st := [.ref 172, .int 9, .ref 3]) (E_X4_init (o := 172) (isOut_of (j := 9) (by decide)) (wp (cCall (wp (cOut (wp (cCall (wp (cOut (wp (cCall (wp (cOut (wp (cCall (wp (cOut (wp (cCall (wp (cOut (wp (cCall (wp (cOut (wp (cCall (wp (cOut (wp (cCall (wp (cOut (wp (cCall (wp (cOut (wp (cCall (wp (wp (cFil (wp (cLog (wp (cKind (wp (cKind (wp (cKind (wp (wp (wp P 0 0 (some 1)) 0 1 (some 2)) 0 2 (some 3)) 4) 0 3 (some 4)) 28) 0 4 (some 28)) 52) 0 5 (some 52))) 0 6 (some 76))) 0 7 (some 84)) 0 8 (some 88)) 89) 2 0 (some 89)) 91) 3 0 (some 91)) 98) 2 1 (some 98)) 100) 3 1 (some 100)) 107) 2 2 (some 107)) 109) 3 2 (some 109)) 116) 2 3 (some 116)) 118) 3 3 (some 118)) 125) 2 4 (some 125)) 127) 3 4 (some 127)) 134) 2 5 (some 134)) 136) 3 5 (some 136)) 143) 2 6 (some 143)) 145) 3 6 (some 145)) 152) 2 7 (some 152)) 154) 3 7 (some 154)) 161) 2 8 (some 161)) 163) 3 8 (some 163)) 170) 2 9 (some 170)) (wr (wr (wr V 4 3 20) 28 3 50) 52 3 50)) rfl oX4_init rfl rfl iX4_init kX5_58 rfl (Nat.le_of_ble_eq_true rfl) ⟨Nat.le_of_ble_eq_true rfl, Nat.le_of_ble_eq_true rfl⟩ ⟨Nat.le_of_ble_eq_true rfl, Nat.le_of_ble_eq_true rfl⟩ dX5_init_129 ?_
  show Go mX5_init 132 [some (.ref 0), some (.int 9)] [.ref 172, .int 9, .ref 3] (179, TC, (cOut (wp (cCall (wp (cOut (wp (cCall (wp (cOut (wp (cCall (wp (cOut (wp (cCall (wp (cOut (wp (cCall (wp (cOut (wp (cCall (wp (cOut (wp (cCall (wp (cOut (wp (cCall (wp (cOut (wp (cCall (wp (cOut (wp (cCall (wp (wp (cFil (wp (cLog (wp (cKind (wp (cKind (wp (cKind (wp (wp (wp P 0 0 (some 1)) 0 1 (some 2)) 0 2 (some 3)) 4) 0 3 (some 4)) 28) 0 4 (some 28)) 52) 0 5 (some 52))) 0 6 (some 76))) 0 7 (some 84)) 0 8 (some 88)) 89) 2 0 (some 89)) 91) 3 0 (some 91)) 98) 2 1 (some 98)) 100) 3 1 (some 100)) 107) 2 2 (some 107)) 109) 3 2 (some 109)) 116) 2 3 (some 116)) 118) 3 3 (some 118)) 125) 2 4 (some 125)) 127) 3 4 (some 127)) 134) 2 5 (some 134)) 136) 3 5 (some 136)) 143) 2 6 (some 143)) 145) 3 6 (some 145)) 152) 2 7 (some 152)) 154) 3 7 (some 154)) 161) 2 8 (some 161)) 163) 3 8 (some 163)) 170) 2 9 (some 170)) 172), (wr (wr (wr V 4 3 20) 28 3 50) 52 3 50)) _ _ _ _
  refine go_astq (pc := 132) (t := 4) (ci := 4) (by decide) (show TC 3 = (4, 12) from rfl) (show TC 172 = (9, 3) from rfl) (vin (by decide)) dX5_init_132 ?_
  refine go_iinc (pc := 133) (v := 10) dX5_init_133 rfl (by decide) (Nat.le_of_ble_eq_true rfl) (L2 := [some (.ref 0), some (.int 10)]) rfl ?_
  refine go_goto (pc := 136) (tgt := 101) dX5_init_136 rfl ?_
  refine go_iload_n (pc := 101) dX5_init_101 rfl rfl ?_
  refine go_bipush (pc := 102) (v := 12) dX5_init_102 cb_12 ?_
  refine go_icmp_ge (pc := 104) (tgt := 139) dX5_init_104 rfl (fun c => absurd c (by decide)) (fun _ => ?_)
  refine go_aload_n (pc := 107) dX5_init_107 rfl rfl ?_
  refine go_getP (pc := 108) (a := 2) fX5_15 (by decide) (show TC 0 = (10, 13) from rfl) rfl dX5_init_108 ?_
  refine go_iload_n (pc := 111) dX5_init_111 rfl rfl ?_
  refine go_new (pc := 112) (N := 179) (ci := 0) nX5_13 (show TC 179 = (5, 12) from rfl) ⟨Nat.le_of_ble_eq_true rfl, Nat.le_of_ble_eq_true rfl⟩ dX5_init_112 ?_
  refine go_dup (pc := 115) dX5_init_115 ?_
  refine go_callI (pc := 116) (M1 := mX0_init) (As := []) (st := [.ref 179, .int 10, .ref 2]) (E_X0_init (o := 179) (isCall_of (j := 10) (by decide)) (wp (cOut (wp (cCall (wp (cOut (wp (cCall (wp (cOut (wp (cCall (wp (cOut (wp (cCall (wp (cOut (wp (cCall (wp (cOut (wp (cCall (wp (cOut (wp (cCall (wp (cOut (wp (cCall (wp (cOut (wp (cCall (wp (cOut (wp (cCall (wp (wp (cFil (wp (cLog (wp (cKind (wp (cKind (wp (cKind (wp (wp (wp P 0 0 (some 1)) 0 1 (some 2)) 0 2 (some 3)) 4) 0 3 (some 4)) 28) 0 4 (some 28)) 52) 0 5 (some 52))) 0 6 (some 76))) 0 7 (some 84)) 0 8 (some 88)) 89) 2 0 (some 89)) 91) 3 0 (some 91)) 98) 2 1 (some 98)) 100) 3 1 (some 100)) 107) 2 2 (some 107)) 109) 3 2 (some 109)) 116) 2 3 (some 116)) 118) 3 3 (some 118)) 125) 2 4 (some 125)) 127) 3 4 (some 127)) 134) 2 5 (some 134)) 136) 3 5 (some 136)) 143) 2 6 (some 143)) 145) 3 6 (some 145)) 152) 2 7 (some 152)) 154) 3 7 (some 154)) 161) 2 8 (some 161)) 163) 3 8 (some 163)) 170) 2 9 (some 170)) 172) 3 9 (some 172)) (wr (wr (wr V 4 3 20) 28 3 50) 52 3 50)) rfl oX0_init rfl rfl iX0_init kX5_57 rfl (Nat.le_of_ble_eq_true rfl) ⟨Nat.le_of_ble_eq_true rfl, Nat.le_of_ble_eq_true rfl⟩ ⟨Nat.le_of_ble_eq_true rfl, Nat.le_of_ble_eq_true rfl⟩ dX5_init_116 ?_
  show Go mX5_init 119 [some (.ref 0), some (.int 10)] [.ref 179, .int 10, .ref 2] (181, TC, (cCall (wp (cOut (wp (cCall (wp (cOut (wp (cCall (wp (cOut (wp (cCall (wp (cOut (wp (cCall (wp (cOut (wp (cCall (wp (cOut (wp (cCall (wp (cOut (wp (cCall (wp (cOut (wp (cCall (wp (cOut (wp (cCall (wp (cOut (wp (cCall (wp (wp (cFil (wp (cLog (wp (cKind (wp (cKind (wp (cKind (wp (wp (wp P 0 0 (some 1)) 0 1 (some 2)) 0 2 (some 3)) 4) 0 3 (some 4)) 28) 0 4 (some 28)) 52) 0 5 (some 52))) 0 6 (some 76))) 0 7 (some 84)) 0 8 (some 88)) 89) 2 0 (some 89)) 91) 3 0 (some 91)) 98) 2 1 (some 98)) 100) 3 1 (some 100)) 107) 2 2 (some 107)) 109) 3 2 (some 109)) 116) 2 3 (some 116)) 118) 3 3 (some 118)) 125) 2 4 (some 125)) 127) 3 4 (some 127)) 134) 2 5 (some 134)) 136) 3 5 (some 136)) 143) 2 6 (some 143)) 145) 3 6 (some 145)) 152) 2 7 (some 152)) 154) 3 7 (some 154)) 161) 2 8 (some 161)) 163) 3 8 (some 163)) 170) 2 9 (some 170)) 172) 3 9 (some 172)) 179), (wr (wr (wr V 4 3 20) 28 3 50) 52 3 50)) _ _ _ _
  refine go_astq (pc := 119) (t := 3) (ci := 0) (by decide) (show TC 2 = (3, 12) from rfl) (show TC 179 = (5, 12) from rfl) (vin (by decide)) dX5_init_119 ?_
  refine go_aload_n (pc := 120) dX5_init_120 rfl rfl ?_
  refine go_getP (pc := 121) (a := 3) fX5_21 (by decide) (show TC 0 = (10, 13) from rfl) rfl dX5_init_121 ?_
  refine go_iload_n (pc := 124) dX5_init_124 rfl rfl ?_
  refine go_new (pc := 125) (N := 181) (ci := 4) nX5_19 (show TC 181 = (9, 3) from rfl) ⟨Nat.le_of_ble_eq_true rfl, Nat.le_of_ble_eq_true rfl⟩ dX5_init_125 ?_
  refine go_dup (pc := 128) dX5_init_128 ?_
  refine go_callI (pc := 129) (M1 := mX4_init) (As := []) (st := [.ref 181, .int 10, .ref 3]) (E_X4_init (o := 181) (isOut_of (j := 10) (by decide)) (wp (cCall (wp (cOut (wp (cCall (wp (cOut (wp (cCall (wp (cOut (wp (cCall (wp (cOut (wp (cCall (wp (cOut (wp (cCall (wp (cOut (wp (cCall (wp (cOut (wp (cCall (wp (cOut (wp (cCall (wp (cOut (wp (cCall (wp (cOut (wp (cCall (wp (wp (cFil (wp (cLog (wp (cKind (wp (cKind (wp (cKind (wp (wp (wp P 0 0 (some 1)) 0 1 (some 2)) 0 2 (some 3)) 4) 0 3 (some 4)) 28) 0 4 (some 28)) 52) 0 5 (some 52))) 0 6 (some 76))) 0 7 (some 84)) 0 8 (some 88)) 89) 2 0 (some 89)) 91) 3 0 (some 91)) 98) 2 1 (some 98)) 100) 3 1 (some 100)) 107) 2 2 (some 107)) 109) 3 2 (some 109)) 116) 2 3 (some 116)) 118) 3 3 (some 118)) 125) 2 4 (some 125)) 127) 3 4 (some 127)) 134) 2 5 (some 134)) 136) 3 5 (some 136)) 143) 2 6 (some 143)) 145) 3 6 (some 145)) 152) 2 7 (some 152)) 154) 3 7 (some 154)) 161) 2 8 (some 161)) 163) 3 8 (some 163)) 170) 2 9 (some 170)) 172) 3 9 (some 172)) 179) 2 10 (some 179)) (wr (wr (wr V 4 3 20) 28 3 50) 52 3 50)) rfl oX4_init rfl rfl iX4_init kX5_58 rfl (Nat.le_of_ble_eq_true rfl) ⟨Nat.le_of_ble_eq_true rfl, Nat.le_of_ble_eq_true rfl⟩ ⟨Nat.le_of_ble_eq_true rfl, Nat.le_of_ble_eq_true rfl⟩ dX5_init_129 ?_
  show Go mX5_init 132 [some (.ref 0), some (.int 10)] [.ref 181, .int 10, .ref 3] (188, TC, (cOut (wp (cCall (wp (cOut (wp (cCall (wp (cOut (wp (cCall (wp (cOut (wp (cCall (wp (cOut (wp (cCall (wp (cOut (wp (cCall (wp (cOut (wp (cCall (wp (cOut (wp (cCall (wp (cOut (wp (cCall (wp (cOut (wp (cCall (wp (cOut (wp (cCall (wp (wp (cFil (wp (cLog (wp (cKind (wp (cKind (wp (cKind (wp (wp (wp P 0 0 (some 1)) 0 1 (some 2)) 0 2 (some 3)) 4) 0 3 (some 4)) 28) 0 4 (some 28)) 52) 0 5 (some 52))) 0 6 (some 76))) 0 7 (some 84)) 0 8 (some 88)) 89) 2 0 (some 89)) 91) 3 0 (some 91)) 98) 2 1 (some 98)) 100) 3 1 (some 100)) 107) 2 2 (some 107)) 109) 3 2 (some 109)) 116) 2 3 (some 116)) 118) 3 3 (some 118)) 125) 2 4 (some 125)) 127) 3 4 (some 127)) 134) 2 5 (some 134)) 136) 3 5 (some 136)) 143) 2 6 (some 143)) 145) 3 6 (some 145)) 152) 2 7 (some 152)) 154) 3 7 (some 154)) 161) 2 8 (some 161)) 163) 3 8 (some 163)) 170) 2 9 (some 170)) 172) 3 9 (some 172)) 179) 2 10 (some 179)) 181), (wr (wr (wr V 4 3 20) 28 3 50) 52 3 50)) _ _ _ _
  refine go_astq (pc := 132) (t := 4) (ci := 4) (by decide) (show TC 3 = (4, 12) from rfl) (show TC 181 = (9, 3) from rfl) (vin (by decide)) dX5_init_132 ?_
  refine go_iinc (pc := 133) (v := 11) dX5_init_133 rfl (by decide) (Nat.le_of_ble_eq_true rfl) (L2 := [some (.ref 0), some (.int 11)]) rfl ?_
  refine go_goto (pc := 136) (tgt := 101) dX5_init_136 rfl ?_
  refine go_iload_n (pc := 101) dX5_init_101 rfl rfl ?_
  refine go_bipush (pc := 102) (v := 12) dX5_init_102 cb_12 ?_
  refine go_icmp_ge (pc := 104) (tgt := 139) dX5_init_104 rfl (fun c => absurd c (by decide)) (fun _ => ?_)
  refine go_aload_n (pc := 107) dX5_init_107 rfl rfl ?_
  refine go_getP (pc := 108) (a := 2) fX5_15 (by decide) (show TC 0 = (10, 13) from rfl) rfl dX5_init_108 ?_
  refine go_iload_n (pc := 111) dX5_init_111 rfl rfl ?_
  refine go_new (pc := 112) (N := 188) (ci := 0) nX5_13 (show TC 188 = (5, 12) from rfl) ⟨Nat.le_of_ble_eq_true rfl, Nat.le_of_ble_eq_true rfl⟩ dX5_init_112 ?_
  refine go_dup (pc := 115) dX5_init_115 ?_
  refine go_callI (pc := 116) (M1 := mX0_init) (As := []) (st := [.ref 188, .int 11, .ref 2]) (E_X0_init (o := 188) (isCall_of (j := 11) (by decide)) (wp (cOut (wp (cCall (wp (cOut (wp (cCall (wp (cOut (wp (cCall (wp (cOut (wp (cCall (wp (cOut (wp (cCall (wp (cOut (wp (cCall (wp (cOut (wp (cCall (wp (cOut (wp (cCall (wp (cOut (wp (cCall (wp (cOut (wp (cCall (wp (cOut (wp (cCall (wp (wp (cFil (wp (cLog (wp (cKind (wp (cKind (wp (cKind (wp (wp (wp P 0 0 (some 1)) 0 1 (some 2)) 0 2 (some 3)) 4) 0 3 (some 4)) 28) 0 4 (some 28)) 52) 0 5 (some 52))) 0 6 (some 76))) 0 7 (some 84)) 0 8 (some 88)) 89) 2 0 (some 89)) 91) 3 0 (some 91)) 98) 2 1 (some 98)) 100) 3 1 (some 100)) 107) 2 2 (some 107)) 109) 3 2 (some 109)) 116) 2 3 (some 116)) 118) 3 3 (some 118)) 125) 2 4 (some 125)) 127) 3 4 (some 127)) 134) 2 5 (some 134)) 136) 3 5 (some 136)) 143) 2 6 (some 143)) 145) 3 6 (some 145)) 152) 2 7 (some 152)) 154) 3 7 (some 154)) 161) 2 8 (some 161)) 163) 3 8 (some 163)) 170) 2 9 (some 170)) 172) 3 9 (some 172)) 179) 2 10 (some 179)) 181) 3 10 (some 181)) (wr (wr (wr V 4 3 20) 28 3 50) 52 3 50)) rfl oX0_init rfl rfl iX0_init kX5_57 rfl (Nat.le_of_ble_eq_true rfl) ⟨Nat.le_of_ble_eq_true rfl, Nat.le_of_ble_eq_true rfl⟩ ⟨Nat.le_of_ble_eq_true rfl, Nat.le_of_ble_eq_true rfl⟩ dX5_init_116 ?_
  show Go mX5_init 119 [some (.ref 0), some (.int 11)] [.ref 188, .int 11, .ref 2] (190, TC, (cCall (wp (cOut (wp (cCall (wp (cOut (wp (cCall (wp (cOut (wp (cCall (wp (cOut (wp (cCall (wp (cOut (wp (cCall (wp (cOut (wp (cCall (wp (cOut (wp (cCall (wp (cOut (wp (cCall (wp (cOut (wp (cCall (wp (cOut (wp (cCall (wp (cOut (wp (cCall (wp (wp (cFil (wp (cLog (wp (cKind (wp (cKind (wp (cKind (wp (wp (wp P 0 0 (some 1)) 0 1 (some 2)) 0 2 (some 3)) 4) 0 3 (some 4)) 28) 0 4 (some 28)) 52) 0 5 (some 52))) 0 6 (some 76))) 0 7 (some 84)) 0 8 (some 88)) 89) 2 0 (some 89)) 91) 3 0 (some 91)) 98) 2 1 (some 98)) 100) 3 1 (some 100)) 107) 2 2 (some 107)) 109) 3 2 (some 109)) 116) 2 3 (some 116)) 118) 3 3 (some 118)) 125) 2 4 (some 125)) 127) 3 4 (some 127)) 134) 2 5 (some 134)) 136) 3 5 (some 136)) 143) 2 6 (some 143)) 145) 3 6 (some 145)) 152) 2 7 (some 152)) 154) 3 7 (some 154)) 161) 2 8 (some 161)) 163) 3 8 (some 163)) 170) 2 9 (some 170)) 172) 3 9 (some 172)) 179) 2 10 (some 179)) 181) 3 10 (some 181)) 188), (wr (wr (wr V 4 3 20) 28 3 50) 52 3 50)) _ _ _ _
  refine go_astq (pc := 119) (t := 3) (ci := 0) (by decide) (show TC 2 = (3, 12) from rfl) (show TC 188 = (5, 12) from rfl) (vin (by decide)) dX5_init_119 ?_
  refine go_aload_n (pc := 120) dX5_init_120 rfl rfl ?_
  refine go_getP (pc := 121) (a := 3) fX5_21 (by decide) (show TC 0 = (10, 13) from rfl) rfl dX5_init_121 ?_
  refine go_iload_n (pc := 124) dX5_init_124 rfl rfl ?_
  refine go_new (pc := 125) (N := 190) (ci := 4) nX5_19 (show TC 190 = (9, 3) from rfl) ⟨Nat.le_of_ble_eq_true rfl, Nat.le_of_ble_eq_true rfl⟩ dX5_init_125 ?_
  refine go_dup (pc := 128) dX5_init_128 ?_
  refine go_callI (pc := 129) (M1 := mX4_init) (As := []) (st := [.ref 190, .int 11, .ref 3]) (E_X4_init (o := 190) (isOut_of (j := 11) (by decide)) (wp (cCall (wp (cOut (wp (cCall (wp (cOut (wp (cCall (wp (cOut (wp (cCall (wp (cOut (wp (cCall (wp (cOut (wp (cCall (wp (cOut (wp (cCall (wp (cOut (wp (cCall (wp (cOut (wp (cCall (wp (cOut (wp (cCall (wp (cOut (wp (cCall (wp (cOut (wp (cCall (wp (wp (cFil (wp (cLog (wp (cKind (wp (cKind (wp (cKind (wp (wp (wp P 0 0 (some 1)) 0 1 (some 2)) 0 2 (some 3)) 4) 0 3 (some 4)) 28) 0 4 (some 28)) 52) 0 5 (some 52))) 0 6 (some 76))) 0 7 (some 84)) 0 8 (some 88)) 89) 2 0 (some 89)) 91) 3 0 (some 91)) 98) 2 1 (some 98)) 100) 3 1 (some 100)) 107) 2 2 (some 107)) 109) 3 2 (some 109)) 116) 2 3 (some 116)) 118) 3 3 (some 118)) 125) 2 4 (some 125)) 127) 3 4 (some 127)) 134) 2 5 (some 134)) 136) 3 5 (some 136)) 143) 2 6 (some 143)) 145) 3 6 (some 145)) 152) 2 7 (some 152)) 154) 3 7 (some 154)) 161) 2 8 (some 161)) 163) 3 8 (some 163)) 170) 2 9 (some 170)) 172) 3 9 (some 172)) 179) 2 10 (some 179)) 181) 3 10 (some 181)) 188) 2 11 (some 188)) (wr (wr (wr V 4 3 20) 28 3 50) 52 3 50)) rfl oX4_init rfl rfl iX4_init kX5_58 rfl (Nat.le_of_ble_eq_true rfl) ⟨Nat.le_of_ble_eq_true rfl, Nat.le_of_ble_eq_true rfl⟩ ⟨Nat.le_of_ble_eq_true rfl, Nat.le_of_ble_eq_true rfl⟩ dX5_init_129 ?_
  show Go mX5_init 132 [some (.ref 0), some (.int 11)] [.ref 190, .int 11, .ref 3] (197, TC, (cOut (wp (cCall (wp (cOut (wp (cCall (wp (cOut (wp (cCall (wp (cOut (wp (cCall (wp (cOut (wp (cCall (wp (cOut (wp (cCall (wp (cOut (wp (cCall (wp (cOut (wp (cCall (wp (cOut (wp (cCall (wp (cOut (wp (cCall (wp (cOut (wp (cCall (wp (cOut (wp (cCall (wp (wp (cFil (wp (cLog (wp (cKind (wp (cKind (wp (cKind (wp (wp (wp P 0 0 (some 1)) 0 1 (some 2)) 0 2 (some 3)) 4) 0 3 (some 4)) 28) 0 4 (some 28)) 52) 0 5 (some 52))) 0 6 (some 76))) 0 7 (some 84)) 0 8 (some 88)) 89) 2 0 (some 89)) 91) 3 0 (some 91)) 98) 2 1 (some 98)) 100) 3 1 (some 100)) 107) 2 2 (some 107)) 109) 3 2 (some 109)) 116) 2 3 (some 116)) 118) 3 3 (some 118)) 125) 2 4 (some 125)) 127) 3 4 (some 127)) 134) 2 5 (some 134)) 136) 3 5 (some 136)) 143) 2 6 (some 143)) 145) 3 6 (some 145)) 152) 2 7 (some 152)) 154) 3 7 (some 154)) 161) 2 8 (some 161)) 163) 3 8 (some 163)) 170) 2 9 (some 170)) 172) 3 9 (some 172)) 179) 2 10 (some 179)) 181) 3 10 (some 181)) 188) 2 11 (some 188)) 190), (wr (wr (wr V 4 3 20) 28 3 50) 52 3 50)) _ _ _ _
  refine go_astq (pc := 132) (t := 4) (ci := 4) (by decide) (show TC 3 = (4, 12) from rfl) (show TC 190 = (9, 3) from rfl) (vin (by decide)) dX5_init_132 ?_
  refine go_iinc (pc := 133) (v := 12) dX5_init_133 rfl (by decide) (Nat.le_of_ble_eq_true rfl) (L2 := [some (.ref 0), some (.int 12)]) rfl ?_
  refine go_goto (pc := 136) (tgt := 101) dX5_init_136 rfl ?_
  refine go_iload_n (pc := 101) dX5_init_101 rfl rfl ?_
  refine go_bipush (pc := 102) (v := 12) dX5_init_102 cb_12 ?_
  refine go_icmp_ge (pc := 104) (tgt := 139) dX5_init_104 rfl (fun _ => ?_) (fun c => absurd (by decide) c)
  refine go_aload_n (pc := 139) dX5_init_139 rfl rfl ?_
  refine go_getP (pc := 140) (a := 1) fX5_9 (by decide) (show TC 0 = (10, 13) from rfl) rfl dX5_init_140 ?_
  refine go_iconst (pc := 143) (v := 1) dX5_init_143 ci_1 ?_
  refine go_sipush (pc := 144) (v := 1000) dX5_init_144 cs_1000 ?_
  refine go_iast (pc := 147) (show TC 1 = (0, 10) from rfl) (vin (by decide)) dX5_init_147 ?_
  refine go_aload_n (pc := 148) dX5_init_148 rfl rfl ?_
  refine go_getP (pc := 149) (a := 1) fX5_9 (by decide) (show TC 0 = (10, 13) from rfl) rfl dX5_init_149 ?_
  refine go_iconst (pc := 152) (v := 5) dX5_init_152 ci_5 ?_
  refine go_sipush (pc := 153) (v := 1000) dX5_init_153 cs_1000 ?_
  refine go_iast (pc := 156) (show TC 1 = (0, 10) from rfl) (vin (by decide)) dX5_init_156 ?_
  refine go_aload_n (pc := 157) dX5_init_157 rfl rfl ?_
  refine go_getP (pc := 158) (a := 1) fX5_9 (by decide) (show TC 0 = (10, 13) from rfl) rfl dX5_init_158 ?_
  refine go_bipush (pc := 161) (v := 6) dX5_init_161 cb_6 ?_
  refine go_sipush (pc := 163) (v := 1000) dX5_init_163 cs_1000 ?_
  refine go_iast (pc := 166) (show TC 1 = (0, 10) from rfl) (vin (by decide)) dX5_init_166 ?_
  exact go_vret (pc := 167) rfl ⟨Nat.le_of_ble_eq_true rfl, Nat.le_of_ble_eq_true rfl⟩ dX5_init_167
def cModel (P : Nat → Nat → Option Nat) : Nat → Nat → Option Nat := (wp (wp (wp (wp (wp (wp (wp (wp (wp (wp (wp (wp (wp (wp (wp (wp (wp (wp (wp (wp (wp (wp P 0 0 (some 1)) 0 1 (some 2)) 0 2 (some 3)) 0 3 (some 4)) 0 5 (some 5)) 0 6 (some 6)) 0 7 (some 7)) 0 10 (some 8)) 0 11 (some 9)) 0 12 (some 10)) 0 14 (some 11)) 0 15 (some 12)) 0 16 (some 13)) 0 17 (some 14)) 0 18 (some 15)) 0 19 (some 16)) 0 22 (some 17)) 0 23 (some 18)) 0 25 (some 19)) 0 26 (some 20)) 0 27 (some 21)) 0 28 (some 22))
set_option maxHeartbeats 4000000 in
set_option maxRecDepth 100000 in
theorem E_X6_init (P : Nat → Nat → Option Nat) (V : Mm) : Ev mX6_init [.ref 0] (1, TM, P, V) none (23, TM, (wp (wp (wp (wp (wp (wp (wp (wp (wp (wp (wp (wp (wp (wp (wp (wp (wp (wp (wp (wp (wp (wp P 0 0 (some 1)) 0 1 (some 2)) 0 2 (some 3)) 0 3 (some 4)) 0 5 (some 5)) 0 6 (some 6)) 0 7 (some 7)) 0 10 (some 8)) 0 11 (some 9)) 0 12 (some 10)) 0 14 (some 11)) 0 15 (some 12)) 0 16 (some 13)) 0 17 (some 14)) 0 18 (some 15)) 0 19 (some 16)) 0 22 (some 17)) 0 23 (some 18)) 0 25 (some 19)) 0 26 (some 20)) 0 27 (some 21)) 0 28 (some 22)), (wr (wr (wr (wr (wr (wr (wr (wr (wr (wr (wr (wr (wr (wr V 4 0 0) 4 1 1000) 4 2 0) 4 3 0) 4 4 0) 4 5 1000) 4 6 1000) 4 7 0) 4 8 0) 4 9 0) 0 8 (-9)) 15 0 0) 15 1 0) 15 2 0)) := by
  refine Ev.of (n := 0) oX6_init.1 (Nat.le_of_ble_eq_true rfl) ?_
  show Go mX6_init 0 [some (.ref 0)] [] (1, TM, P, V) 0 0 none (23, TM, (wp (wp (wp (wp (wp (wp (wp (wp (wp (wp (wp (wp (wp (wp (wp (wp (wp (wp (wp (wp (wp (wp P 0 0 (some 1)) 0 1 (some 2)) 0 2 (some 3)) 0 3 (some 4)) 0 5 (some 5)) 0 6 (some 6)) 0 7 (some 7)) 0 10 (some 8)) 0 11 (some 9)) 0 12 (some 10)) 0 14 (some 11)) 0 15 (some 12)) 0 16 (some 13)) 0 17 (some 14)) 0 18 (some 15)) 0 19 (some 16)) 0 22 (some 17)) 0 23 (some 18)) 0 25 (some 19)) 0 26 (some 20)) 0 27 (some 21)) 0 28 (some 22)), (wr (wr (wr (wr (wr (wr (wr (wr (wr (wr (wr (wr (wr (wr V 4 0 0) 4 1 1000) 4 2 0) 4 3 0) 4 4 0) 4 5 1000) 4 6 1000) 4 7 0) 4 8 0) 4 9 0) 0 8 (-9)) 15 0 0) 15 1 0) 15 2 0))
  refine go_aload_n (pc := 0) dX6_init_0 rfl rfl ?_
  refine go_objInit (pc := 1) ⟨kX6_1, wObj⟩ rfl ⟨Nat.le_of_ble_eq_true rfl, Nat.le_of_ble_eq_true rfl⟩ dX6_init_1 ?_
  refine go_aload_n (pc := 4) dX6_init_4 rfl rfl ?_
  refine go_sipush (pc := 5) (v := 586) dX6_init_5 cs_586 ?_
  refine go_newa (pc := 8) (N := 1) (n := 586) wArr_int (by decide) (by decide) (show TM 1 = (0, 586) from rfl) (by decide) ⟨Nat.le_of_ble_eq_true rfl, Nat.le_of_ble_eq_true rfl⟩ dX6_init_8 ?_
  refine go_putP (pc := 10) (k := 0) (idx := 7) fX6_7 (hnn_of nnX6_7) (by decide) ⟨by decide, rfl, rfl⟩ (show TM 0 = (11, 29) from rfl) dX6_init_10 ?_
  refine go_aload_n (pc := 13) dX6_init_13 rfl rfl ?_
  refine go_sipush (pc := 14) (v := 586) dX6_init_14 cs_586 ?_
  refine go_newa (pc := 17) (N := 2) (n := 586) wArr_int (by decide) (by decide) (show TM 2 = (0, 586) from rfl) (by decide) ⟨Nat.le_of_ble_eq_true rfl, Nat.le_of_ble_eq_true rfl⟩ dX6_init_17 ?_
  refine go_putP (pc := 19) (k := 1) (idx := 13) fX6_13 (hnn_of nnX6_13) (by decide) ⟨by decide, rfl, rfl⟩ (show TM 0 = (11, 29) from rfl) dX6_init_19 ?_
  refine go_aload_n (pc := 22) dX6_init_22 rfl rfl ?_
  refine go_sipush (pc := 23) (v := 586) dX6_init_23 cs_586 ?_
  refine go_newa (pc := 26) (N := 3) (n := 586) wArr_int (by decide) (by decide) (show TM 3 = (0, 586) from rfl) (by decide) ⟨Nat.le_of_ble_eq_true rfl, Nat.le_of_ble_eq_true rfl⟩ dX6_init_26 ?_
  refine go_putP (pc := 28) (k := 2) (idx := 16) fX6_16 (hnn_of nnX6_16) (by decide) ⟨by decide, rfl, rfl⟩ (show TM 0 = (11, 29) from rfl) dX6_init_28 ?_
  refine go_aload_n (pc := 31) dX6_init_31 rfl rfl ?_
  refine go_bipush (pc := 32) (v := 10) dX6_init_32 cb_10 ?_
  refine go_newa (pc := 34) (N := 4) (n := 10) wArr_int (by decide) (by decide) (show TM 4 = (0, 10) from rfl) (by decide) ⟨Nat.le_of_ble_eq_true rfl, Nat.le_of_ble_eq_true rfl⟩ dX6_init_34 ?_
  refine go_dup (pc := 36) dX6_init_36 ?_
  refine go_iconst (pc := 37) (v := 0) dX6_init_37 ci_0 ?_
  refine go_iconst (pc := 38) (v := 0) dX6_init_38 ci_0 ?_
  refine go_iast (pc := 39) (show TM 4 = (0, 10) from rfl) (vin (by decide)) dX6_init_39 ?_
  refine go_dup (pc := 40) dX6_init_40 ?_
  refine go_iconst (pc := 41) (v := 1) dX6_init_41 ci_1 ?_
  refine go_sipush (pc := 42) (v := 1000) dX6_init_42 cs_1000 ?_
  refine go_iast (pc := 45) (show TM 4 = (0, 10) from rfl) (vin (by decide)) dX6_init_45 ?_
  refine go_dup (pc := 46) dX6_init_46 ?_
  refine go_iconst (pc := 47) (v := 2) dX6_init_47 ci_2 ?_
  refine go_iconst (pc := 48) (v := 0) dX6_init_48 ci_0 ?_
  refine go_iast (pc := 49) (show TM 4 = (0, 10) from rfl) (vin (by decide)) dX6_init_49 ?_
  refine go_dup (pc := 50) dX6_init_50 ?_
  refine go_iconst (pc := 51) (v := 3) dX6_init_51 ci_3 ?_
  refine go_iconst (pc := 52) (v := 0) dX6_init_52 ci_0 ?_
  refine go_iast (pc := 53) (show TM 4 = (0, 10) from rfl) (vin (by decide)) dX6_init_53 ?_
  refine go_dup (pc := 54) dX6_init_54 ?_
  refine go_iconst (pc := 55) (v := 4) dX6_init_55 ci_4 ?_
  refine go_iconst (pc := 56) (v := 0) dX6_init_56 ci_0 ?_
  refine go_iast (pc := 57) (show TM 4 = (0, 10) from rfl) (vin (by decide)) dX6_init_57 ?_
  refine go_dup (pc := 58) dX6_init_58 ?_
  refine go_iconst (pc := 59) (v := 5) dX6_init_59 ci_5 ?_
  refine go_sipush (pc := 60) (v := 1000) dX6_init_60 cs_1000 ?_
  refine go_iast (pc := 63) (show TM 4 = (0, 10) from rfl) (vin (by decide)) dX6_init_63 ?_
  refine go_dup (pc := 64) dX6_init_64 ?_
  refine go_bipush (pc := 65) (v := 6) dX6_init_65 cb_6 ?_
  refine go_sipush (pc := 67) (v := 1000) dX6_init_67 cs_1000 ?_
  refine go_iast (pc := 70) (show TM 4 = (0, 10) from rfl) (vin (by decide)) dX6_init_70 ?_
  refine go_dup (pc := 71) dX6_init_71 ?_
  refine go_bipush (pc := 72) (v := 7) dX6_init_72 cb_7 ?_
  refine go_iconst (pc := 74) (v := 0) dX6_init_74 ci_0 ?_
  refine go_iast (pc := 75) (show TM 4 = (0, 10) from rfl) (vin (by decide)) dX6_init_75 ?_
  refine go_dup (pc := 76) dX6_init_76 ?_
  refine go_bipush (pc := 77) (v := 8) dX6_init_77 cb_8 ?_
  refine go_iconst (pc := 79) (v := 0) dX6_init_79 ci_0 ?_
  refine go_iast (pc := 80) (show TM 4 = (0, 10) from rfl) (vin (by decide)) dX6_init_80 ?_
  refine go_dup (pc := 81) dX6_init_81 ?_
  refine go_bipush (pc := 82) (v := 9) dX6_init_82 cb_9 ?_
  refine go_iconst (pc := 84) (v := 0) dX6_init_84 ci_0 ?_
  refine go_iast (pc := 85) (show TM 4 = (0, 10) from rfl) (vin (by decide)) dX6_init_85 ?_
  refine go_putP (pc := 86) (k := 3) (idx := 19) fX6_19 (hnn_of nnX6_19) (by decide) ⟨by decide, rfl, rfl⟩ (show TM 0 = (11, 29) from rfl) dX6_init_86 ?_
  refine go_aload_n (pc := 89) dX6_init_89 rfl rfl ?_
  refine go_bipush (pc := 90) (v := 12) dX6_init_90 cb_12 ?_
  refine go_newa (pc := 92) (N := 5) (n := 12) wArr_int (by decide) (by decide) (show TM 5 = (0, 12) from rfl) (by decide) ⟨Nat.le_of_ble_eq_true rfl, Nat.le_of_ble_eq_true rfl⟩ dX6_init_92 ?_
  refine go_putP (pc := 94) (k := 5) (idx := 22) fX6_22 (hnn_of nnX6_22) (by decide) ⟨by decide, rfl, rfl⟩ (show TM 0 = (11, 29) from rfl) dX6_init_94 ?_
  refine go_aload_n (pc := 97) dX6_init_97 rfl rfl ?_
  refine go_bipush (pc := 98) (v := 60) dX6_init_98 cb_60 ?_
  refine go_newa (pc := 100) (N := 6) (n := 60) wArr_int (by decide) (by decide) (show TM 6 = (0, 60) from rfl) (by decide) ⟨Nat.le_of_ble_eq_true rfl, Nat.le_of_ble_eq_true rfl⟩ dX6_init_100 ?_
  refine go_putP (pc := 102) (k := 6) (idx := 25) fX6_25 (hnn_of nnX6_25) (by decide) ⟨by decide, rfl, rfl⟩ (show TM 0 = (11, 29) from rfl) dX6_init_102 ?_
  refine go_aload_n (pc := 105) dX6_init_105 rfl rfl ?_
  refine go_bipush (pc := 106) (v := 120) dX6_init_106 cb_120 ?_
  refine go_newa (pc := 108) (N := 7) (n := 120) wArr_int (by decide) (by decide) (show TM 7 = (0, 120) from rfl) (by decide) ⟨Nat.le_of_ble_eq_true rfl, Nat.le_of_ble_eq_true rfl⟩ dX6_init_108 ?_
  refine go_putP (pc := 110) (k := 7) (idx := 28) fX6_28 (hnn_of nnX6_28) (by decide) ⟨by decide, rfl, rfl⟩ (show TM 0 = (11, 29) from rfl) dX6_init_110 ?_
  refine go_aload_n (pc := 113) dX6_init_113 rfl rfl ?_
  refine go_bipush (pc := 114) (v := (-9)) dX6_init_114 cb_m9 ?_
  refine go_putI (pc := 116) (k := 8) (idx := 31) fX6_31 (Or.inl rfl) (Or.inl rfl) (show TM 0 = (11, 29) from rfl) dX6_init_116 ?_
  refine go_aload_n (pc := 119) dX6_init_119 rfl rfl ?_
  refine go_bipush (pc := 120) (v := 12) dX6_init_120 cb_12 ?_
  refine go_newa (pc := 122) (N := 8) (n := 12) wArr_int (by decide) (by decide) (show TM 8 = (0, 12) from rfl) (by decide) ⟨Nat.le_of_ble_eq_true rfl, Nat.le_of_ble_eq_true rfl⟩ dX6_init_122 ?_
  refine go_putP (pc := 124) (k := 10) (idx := 35) fX6_35 (hnn_of nnX6_35) (by decide) ⟨by decide, rfl, rfl⟩ (show TM 0 = (11, 29) from rfl) dX6_init_124 ?_
  refine go_aload_n (pc := 127) dX6_init_127 rfl rfl ?_
  refine go_bipush (pc := 128) (v := 48) dX6_init_128 cb_48 ?_
  refine go_newa (pc := 130) (N := 9) (n := 48) wArr_int (by decide) (by decide) (show TM 9 = (0, 48) from rfl) (by decide) ⟨Nat.le_of_ble_eq_true rfl, Nat.le_of_ble_eq_true rfl⟩ dX6_init_130 ?_
  refine go_putP (pc := 132) (k := 11) (idx := 38) fX6_38 (hnn_of nnX6_38) (by decide) ⟨by decide, rfl, rfl⟩ (show TM 0 = (11, 29) from rfl) dX6_init_132 ?_
  refine go_aload_n (pc := 135) dX6_init_135 rfl rfl ?_
  refine go_sipush (pc := 136) (v := 2400) dX6_init_136 cs_2400 ?_
  refine go_newa (pc := 139) (N := 10) (n := 2400) wArr_int (by decide) (by decide) (show TM 10 = (0, 2400) from rfl) (by decide) ⟨Nat.le_of_ble_eq_true rfl, Nat.le_of_ble_eq_true rfl⟩ dX6_init_139 ?_
  refine go_putP (pc := 141) (k := 12) (idx := 41) fX6_41 (hnn_of nnX6_41) (by decide) ⟨by decide, rfl, rfl⟩ (show TM 0 = (11, 29) from rfl) dX6_init_141 ?_
  refine go_aload_n (pc := 144) dX6_init_144 rfl rfl ?_
  refine go_bipush (pc := 145) (v := 60) dX6_init_145 cb_60 ?_
  refine go_newa (pc := 147) (N := 11) (n := 60) wArr_int (by decide) (by decide) (show TM 11 = (0, 60) from rfl) (by decide) ⟨Nat.le_of_ble_eq_true rfl, Nat.le_of_ble_eq_true rfl⟩ dX6_init_147 ?_
  refine go_putP (pc := 149) (k := 14) (idx := 44) fX6_44 (hnn_of nnX6_44) (by decide) ⟨by decide, rfl, rfl⟩ (show TM 0 = (11, 29) from rfl) dX6_init_149 ?_
  refine go_aload_n (pc := 152) dX6_init_152 rfl rfl ?_
  refine go_bipush (pc := 153) (v := 60) dX6_init_153 cb_60 ?_
  refine go_newa (pc := 155) (N := 12) (n := 60) wArr_int (by decide) (by decide) (show TM 12 = (0, 60) from rfl) (by decide) ⟨Nat.le_of_ble_eq_true rfl, Nat.le_of_ble_eq_true rfl⟩ dX6_init_155 ?_
  refine go_putP (pc := 157) (k := 15) (idx := 47) fX6_47 (hnn_of nnX6_47) (by decide) ⟨by decide, rfl, rfl⟩ (show TM 0 = (11, 29) from rfl) dX6_init_157 ?_
  refine go_aload_n (pc := 160) dX6_init_160 rfl rfl ?_
  refine go_bipush (pc := 161) (v := 60) dX6_init_161 cb_60 ?_
  refine go_newa (pc := 163) (N := 13) (n := 60) wArr_int (by decide) (by decide) (show TM 13 = (0, 60) from rfl) (by decide) ⟨Nat.le_of_ble_eq_true rfl, Nat.le_of_ble_eq_true rfl⟩ dX6_init_163 ?_
  refine go_putP (pc := 165) (k := 16) (idx := 50) fX6_50 (hnn_of nnX6_50) (by decide) ⟨by decide, rfl, rfl⟩ (show TM 0 = (11, 29) from rfl) dX6_init_165 ?_
  refine go_aload_n (pc := 168) dX6_init_168 rfl rfl ?_
  refine go_bipush (pc := 169) (v := 60) dX6_init_169 cb_60 ?_
  refine go_newa (pc := 171) (N := 14) (n := 60) wArr_int (by decide) (by decide) (show TM 14 = (0, 60) from rfl) (by decide) ⟨Nat.le_of_ble_eq_true rfl, Nat.le_of_ble_eq_true rfl⟩ dX6_init_171 ?_
  refine go_putP (pc := 173) (k := 17) (idx := 53) fX6_53 (hnn_of nnX6_53) (by decide) ⟨by decide, rfl, rfl⟩ (show TM 0 = (11, 29) from rfl) dX6_init_173 ?_
  refine go_aload_n (pc := 176) dX6_init_176 rfl rfl ?_
  refine go_iconst (pc := 177) (v := 3) dX6_init_177 ci_3 ?_
  refine go_newa (pc := 178) (N := 15) (n := 3) wArr_int (by decide) (by decide) (show TM 15 = (0, 3) from rfl) (by decide) ⟨Nat.le_of_ble_eq_true rfl, Nat.le_of_ble_eq_true rfl⟩ dX6_init_178 ?_
  refine go_dup (pc := 180) dX6_init_180 ?_
  refine go_iconst (pc := 181) (v := 0) dX6_init_181 ci_0 ?_
  refine go_iconst (pc := 182) (v := 0) dX6_init_182 ci_0 ?_
  refine go_iast (pc := 183) (show TM 15 = (0, 3) from rfl) (vin (by decide)) dX6_init_183 ?_
  refine go_dup (pc := 184) dX6_init_184 ?_
  refine go_iconst (pc := 185) (v := 1) dX6_init_185 ci_1 ?_
  refine go_iconst (pc := 186) (v := 0) dX6_init_186 ci_0 ?_
  refine go_iast (pc := 187) (show TM 15 = (0, 3) from rfl) (vin (by decide)) dX6_init_187 ?_
  refine go_dup (pc := 188) dX6_init_188 ?_
  refine go_iconst (pc := 189) (v := 2) dX6_init_189 ci_2 ?_
  refine go_iconst (pc := 190) (v := 0) dX6_init_190 ci_0 ?_
  refine go_iast (pc := 191) (show TM 15 = (0, 3) from rfl) (vin (by decide)) dX6_init_191 ?_
  refine go_putP (pc := 192) (k := 18) (idx := 56) fX6_56 (hnn_of nnX6_56) (by decide) ⟨by decide, rfl, rfl⟩ (show TM 0 = (11, 29) from rfl) dX6_init_192 ?_
  refine go_aload_n (pc := 195) dX6_init_195 rfl rfl ?_
  refine go_bipush (pc := 196) (v := 50) dX6_init_196 cb_50 ?_
  refine go_newa (pc := 198) (N := 16) (n := 50) wArr_int (by decide) (by decide) (show TM 16 = (0, 50) from rfl) (by decide) ⟨Nat.le_of_ble_eq_true rfl, Nat.le_of_ble_eq_true rfl⟩ dX6_init_198 ?_
  refine go_putP (pc := 200) (k := 19) (idx := 59) fX6_59 (hnn_of nnX6_59) (by decide) ⟨by decide, rfl, rfl⟩ (show TM 0 = (11, 29) from rfl) dX6_init_200 ?_
  refine go_aload_n (pc := 203) dX6_init_203 rfl rfl ?_
  refine go_bipush (pc := 204) (v := 50) dX6_init_204 cb_50 ?_
  refine go_newa (pc := 206) (N := 17) (n := 50) wArr_int (by decide) (by decide) (show TM 17 = (0, 50) from rfl) (by decide) ⟨Nat.le_of_ble_eq_true rfl, Nat.le_of_ble_eq_true rfl⟩ dX6_init_206 ?_
  refine go_putP (pc := 208) (k := 22) (idx := 62) fX6_62 (hnn_of nnX6_62) (by decide) ⟨by decide, rfl, rfl⟩ (show TM 0 = (11, 29) from rfl) dX6_init_208 ?_
  refine go_aload_n (pc := 211) dX6_init_211 rfl rfl ?_
  refine go_sipush (pc := 212) (v := 244) dX6_init_212 cs_244 ?_
  refine go_newa (pc := 215) (N := 18) (n := 244) wArr_int (by decide) (by decide) (show TM 18 = (0, 244) from rfl) (by decide) ⟨Nat.le_of_ble_eq_true rfl, Nat.le_of_ble_eq_true rfl⟩ dX6_init_215 ?_
  refine go_putP (pc := 217) (k := 23) (idx := 65) fX6_65 (hnn_of nnX6_65) (by decide) ⟨by decide, rfl, rfl⟩ (show TM 0 = (11, 29) from rfl) dX6_init_217 ?_
  refine go_aload_n (pc := 220) dX6_init_220 rfl rfl ?_
  refine go_bipush (pc := 221) (v := 20) dX6_init_221 cb_20 ?_
  refine go_newa (pc := 223) (N := 19) (n := 20) wArr_int (by decide) (by decide) (show TM 19 = (0, 20) from rfl) (by decide) ⟨Nat.le_of_ble_eq_true rfl, Nat.le_of_ble_eq_true rfl⟩ dX6_init_223 ?_
  refine go_putP (pc := 225) (k := 25) (idx := 68) fX6_68 (hnn_of nnX6_68) (by decide) ⟨by decide, rfl, rfl⟩ (show TM 0 = (11, 29) from rfl) dX6_init_225 ?_
  refine go_aload_n (pc := 228) dX6_init_228 rfl rfl ?_
  refine go_bipush (pc := 229) (v := 20) dX6_init_229 cb_20 ?_
  refine go_newa (pc := 231) (N := 20) (n := 20) wArr_int (by decide) (by decide) (show TM 20 = (0, 20) from rfl) (by decide) ⟨Nat.le_of_ble_eq_true rfl, Nat.le_of_ble_eq_true rfl⟩ dX6_init_231 ?_
  refine go_putP (pc := 233) (k := 26) (idx := 71) fX6_71 (hnn_of nnX6_71) (by decide) ⟨by decide, rfl, rfl⟩ (show TM 0 = (11, 29) from rfl) dX6_init_233 ?_
  refine go_aload_n (pc := 236) dX6_init_236 rfl rfl ?_
  refine go_bipush (pc := 237) (v := 20) dX6_init_237 cb_20 ?_
  refine go_newa (pc := 239) (N := 21) (n := 20) wArr_int (by decide) (by decide) (show TM 21 = (0, 20) from rfl) (by decide) ⟨Nat.le_of_ble_eq_true rfl, Nat.le_of_ble_eq_true rfl⟩ dX6_init_239 ?_
  refine go_putP (pc := 241) (k := 27) (idx := 74) fX6_74 (hnn_of nnX6_74) (by decide) ⟨by decide, rfl, rfl⟩ (show TM 0 = (11, 29) from rfl) dX6_init_241 ?_
  refine go_aload_n (pc := 244) dX6_init_244 rfl rfl ?_
  refine go_bipush (pc := 245) (v := 20) dX6_init_245 cb_20 ?_
  refine go_newz (pc := 247) (N := 22) (n := 20) wArr_boolean (by decide) (by decide) (show TM 22 = (1, 20) from rfl) (by decide) ⟨Nat.le_of_ble_eq_true rfl, Nat.le_of_ble_eq_true rfl⟩ dX6_init_247 ?_
  refine go_putP (pc := 249) (k := 28) (idx := 77) fX6_77 (hnn_of nnX6_77) (by decide) ⟨by decide, rfl, rfl⟩ (show TM 0 = (11, 29) from rfl) dX6_init_249 ?_
  exact go_vret (pc := 252) rfl ⟨Nat.le_of_ble_eq_true rfl, Nat.le_of_ble_eq_true rfl⟩ dX6_init_252
