-- ===== end of PART A; then your names; then what follows =====
/-! THE CLAIM OUT OF ONE WALK OF THE LAW'S BODY. Your part is whole_start (and what it stands on); all else here is the same for every law, but numbers. -/
def R_law : String := "MailCoreLaw"
def lw_P (b : Addr) (xs : List Int32) (args : Array Value) (s : State) : Prop := args = #[.ref b] ∧ s.IntsAt b xs ∧ xs.length ≤ 3072 ∧ (Jvm.Cond.and given_1 narrow_1).before args s = true
def lw_Q (_ : Array Value) (s : State) (o : Outcome) (t : State) : Prop := o = .returned (some (.int 1)) ∧ Framed s o t [] 600000 7302249
def lw_Z (below : List Frame) (a : Array Value) (s : State) : State → Prop := fun t => ∃ o, t.status = .running ∧ Ended t below o ∧ lw_Q a s o t
/-- the law's own end, with 1 on the stack, nothing written that was there before, its room as the claim has it -/
theorem lw_ret {p : Program} {l : Launch} {e : Env} {s : State} {m : MethodId} {below : List Frame} {meth : Method} {c : Code} {b : Nat} (hx : p.tables.exec = Jvm.exec) (hb : c.code = code) (hr : meth.sig.returnType = ret) (hlocks : meth.locks = false) {pc : Nat} {H : Heap} {ls : Array Slot} (hdg : decode code pc = .ok (.ireturn, 1)) : W p l e room_1 s m #[Value.ref b] below meth c H [] 600000 7302249 (lw_Z below #[Value.ref b] s) (F0 m pc ls [.int 1]) := by
  intro T hT X
  obtain ⟨fs, hret, hrun, hended, hW, hframe⟩ := X.leave (v := some (.int 1)) (hlocks := hlocks) (fun h => by rw [hr] at h; cases h)
  have hmeth' : T.vm.method? m = some meth := X.method'
  refine ⟨T.setFrames fs, ?_, .returned (some (.int 1)), hrun, hended, rfl, ⟨_, rfl⟩, hW, hframe⟩
  jvm_step X.here [X.here.top, hx, hb, hdg, hmeth', hr, ret, narrow_b1]
  (try refine ⟨rfl, ?_⟩); (try refine ⟨rfl, ?_⟩)
  first | (intro acts; rw [hret _ acts rfl rfl rfl]) | rw [hret _ _ rfl rfl rfl]
  exact Steps.refl _
/-- what holds at the law's entry: the machine, the code, the tables' words (any of lw_tbl by 'hts w (by decide +kernel)'), the script of L ints xs at the cell b, what the Statement gives of the start (any of its parts by flat_of_before) -/
def lw_At (p : Program) (s : State) (m : MethodId) (meth : Method) (c : Code) (b L : Nat) (xs : Nat → Int32) : Prop :=
  p.tables.exec = Jvm.exec ∧ c.code = code ∧ meth.sig.returnType = ret ∧ c.maxLocals = 4 ∧ s.vm.findClass R_law = some m.cls ∧ (∀ w ∈ lw_tbl, w.before #[Value.ref b] s = true) ∧ va_X b L xs s s.heap ∧ b < s.heap.size ∧ meth.locks = false ∧ (Jvm.Cond.and given_1 narrow_1).before #[Value.ref b] s = true
theorem kL_9 : Cond.methodLink RL 9 yX5_init ∈ gw := gw_of (List.mem_of_getElem? (i := 129) (by decide +kernel)) rfl
theorem kL_12 : Cond.methodLink RL 12 yX6_init ∈ gw := gw_of (List.mem_of_getElem? (i := 741) (by decide +kernel)) rfl
theorem kL_13 : Cond.methodLink RL 13 yX5_draft ∈ gw := gw_of (List.mem_of_getElem? (i := 332) (by decide +kernel)) rfl
theorem kL_17 : Cond.methodLink RL 17 yX6_draft ∈ gw := gw_of (List.mem_of_getElem? (i := 834) (by decide +kernel)) rfl
theorem kL_18 : Cond.methodLink RL 18 yX5_get ∈ gw := gw_of (List.mem_of_getElem? (i := 336) (by decide +kernel)) rfl
theorem kL_22 : Cond.methodLink RL 22 yX6_get ∈ gw := gw_of (List.mem_of_getElem? (i := 841) (by decide +kernel)) rfl
theorem kL_23 : Cond.methodLink RL 23 yX5_query ∈ gw := gw_of (List.mem_of_getElem? (i := 348) (by decide +kernel)) rfl
theorem kL_27 : Cond.methodLink RL 27 yX6_query ∈ gw := gw_of (List.mem_of_getElem? (i := 849) (by decide +kernel)) rfl
theorem kL_28 : Cond.methodLink RL 28 yX5_changes ∈ gw := gw_of (List.mem_of_getElem? (i := 352) (by decide +kernel)) rfl
theorem kL_31 : Cond.methodLink RL 31 yX6_changes ∈ gw := gw_of (List.mem_of_getElem? (i := 853) (by decide +kernel)) rfl
theorem kL_32 : Cond.methodLink RL 32 yX5_make ∈ gw := gw_of (List.mem_of_getElem? (i := 356) (by decide +kernel)) rfl
theorem kL_35 : Cond.methodLink RL 35 yX6_make ∈ gw := gw_of (List.mem_of_getElem? (i := 857) (by decide +kernel)) rfl
theorem kL_36 : Cond.methodLink RL 36 yX5_change ∈ gw := gw_of (List.mem_of_getElem? (i := 363) (by decide +kernel)) rfl
theorem kL_40 : Cond.methodLink RL 40 yX6_change ∈ gw := gw_of (List.mem_of_getElem? (i := 861) (by decide +kernel)) rfl
theorem kL_41 : Cond.methodLink RL 41 yX5_destroy ∈ gw := gw_of (List.mem_of_getElem? (i := 367) (by decide +kernel)) rfl
theorem kL_44 : Cond.methodLink RL 44 yX6_destroy ∈ gw := gw_of (List.mem_of_getElem? (i := 865) (by decide +kernel)) rfl
theorem kL_45 : Cond.methodLink RL 45 yX5_crash ∈ gw := gw_of (List.mem_of_getElem? (i := 371) (by decide +kernel)) rfl
theorem kL_49 : Cond.methodLink RL 49 yX6_crash ∈ gw := gw_of (List.mem_of_getElem? (i := 869) (by decide +kernel)) rfl
theorem kL_50 : Cond.methodLink RL 50 yX5_run ∈ gw := gw_of (List.mem_of_getElem? (i := 375) (by decide +kernel)) rfl
theorem kL_54 : Cond.methodLink RL 54 yX6_run ∈ gw := gw_of (List.mem_of_getElem? (i := 877) (by decide +kernel)) rfl
theorem kL_55 : Cond.methodLink RL 55 yX5_drop ∈ gw := gw_of (List.mem_of_getElem? (i := 667) (by decide +kernel)) rfl
theorem kL_58 : Cond.methodLink RL 58 yX6_drop ∈ gw := gw_of (List.mem_of_getElem? (i := 873) (by decide +kernel)) rfl
theorem kL_59 : Cond.methodLink RL 59 yX5_status ∈ gw := gw_of (List.mem_of_getElem? (i := 671) (by decide +kernel)) rfl
theorem kL_62 : Cond.methodLink RL 62 yX6_status ∈ gw := gw_of (List.mem_of_getElem? (i := 1078) (by decide +kernel)) rfl
theorem kL_63 : Cond.methodLink RL 63 yX5_many ∈ gw := gw_of (List.mem_of_getElem? (i := 675) (by decide +kernel)) rfl
theorem kL_66 : Cond.methodLink RL 66 yX6_many ∈ gw := gw_of (List.mem_of_getElem? (i := 1086) (by decide +kernel)) rfl
theorem kL_67 : Cond.methodLink RL 67 yX5_given ∈ gw := gw_of (List.mem_of_getElem? (i := 679) (by decide +kernel)) rfl
theorem kL_70 : Cond.methodLink RL 70 yX6_given ∈ gw := gw_of (List.mem_of_getElem? (i := 1090) (by decide +kernel)) rfl
theorem kL_71 : Cond.methodLink RL 71 yX5_state ∈ gw := gw_of (List.mem_of_getElem? (i := 683) (by decide +kernel)) rfl
theorem kL_74 : Cond.methodLink RL 74 yX6_state ∈ gw := gw_of (List.mem_of_getElem? (i := 1094) (by decide +kernel)) rfl
theorem kL_75 : Cond.methodLink RL 75 yX5_told ∈ gw := gw_of (List.mem_of_getElem? (i := 687) (by decide +kernel)) rfl
theorem kL_78 : Cond.methodLink RL 78 yX6_told ∈ gw := gw_of (List.mem_of_getElem? (i := 1098) (by decide +kernel)) rfl
theorem kL_79 : Cond.methodLink RL 79 yX5_box ∈ gw := gw_of (List.mem_of_getElem? (i := 696) (by decide +kernel)) rfl
theorem kL_82 : Cond.methodLink RL 82 yX6_box ∈ gw := gw_of (List.mem_of_getElem? (i := 1106) (by decide +kernel)) rfl
theorem kL_83 : Cond.methodLink RL 83 yX5_mail ∈ gw := gw_of (List.mem_of_getElem? (i := 700) (by decide +kernel)) rfl
theorem kL_86 : Cond.methodLink RL 86 yX6_mail ∈ gw := gw_of (List.mem_of_getElem? (i := 1110) (by decide +kernel)) rfl
theorem kL_87 : Cond.methodLink RL 87 yX5_thread ∈ gw := gw_of (List.mem_of_getElem? (i := 710) (by decide +kernel)) rfl
theorem kL_90 : Cond.methodLink RL 90 yX6_thread ∈ gw := gw_of (List.mem_of_getElem? (i := 1114) (by decide +kernel)) rfl
theorem kL_91 : Cond.methodLink RL 91 yX5_entry ∈ gw := gw_of (List.mem_of_getElem? (i := 718) (by decide +kernel)) rfl
theorem kL_94 : Cond.methodLink RL 94 yX6_entry ∈ gw := gw_of (List.mem_of_getElem? (i := 1118) (by decide +kernel)) rfl
theorem kL_95 : Cond.methodLink RL 95 yX5_filter ∈ gw := gw_of (List.mem_of_getElem? (i := 723) (by decide +kernel)) rfl
theorem kL_98 : Cond.methodLink RL 98 yX6_filter ∈ gw := gw_of (List.mem_of_getElem? (i := 1122) (by decide +kernel)) rfl
theorem kL_99 : Cond.methodLink RL 99 yX5_fits ∈ gw := gw_of (List.mem_of_getElem? (i := 735) (by decide +kernel)) rfl
theorem kL_102 : Cond.methodLink RL 102 yX6_fits ∈ gw := gw_of (List.mem_of_getElem? (i := 1126) (by decide +kernel)) rfl
def Sim2 (R : Nat → Mm → Mm → Prop) (k : Nat) (Vc Vm : Mm) (f g : Mm → Option (Int32 × Mm)) : Prop := ∃ (r : Int32) (Vc2 Vm2 : Mm), f Vc = some (r, Vc2) ∧ g Vm = some (r, Vm2) ∧ R (k + 1) Vc2 Vm2
def Sim1 (R : Nat → Mm → Mm → Prop) (k : Nat) (Vc Vm : Mm) (f g : Mm → Option Int32) : Prop := ∃ r : Int32, f Vc = some r ∧ g Vm = some r ∧ R (k + 1) Vc Vm
def Sim3 (R : Nat → Mm → Mm → Prop) (k : Nat) (Vc Vm : Mm) (f : Mm → Option Int32) (g : Mm → Option (Int32 × Mm)) : Prop := ∃ (r : Int32) (Vm2 : Mm), f Vc = some r ∧ g Vm = some (r, Vm2) ∧ R (k + 1) Vc Vm2
/-- every public call: the same answer, and the relation kept -/
def Sims (R : Nat → Mm → Mm → Prop) : Prop := ∀ (k : Nat) (Vc Vm : Mm), k < 512 → R k Vc Vm →
  (∀ a1 a2 : Int32, Sim2 R k Vc Vm (eX5_draft a1 a2) (eX6_draft a1 a2)) ∧
  (∀ a1 a2 a3 : Int32, Sim2 R k Vc Vm (eX5_get a1 a2 a3) (eX6_get a1 a2 a3)) ∧
  (∀ a1 a2 a3 a4 : Int32, Sim2 R k Vc Vm (eX5_query a1 a2 a3 a4) (eX6_query a1 a2 a3 a4)) ∧
  (∀ a1 a2 a3 : Int32, Sim2 R k Vc Vm (eX5_changes a1 a2 a3) (eX6_changes a1 a2 a3)) ∧
  (∀ a1 a2 : Int32, Sim2 R k Vc Vm (eX5_make a1 a2) (eX6_make a1 a2)) ∧
  (∀ a1 a2 a3 a4 a5 : Int32, Sim2 R k Vc Vm (eX5_change a1 a2 a3 a4 a5) (eX6_change a1 a2 a3 a4 a5)) ∧
  (∀ a1 a2 a3 : Int32, Sim2 R k Vc Vm (eX5_destroy a1 a2 a3) (eX6_destroy a1 a2 a3)) ∧
  (∀ a1 : Int32, Sim2 R k Vc Vm (eX5_crash a1) (eX6_crash a1)) ∧
  (Sim2 R k Vc Vm (eX5_run) (eX6_run)) ∧
  (Sim2 R k Vc Vm (eX5_drop) (eX6_drop)) ∧
  (∀ a1 : Int32, Sim1 R k Vc Vm (eX5_status a1) (eX6_status a1)) ∧
  (∀ a1 a2 : Int32, Sim1 R k Vc Vm (eX5_many a1 a2) (eX6_many a1 a2)) ∧
  (∀ a1 a2 a3 : Int32, Sim1 R k Vc Vm (eX5_given a1 a2 a3) (eX6_given a1 a2 a3)) ∧
  (∀ a1 : Int32, Sim1 R k Vc Vm (eX5_state a1) (eX6_state a1)) ∧
  (∀ a1 : Int32, Sim1 R k Vc Vm (eX5_told a1) (eX6_told a1)) ∧
  (∀ a1 a2 : Int32, Sim1 R k Vc Vm (eX5_box a1 a2) (eX6_box a1 a2)) ∧
  (∀ a1 a2 : Int32, Sim1 R k Vc Vm (eX5_mail a1 a2) (eX6_mail a1 a2)) ∧
  (∀ a1 a2 : Int32, Sim1 R k Vc Vm (eX5_thread a1 a2) (eX6_thread a1 a2)) ∧
  (∀ a1 a2 : Int32, Sim1 R k Vc Vm (eX5_entry a1 a2) (eX6_entry a1 a2)) ∧
  (∀ a1 a2 a3 : Int32, Sim2 R k Vc Vm (eX5_filter a1 a2 a3) (eX6_filter a1 a2 a3)) ∧
  (∀ a1 a2 : Int32, Sim3 R k Vc Vm (eX5_fits a1 a2) (eX6_fits a1 a2)) ∧
  R (k + 1) Vc Vm
def LW (D : va_G) (dA : Nat → ClassId) (adC adM : Nat → Nat) (Vc Vm : Mm) (s : State) (H : Heap) (locs : List Loc) : Prop :=
  va_P D vwCl (wl dA adC (hC Vc)) H ∧ va_P D vwCl (wl dA adM (hM Vm)) H ∧ va_D (fun q => s.heap.size ≤ q) (wl dA adC (hC Vc)) ∧ va_D (fun q => s.heap.size ≤ q) (wl dA adM (hM Vm)) ∧ (∀ i j, i < 197 → j < 23 → adC i ≠ adM j) ∧ wfh 197 PC Vc ∧ wfh 23 PM Vm ∧ va_S (fun q => s.heap.size ≤ q) s.heap H locs
theorem allI_0 : ∀ v ∈ ([] : List Value), ∃ x, v = .int x := fun v h => by cases h
theorem allI_s {x : Int32} {t : List Value} (h : ∀ v ∈ t, ∃ x, v = .int x) : ∀ v ∈ (Value.int x :: t), ∃ x, v = .int x := fun v hv => by
  rcases List.mem_cons.mp hv with rfl | hv
  · exact ⟨_, rfl⟩
  · exact h v hv
theorem law_false {p : Program} {l : Launch} {e : Env} {s : State} {m : MethodId} {below : List Frame} {meth : Method} {c : Code} {D : va_G} {dA : Nat → ClassId} {b L : Nat} {xs : Nat → Int32}  {H : Heap} {pc : Nat} {ls : Array Slot} {rest : List Value} : True := trivial
set_option maxHeartbeats 4000000 in
set_option maxRecDepth 100000 in
theorem law_draft {p : Program} {l : Launch} {e : Env} {s : State} {m : MethodId} {below : List Frame} {meth : Method} {c : Code} {D : va_G} {dA : Nat → ClassId} {b L : Nat} {xs : Nat → Int32} {adC adM : Nat → Nat} (hR : Nat → Mm → Mm → Prop) (S : Sims hR) (hret : meth.sig.returnType = ret) (hlocks : meth.locks = false) (B : LC p s m #[Value.ref b] c D dA) (hX : va_X b L xs s s.heap) (hbl : b < s.heap.size) (hL : L ≤ 3072) {k : Nat} (hk : k < 512) (hkL : 6 * k + 6 ≤ L) {Vc Vm : Mm} {H : Heap} {locs : List Loc} {cells slots : Nat} (hcs : cells ≤ 600000 ∧ slots ≤ 7302249) (W0 : LW D dA adC adM Vc Vm s H locs) (hRk : hR k Vc Vm) {ls : Array Slot} (hl : lv_has ls 4 [(0, .ref b), (1, .ref (adC 0)), (2, .ref (adM 0)), (3, .int (nI (6 * k)))]) (cont : (∀ (Vc2 Vm2 : Mm) (H1 : Heap) (locs1 : List Loc), LW D dA adC adM Vc2 Vm2 s H1 locs1 → hR (k + 1) Vc2 Vm2 → W p l e room_1 s m #[Value.ref b] below meth c H1 locs1 cells slots (lw_Z below #[Value.ref b] s) (F0 m 845 ls []))) : W p l e room_1 s m #[Value.ref b] below meth c H locs cells slots (lw_Z below #[Value.ref b] s) (F0 m 132 ls []) := by
  obtain ⟨r, Vc2, Vm2, e1, e2, hR2⟩ := (S k Vc Vm hk hRk).1 (xs (nI (6 * k) + 1).toNatClampNeg) (xs (nI (6 * k) + 2).toNatClampNeg)
  obtain ⟨hx, hb, hml, hown, hts, hK, hKW, hXS⟩ := id B
  obtain ⟨hP1, hP2, hD1, hD2, hdis, hw1, hw2, hS⟩ := W0
  have hbA : ¬ (fun q : Nat => s.heap.size ≤ q) b := Nat.not_le.mpr hbl
  have hi1 : vp_in (nI (6 * k) + 1) L := by rw [show (nI (6 * k) + 1 : Int32) = nI (6 * k + 1) from nI_add (6 * k) 1]; exact vp_in_nI (by omega) (by omega)
  have hi2 : vp_in (nI (6 * k) + 2) L := by rw [show (nI (6 * k) + 2 : Int32) = nI (6 * k + 2) from nI_add (6 * k) 2]; exact vp_in_nI (by omega) (by omega)
  refine lv_aload_n hx hb dL_law_132 rfl (lv_at hl 1 rfl) ?_
  refine lv_aload_n hx hb dL_law_133 rfl (lv_at hl 0 rfl) ?_
  refine lv_iload_n hx hb dL_law_134 rfl (lv_at hl 3 rfl) ?_
  refine lv_iconst (v := 1) hx hb dL_law_135 (by decide) ?_
  refine lv_iadd hx hb dL_law_136 ?_
  refine va_sld hx hb hX hbl hbA hS hi1 dL_law_137 ?_
  refine lv_aload_n hx hb dL_law_138 rfl (lv_at hl 0 rfl) ?_
  refine lv_iload_n hx hb dL_law_139 rfl (lv_at hl 3 rfl) ?_
  refine lv_iconst (v := 2) hx hb dL_law_140 (by decide) ?_
  refine lv_iadd hx hb dL_law_141 ?_
  refine va_sld hx hb hX hbl hbA hS hi2 dL_law_142 ?_
  refine law_cV (ad := adC) (ad2 := adM) (N := 197) (N2 := 23) (T := TC) (T2 := TM) (P := PC) (P2 := PM) (V := Vc) (V1 := Vc2) (V2 := Vm) (As := [.int (xs (nI (6 * k) + 1).toNatClampNeg), .int (xs (nI (6 * k) + 2).toNatClampNeg)]) (rest := []) B hl.1 hP1 hP2 hD1 hdis hw1 hS (E_X5_draft e1) (allI_s (allI_s allI_0)) rfl oX5_draft iX5_draft sX5_draft kL_13 rfl (by decide) (nn := 13) (ci := 5) rfl rfl (Nat.le_of_ble_eq_true rfl) ⟨Nat.le_of_ble_eq_true rfl, Nat.le_of_ble_eq_true rfl⟩ ⟨rfl, rfl⟩ hcs dL_law_143 (fun H1 locs1 hP1 hP2 hD1 hw1 hS => ?_)
  refine lv_aload_n hx hb dL_law_146 rfl (lv_at hl 2 rfl) ?_
  refine lv_aload_n hx hb dL_law_147 rfl (lv_at hl 0 rfl) ?_
  refine lv_iload_n hx hb dL_law_148 rfl (lv_at hl 3 rfl) ?_
  refine lv_iconst (v := 1) hx hb dL_law_149 (by decide) ?_
  refine lv_iadd hx hb dL_law_150 ?_
  refine va_sld hx hb hX hbl hbA hS hi1 dL_law_151 ?_
  refine lv_aload_n hx hb dL_law_152 rfl (lv_at hl 0 rfl) ?_
  refine lv_iload_n hx hb dL_law_153 rfl (lv_at hl 3 rfl) ?_
  refine lv_iconst (v := 2) hx hb dL_law_154 (by decide) ?_
  refine lv_iadd hx hb dL_law_155 ?_
  refine va_sld hx hb hX hbl hbA hS hi2 dL_law_156 ?_
  refine law_cV (ad := adM) (ad2 := adC) (N := 23) (N2 := 197) (T := TM) (T2 := TC) (P := PM) (P2 := PC) (V := Vm) (V1 := Vm2) (V2 := Vc2) (As := [.int (xs (nI (6 * k) + 1).toNatClampNeg), .int (xs (nI (6 * k) + 2).toNatClampNeg)]) (rest := [.int r]) B hl.1 hP2 hP1 hD2 (fun i j hi hj h => hdis j i hj hi h.symm) hw2 hS (E_X6_draft e2) (allI_s (allI_s allI_0)) rfl oX6_draft iX6_draft sX6_draft kL_17 rfl (by decide) (nn := 29) (ci := 6) rfl rfl (Nat.le_of_ble_eq_true rfl) ⟨Nat.le_of_ble_eq_true rfl, Nat.le_of_ble_eq_true rfl⟩ ⟨rfl, rfl⟩ hcs dL_law_157 (fun H2 locs2 hP2 hP1 hD2 hw2 hS => ?_)
  refine lv_icmp_eq (tgt := 845) hx hb dL_law_160 (by decide) (fun _ => ?_) (fun q => absurd rfl q)
  exact cont Vc2 Vm2 _ _ ⟨hP1, hP2, hD1, hD2, hdis, hw1, hw2, hS⟩ hR2
set_option maxHeartbeats 4000000 in
set_option maxRecDepth 100000 in
theorem law_get {p : Program} {l : Launch} {e : Env} {s : State} {m : MethodId} {below : List Frame} {meth : Method} {c : Code} {D : va_G} {dA : Nat → ClassId} {b L : Nat} {xs : Nat → Int32} {adC adM : Nat → Nat} (hR : Nat → Mm → Mm → Prop) (S : Sims hR) (hret : meth.sig.returnType = ret) (hlocks : meth.locks = false) (B : LC p s m #[Value.ref b] c D dA) (hX : va_X b L xs s s.heap) (hbl : b < s.heap.size) (hL : L ≤ 3072) {k : Nat} (hk : k < 512) (hkL : 6 * k + 6 ≤ L) {Vc Vm : Mm} {H : Heap} {locs : List Loc} {cells slots : Nat} (hcs : cells ≤ 600000 ∧ slots ≤ 7302249) (W0 : LW D dA adC adM Vc Vm s H locs) (hRk : hR k Vc Vm) {ls : Array Slot} (hl : lv_has ls 4 [(0, .ref b), (1, .ref (adC 0)), (2, .ref (adM 0)), (3, .int (nI (6 * k)))]) (cont : (∀ (Vc2 Vm2 : Mm) (H1 : Heap) (locs1 : List Loc), LW D dA adC adM Vc2 Vm2 s H1 locs1 → hR (k + 1) Vc2 Vm2 → W p l e room_1 s m #[Value.ref b] below meth c H1 locs1 cells slots (lw_Z below #[Value.ref b] s) (F0 m 845 ls []))) : W p l e room_1 s m #[Value.ref b] below meth c H locs cells slots (lw_Z below #[Value.ref b] s) (F0 m 165 ls []) := by
  obtain ⟨r, Vc2, Vm2, e1, e2, hR2⟩ := (S k Vc Vm hk hRk).2.1 (xs (nI (6 * k) + 1).toNatClampNeg) (xs (nI (6 * k) + 2).toNatClampNeg) (xs (nI (6 * k) + 3).toNatClampNeg)
  obtain ⟨hx, hb, hml, hown, hts, hK, hKW, hXS⟩ := id B
  obtain ⟨hP1, hP2, hD1, hD2, hdis, hw1, hw2, hS⟩ := W0
  have hbA : ¬ (fun q : Nat => s.heap.size ≤ q) b := Nat.not_le.mpr hbl
  have hi1 : vp_in (nI (6 * k) + 1) L := by rw [show (nI (6 * k) + 1 : Int32) = nI (6 * k + 1) from nI_add (6 * k) 1]; exact vp_in_nI (by omega) (by omega)
  have hi2 : vp_in (nI (6 * k) + 2) L := by rw [show (nI (6 * k) + 2 : Int32) = nI (6 * k + 2) from nI_add (6 * k) 2]; exact vp_in_nI (by omega) (by omega)
  have hi3 : vp_in (nI (6 * k) + 3) L := by rw [show (nI (6 * k) + 3 : Int32) = nI (6 * k + 3) from nI_add (6 * k) 3]; exact vp_in_nI (by omega) (by omega)
  refine lv_aload_n hx hb dL_law_165 rfl (lv_at hl 1 rfl) ?_
  refine lv_aload_n hx hb dL_law_166 rfl (lv_at hl 0 rfl) ?_
  refine lv_iload_n hx hb dL_law_167 rfl (lv_at hl 3 rfl) ?_
  refine lv_iconst (v := 1) hx hb dL_law_168 (by decide) ?_
  refine lv_iadd hx hb dL_law_169 ?_
  refine va_sld hx hb hX hbl hbA hS hi1 dL_law_170 ?_
  refine lv_aload_n hx hb dL_law_171 rfl (lv_at hl 0 rfl) ?_
  refine lv_iload_n hx hb dL_law_172 rfl (lv_at hl 3 rfl) ?_
  refine lv_iconst (v := 2) hx hb dL_law_173 (by decide) ?_
  refine lv_iadd hx hb dL_law_174 ?_
  refine va_sld hx hb hX hbl hbA hS hi2 dL_law_175 ?_
  refine lv_aload_n hx hb dL_law_176 rfl (lv_at hl 0 rfl) ?_
  refine lv_iload_n hx hb dL_law_177 rfl (lv_at hl 3 rfl) ?_
  refine lv_iconst (v := 3) hx hb dL_law_178 (by decide) ?_
  refine lv_iadd hx hb dL_law_179 ?_
  refine va_sld hx hb hX hbl hbA hS hi3 dL_law_180 ?_
  refine law_cV (ad := adC) (ad2 := adM) (N := 197) (N2 := 23) (T := TC) (T2 := TM) (P := PC) (P2 := PM) (V := Vc) (V1 := Vc2) (V2 := Vm) (As := [.int (xs (nI (6 * k) + 1).toNatClampNeg), .int (xs (nI (6 * k) + 2).toNatClampNeg), .int (xs (nI (6 * k) + 3).toNatClampNeg)]) (rest := []) B hl.1 hP1 hP2 hD1 hdis hw1 hS (E_X5_get e1) (allI_s (allI_s (allI_s allI_0))) rfl oX5_get iX5_get sX5_get kL_18 rfl (by decide) (nn := 13) (ci := 5) rfl rfl (Nat.le_of_ble_eq_true rfl) ⟨Nat.le_of_ble_eq_true rfl, Nat.le_of_ble_eq_true rfl⟩ ⟨rfl, rfl⟩ hcs dL_law_181 (fun H1 locs1 hP1 hP2 hD1 hw1 hS => ?_)
  refine lv_aload_n hx hb dL_law_184 rfl (lv_at hl 2 rfl) ?_
  refine lv_aload_n hx hb dL_law_185 rfl (lv_at hl 0 rfl) ?_
  refine lv_iload_n hx hb dL_law_186 rfl (lv_at hl 3 rfl) ?_
  refine lv_iconst (v := 1) hx hb dL_law_187 (by decide) ?_
  refine lv_iadd hx hb dL_law_188 ?_
  refine va_sld hx hb hX hbl hbA hS hi1 dL_law_189 ?_
  refine lv_aload_n hx hb dL_law_190 rfl (lv_at hl 0 rfl) ?_
  refine lv_iload_n hx hb dL_law_191 rfl (lv_at hl 3 rfl) ?_
  refine lv_iconst (v := 2) hx hb dL_law_192 (by decide) ?_
  refine lv_iadd hx hb dL_law_193 ?_
  refine va_sld hx hb hX hbl hbA hS hi2 dL_law_194 ?_
  refine lv_aload_n hx hb dL_law_195 rfl (lv_at hl 0 rfl) ?_
  refine lv_iload_n hx hb dL_law_196 rfl (lv_at hl 3 rfl) ?_
  refine lv_iconst (v := 3) hx hb dL_law_197 (by decide) ?_
  refine lv_iadd hx hb dL_law_198 ?_
  refine va_sld hx hb hX hbl hbA hS hi3 dL_law_199 ?_
  refine law_cV (ad := adM) (ad2 := adC) (N := 23) (N2 := 197) (T := TM) (T2 := TC) (P := PM) (P2 := PC) (V := Vm) (V1 := Vm2) (V2 := Vc2) (As := [.int (xs (nI (6 * k) + 1).toNatClampNeg), .int (xs (nI (6 * k) + 2).toNatClampNeg), .int (xs (nI (6 * k) + 3).toNatClampNeg)]) (rest := [.int r]) B hl.1 hP2 hP1 hD2 (fun i j hi hj h => hdis j i hj hi h.symm) hw2 hS (E_X6_get e2) (allI_s (allI_s (allI_s allI_0))) rfl oX6_get iX6_get sX6_get kL_22 rfl (by decide) (nn := 29) (ci := 6) rfl rfl (Nat.le_of_ble_eq_true rfl) ⟨Nat.le_of_ble_eq_true rfl, Nat.le_of_ble_eq_true rfl⟩ ⟨rfl, rfl⟩ hcs dL_law_200 (fun H2 locs2 hP2 hP1 hD2 hw2 hS => ?_)
  refine lv_icmp_eq (tgt := 845) hx hb dL_law_203 (by decide) (fun _ => ?_) (fun q => absurd rfl q)
  exact cont Vc2 Vm2 _ _ ⟨hP1, hP2, hD1, hD2, hdis, hw1, hw2, hS⟩ hR2
set_option maxHeartbeats 4000000 in
set_option maxRecDepth 100000 in
theorem law_query {p : Program} {l : Launch} {e : Env} {s : State} {m : MethodId} {below : List Frame} {meth : Method} {c : Code} {D : va_G} {dA : Nat → ClassId} {b L : Nat} {xs : Nat → Int32} {adC adM : Nat → Nat} (hR : Nat → Mm → Mm → Prop) (S : Sims hR) (hret : meth.sig.returnType = ret) (hlocks : meth.locks = false) (B : LC p s m #[Value.ref b] c D dA) (hX : va_X b L xs s s.heap) (hbl : b < s.heap.size) (hL : L ≤ 3072) {k : Nat} (hk : k < 512) (hkL : 6 * k + 6 ≤ L) {Vc Vm : Mm} {H : Heap} {locs : List Loc} {cells slots : Nat} (hcs : cells ≤ 600000 ∧ slots ≤ 7302249) (W0 : LW D dA adC adM Vc Vm s H locs) (hRk : hR k Vc Vm) {ls : Array Slot} (hl : lv_has ls 4 [(0, .ref b), (1, .ref (adC 0)), (2, .ref (adM 0)), (3, .int (nI (6 * k)))]) (cont : (∀ (Vc2 Vm2 : Mm) (H1 : Heap) (locs1 : List Loc), LW D dA adC adM Vc2 Vm2 s H1 locs1 → hR (k + 1) Vc2 Vm2 → W p l e room_1 s m #[Value.ref b] below meth c H1 locs1 cells slots (lw_Z below #[Value.ref b] s) (F0 m 845 ls []))) : W p l e room_1 s m #[Value.ref b] below meth c H locs cells slots (lw_Z below #[Value.ref b] s) (F0 m 208 ls []) := by
  obtain ⟨r, Vc2, Vm2, e1, e2, hR2⟩ := (S k Vc Vm hk hRk).2.2.1 (xs (nI (6 * k) + 1).toNatClampNeg) (xs (nI (6 * k) + 2).toNatClampNeg) (xs (nI (6 * k) + 3).toNatClampNeg) (xs (nI (6 * k) + 4).toNatClampNeg)
  obtain ⟨hx, hb, hml, hown, hts, hK, hKW, hXS⟩ := id B
  obtain ⟨hP1, hP2, hD1, hD2, hdis, hw1, hw2, hS⟩ := W0
  have hbA : ¬ (fun q : Nat => s.heap.size ≤ q) b := Nat.not_le.mpr hbl
  have hi1 : vp_in (nI (6 * k) + 1) L := by rw [show (nI (6 * k) + 1 : Int32) = nI (6 * k + 1) from nI_add (6 * k) 1]; exact vp_in_nI (by omega) (by omega)
  have hi2 : vp_in (nI (6 * k) + 2) L := by rw [show (nI (6 * k) + 2 : Int32) = nI (6 * k + 2) from nI_add (6 * k) 2]; exact vp_in_nI (by omega) (by omega)
  have hi3 : vp_in (nI (6 * k) + 3) L := by rw [show (nI (6 * k) + 3 : Int32) = nI (6 * k + 3) from nI_add (6 * k) 3]; exact vp_in_nI (by omega) (by omega)
  have hi4 : vp_in (nI (6 * k) + 4) L := by rw [show (nI (6 * k) + 4 : Int32) = nI (6 * k + 4) from nI_add (6 * k) 4]; exact vp_in_nI (by omega) (by omega)
  refine lv_aload_n hx hb dL_law_208 rfl (lv_at hl 1 rfl) ?_
  refine lv_aload_n hx hb dL_law_209 rfl (lv_at hl 0 rfl) ?_
  refine lv_iload_n hx hb dL_law_210 rfl (lv_at hl 3 rfl) ?_
  refine lv_iconst (v := 1) hx hb dL_law_211 (by decide) ?_
  refine lv_iadd hx hb dL_law_212 ?_
  refine va_sld hx hb hX hbl hbA hS hi1 dL_law_213 ?_
  refine lv_aload_n hx hb dL_law_214 rfl (lv_at hl 0 rfl) ?_
  refine lv_iload_n hx hb dL_law_215 rfl (lv_at hl 3 rfl) ?_
  refine lv_iconst (v := 2) hx hb dL_law_216 (by decide) ?_
  refine lv_iadd hx hb dL_law_217 ?_
  refine va_sld hx hb hX hbl hbA hS hi2 dL_law_218 ?_
  refine lv_aload_n hx hb dL_law_219 rfl (lv_at hl 0 rfl) ?_
  refine lv_iload_n hx hb dL_law_220 rfl (lv_at hl 3 rfl) ?_
  refine lv_iconst (v := 3) hx hb dL_law_221 (by decide) ?_
  refine lv_iadd hx hb dL_law_222 ?_
  refine va_sld hx hb hX hbl hbA hS hi3 dL_law_223 ?_
  refine lv_aload_n hx hb dL_law_224 rfl (lv_at hl 0 rfl) ?_
  refine lv_iload_n hx hb dL_law_225 rfl (lv_at hl 3 rfl) ?_
  refine lv_iconst (v := 4) hx hb dL_law_226 (by decide) ?_
  refine lv_iadd hx hb dL_law_227 ?_
  refine va_sld hx hb hX hbl hbA hS hi4 dL_law_228 ?_
  refine law_cV (ad := adC) (ad2 := adM) (N := 197) (N2 := 23) (T := TC) (T2 := TM) (P := PC) (P2 := PM) (V := Vc) (V1 := Vc2) (V2 := Vm) (As := [.int (xs (nI (6 * k) + 1).toNatClampNeg), .int (xs (nI (6 * k) + 2).toNatClampNeg), .int (xs (nI (6 * k) + 3).toNatClampNeg), .int (xs (nI (6 * k) + 4).toNatClampNeg)]) (rest := []) B hl.1 hP1 hP2 hD1 hdis hw1 hS (E_X5_query e1) (allI_s (allI_s (allI_s (allI_s allI_0)))) rfl oX5_query iX5_query sX5_query kL_23 rfl (by decide) (nn := 13) (ci := 5) rfl rfl (Nat.le_of_ble_eq_true rfl) ⟨Nat.le_of_ble_eq_true rfl, Nat.le_of_ble_eq_true rfl⟩ ⟨rfl, rfl⟩ hcs dL_law_229 (fun H1 locs1 hP1 hP2 hD1 hw1 hS => ?_)
  refine lv_aload_n hx hb dL_law_232 rfl (lv_at hl 2 rfl) ?_
  refine lv_aload_n hx hb dL_law_233 rfl (lv_at hl 0 rfl) ?_
  refine lv_iload_n hx hb dL_law_234 rfl (lv_at hl 3 rfl) ?_
  refine lv_iconst (v := 1) hx hb dL_law_235 (by decide) ?_
  refine lv_iadd hx hb dL_law_236 ?_
  refine va_sld hx hb hX hbl hbA hS hi1 dL_law_237 ?_
  refine lv_aload_n hx hb dL_law_238 rfl (lv_at hl 0 rfl) ?_
  refine lv_iload_n hx hb dL_law_239 rfl (lv_at hl 3 rfl) ?_
  refine lv_iconst (v := 2) hx hb dL_law_240 (by decide) ?_
  refine lv_iadd hx hb dL_law_241 ?_
  refine va_sld hx hb hX hbl hbA hS hi2 dL_law_242 ?_
  refine lv_aload_n hx hb dL_law_243 rfl (lv_at hl 0 rfl) ?_
  refine lv_iload_n hx hb dL_law_244 rfl (lv_at hl 3 rfl) ?_
  refine lv_iconst (v := 3) hx hb dL_law_245 (by decide) ?_
  refine lv_iadd hx hb dL_law_246 ?_
  refine va_sld hx hb hX hbl hbA hS hi3 dL_law_247 ?_
  refine lv_aload_n hx hb dL_law_248 rfl (lv_at hl 0 rfl) ?_
  refine lv_iload_n hx hb dL_law_249 rfl (lv_at hl 3 rfl) ?_
  refine lv_iconst (v := 4) hx hb dL_law_250 (by decide) ?_
  refine lv_iadd hx hb dL_law_251 ?_
  refine va_sld hx hb hX hbl hbA hS hi4 dL_law_252 ?_
  refine law_cV (ad := adM) (ad2 := adC) (N := 23) (N2 := 197) (T := TM) (T2 := TC) (P := PM) (P2 := PC) (V := Vm) (V1 := Vm2) (V2 := Vc2) (As := [.int (xs (nI (6 * k) + 1).toNatClampNeg), .int (xs (nI (6 * k) + 2).toNatClampNeg), .int (xs (nI (6 * k) + 3).toNatClampNeg), .int (xs (nI (6 * k) + 4).toNatClampNeg)]) (rest := [.int r]) B hl.1 hP2 hP1 hD2 (fun i j hi hj h => hdis j i hj hi h.symm) hw2 hS (E_X6_query e2) (allI_s (allI_s (allI_s (allI_s allI_0)))) rfl oX6_query iX6_query sX6_query kL_27 rfl (by decide) (nn := 29) (ci := 6) rfl rfl (Nat.le_of_ble_eq_true rfl) ⟨Nat.le_of_ble_eq_true rfl, Nat.le_of_ble_eq_true rfl⟩ ⟨rfl, rfl⟩ hcs dL_law_253 (fun H2 locs2 hP2 hP1 hD2 hw2 hS => ?_)
  refine lv_icmp_eq (tgt := 845) hx hb dL_law_256 (by decide) (fun _ => ?_) (fun q => absurd rfl q)
  exact cont Vc2 Vm2 _ _ ⟨hP1, hP2, hD1, hD2, hdis, hw1, hw2, hS⟩ hR2
set_option maxHeartbeats 4000000 in
set_option maxRecDepth 100000 in
theorem law_changes {p : Program} {l : Launch} {e : Env} {s : State} {m : MethodId} {below : List Frame} {meth : Method} {c : Code} {D : va_G} {dA : Nat → ClassId} {b L : Nat} {xs : Nat → Int32} {adC adM : Nat → Nat} (hR : Nat → Mm → Mm → Prop) (S : Sims hR) (hret : meth.sig.returnType = ret) (hlocks : meth.locks = false) (B : LC p s m #[Value.ref b] c D dA) (hX : va_X b L xs s s.heap) (hbl : b < s.heap.size) (hL : L ≤ 3072) {k : Nat} (hk : k < 512) (hkL : 6 * k + 6 ≤ L) {Vc Vm : Mm} {H : Heap} {locs : List Loc} {cells slots : Nat} (hcs : cells ≤ 600000 ∧ slots ≤ 7302249) (W0 : LW D dA adC adM Vc Vm s H locs) (hRk : hR k Vc Vm) {ls : Array Slot} (hl : lv_has ls 4 [(0, .ref b), (1, .ref (adC 0)), (2, .ref (adM 0)), (3, .int (nI (6 * k)))]) (cont : (∀ (Vc2 Vm2 : Mm) (H1 : Heap) (locs1 : List Loc), LW D dA adC adM Vc2 Vm2 s H1 locs1 → hR (k + 1) Vc2 Vm2 → W p l e room_1 s m #[Value.ref b] below meth c H1 locs1 cells slots (lw_Z below #[Value.ref b] s) (F0 m 845 ls []))) : W p l e room_1 s m #[Value.ref b] below meth c H locs cells slots (lw_Z below #[Value.ref b] s) (F0 m 261 ls []) := by
  obtain ⟨r, Vc2, Vm2, e1, e2, hR2⟩ := (S k Vc Vm hk hRk).2.2.2.1 (xs (nI (6 * k) + 1).toNatClampNeg) (xs (nI (6 * k) + 2).toNatClampNeg) (xs (nI (6 * k) + 3).toNatClampNeg)
  obtain ⟨hx, hb, hml, hown, hts, hK, hKW, hXS⟩ := id B
  obtain ⟨hP1, hP2, hD1, hD2, hdis, hw1, hw2, hS⟩ := W0
  have hbA : ¬ (fun q : Nat => s.heap.size ≤ q) b := Nat.not_le.mpr hbl
  have hi1 : vp_in (nI (6 * k) + 1) L := by rw [show (nI (6 * k) + 1 : Int32) = nI (6 * k + 1) from nI_add (6 * k) 1]; exact vp_in_nI (by omega) (by omega)
  have hi2 : vp_in (nI (6 * k) + 2) L := by rw [show (nI (6 * k) + 2 : Int32) = nI (6 * k + 2) from nI_add (6 * k) 2]; exact vp_in_nI (by omega) (by omega)
  have hi3 : vp_in (nI (6 * k) + 3) L := by rw [show (nI (6 * k) + 3 : Int32) = nI (6 * k + 3) from nI_add (6 * k) 3]; exact vp_in_nI (by omega) (by omega)
  refine lv_aload_n hx hb dL_law_261 rfl (lv_at hl 1 rfl) ?_
  refine lv_aload_n hx hb dL_law_262 rfl (lv_at hl 0 rfl) ?_
  refine lv_iload_n hx hb dL_law_263 rfl (lv_at hl 3 rfl) ?_
  refine lv_iconst (v := 1) hx hb dL_law_264 (by decide) ?_
  refine lv_iadd hx hb dL_law_265 ?_
  refine va_sld hx hb hX hbl hbA hS hi1 dL_law_266 ?_
  refine lv_aload_n hx hb dL_law_267 rfl (lv_at hl 0 rfl) ?_
  refine lv_iload_n hx hb dL_law_268 rfl (lv_at hl 3 rfl) ?_
  refine lv_iconst (v := 2) hx hb dL_law_269 (by decide) ?_
  refine lv_iadd hx hb dL_law_270 ?_
  refine va_sld hx hb hX hbl hbA hS hi2 dL_law_271 ?_
  refine lv_aload_n hx hb dL_law_272 rfl (lv_at hl 0 rfl) ?_
  refine lv_iload_n hx hb dL_law_273 rfl (lv_at hl 3 rfl) ?_
  refine lv_iconst (v := 3) hx hb dL_law_274 (by decide) ?_
  refine lv_iadd hx hb dL_law_275 ?_
  refine va_sld hx hb hX hbl hbA hS hi3 dL_law_276 ?_
  refine law_cV (ad := adC) (ad2 := adM) (N := 197) (N2 := 23) (T := TC) (T2 := TM) (P := PC) (P2 := PM) (V := Vc) (V1 := Vc2) (V2 := Vm) (As := [.int (xs (nI (6 * k) + 1).toNatClampNeg), .int (xs (nI (6 * k) + 2).toNatClampNeg), .int (xs (nI (6 * k) + 3).toNatClampNeg)]) (rest := []) B hl.1 hP1 hP2 hD1 hdis hw1 hS (E_X5_changes e1) (allI_s (allI_s (allI_s allI_0))) rfl oX5_changes iX5_changes sX5_changes kL_28 rfl (by decide) (nn := 13) (ci := 5) rfl rfl (Nat.le_of_ble_eq_true rfl) ⟨Nat.le_of_ble_eq_true rfl, Nat.le_of_ble_eq_true rfl⟩ ⟨rfl, rfl⟩ hcs dL_law_277 (fun H1 locs1 hP1 hP2 hD1 hw1 hS => ?_)
  refine lv_aload_n hx hb dL_law_280 rfl (lv_at hl 2 rfl) ?_
  refine lv_aload_n hx hb dL_law_281 rfl (lv_at hl 0 rfl) ?_
  refine lv_iload_n hx hb dL_law_282 rfl (lv_at hl 3 rfl) ?_
  refine lv_iconst (v := 1) hx hb dL_law_283 (by decide) ?_
  refine lv_iadd hx hb dL_law_284 ?_
  refine va_sld hx hb hX hbl hbA hS hi1 dL_law_285 ?_
  refine lv_aload_n hx hb dL_law_286 rfl (lv_at hl 0 rfl) ?_
  refine lv_iload_n hx hb dL_law_287 rfl (lv_at hl 3 rfl) ?_
  refine lv_iconst (v := 2) hx hb dL_law_288 (by decide) ?_
  refine lv_iadd hx hb dL_law_289 ?_
  refine va_sld hx hb hX hbl hbA hS hi2 dL_law_290 ?_
  refine lv_aload_n hx hb dL_law_291 rfl (lv_at hl 0 rfl) ?_
  refine lv_iload_n hx hb dL_law_292 rfl (lv_at hl 3 rfl) ?_
  refine lv_iconst (v := 3) hx hb dL_law_293 (by decide) ?_
  refine lv_iadd hx hb dL_law_294 ?_
  refine va_sld hx hb hX hbl hbA hS hi3 dL_law_295 ?_
  refine law_cV (ad := adM) (ad2 := adC) (N := 23) (N2 := 197) (T := TM) (T2 := TC) (P := PM) (P2 := PC) (V := Vm) (V1 := Vm2) (V2 := Vc2) (As := [.int (xs (nI (6 * k) + 1).toNatClampNeg), .int (xs (nI (6 * k) + 2).toNatClampNeg), .int (xs (nI (6 * k) + 3).toNatClampNeg)]) (rest := [.int r]) B hl.1 hP2 hP1 hD2 (fun i j hi hj h => hdis j i hj hi h.symm) hw2 hS (E_X6_changes e2) (allI_s (allI_s (allI_s allI_0))) rfl oX6_changes iX6_changes sX6_changes kL_31 rfl (by decide) (nn := 29) (ci := 6) rfl rfl (Nat.le_of_ble_eq_true rfl) ⟨Nat.le_of_ble_eq_true rfl, Nat.le_of_ble_eq_true rfl⟩ ⟨rfl, rfl⟩ hcs dL_law_296 (fun H2 locs2 hP2 hP1 hD2 hw2 hS => ?_)
  refine lv_icmp_eq (tgt := 845) hx hb dL_law_299 (by decide) (fun _ => ?_) (fun q => absurd rfl q)
  exact cont Vc2 Vm2 _ _ ⟨hP1, hP2, hD1, hD2, hdis, hw1, hw2, hS⟩ hR2
set_option maxHeartbeats 4000000 in
set_option maxRecDepth 100000 in
theorem law_make {p : Program} {l : Launch} {e : Env} {s : State} {m : MethodId} {below : List Frame} {meth : Method} {c : Code} {D : va_G} {dA : Nat → ClassId} {b L : Nat} {xs : Nat → Int32} {adC adM : Nat → Nat} (hR : Nat → Mm → Mm → Prop) (S : Sims hR) (hret : meth.sig.returnType = ret) (hlocks : meth.locks = false) (B : LC p s m #[Value.ref b] c D dA) (hX : va_X b L xs s s.heap) (hbl : b < s.heap.size) (hL : L ≤ 3072) {k : Nat} (hk : k < 512) (hkL : 6 * k + 6 ≤ L) {Vc Vm : Mm} {H : Heap} {locs : List Loc} {cells slots : Nat} (hcs : cells ≤ 600000 ∧ slots ≤ 7302249) (W0 : LW D dA adC adM Vc Vm s H locs) (hRk : hR k Vc Vm) {ls : Array Slot} (hl : lv_has ls 4 [(0, .ref b), (1, .ref (adC 0)), (2, .ref (adM 0)), (3, .int (nI (6 * k)))]) (cont : (∀ (Vc2 Vm2 : Mm) (H1 : Heap) (locs1 : List Loc), LW D dA adC adM Vc2 Vm2 s H1 locs1 → hR (k + 1) Vc2 Vm2 → W p l e room_1 s m #[Value.ref b] below meth c H1 locs1 cells slots (lw_Z below #[Value.ref b] s) (F0 m 845 ls []))) : W p l e room_1 s m #[Value.ref b] below meth c H locs cells slots (lw_Z below #[Value.ref b] s) (F0 m 304 ls []) := by
  obtain ⟨r, Vc2, Vm2, e1, e2, hR2⟩ := (S k Vc Vm hk hRk).2.2.2.2.1 (xs (nI (6 * k) + 1).toNatClampNeg) (xs (nI (6 * k) + 2).toNatClampNeg)
  obtain ⟨hx, hb, hml, hown, hts, hK, hKW, hXS⟩ := id B
  obtain ⟨hP1, hP2, hD1, hD2, hdis, hw1, hw2, hS⟩ := W0
  have hbA : ¬ (fun q : Nat => s.heap.size ≤ q) b := Nat.not_le.mpr hbl
  have hi1 : vp_in (nI (6 * k) + 1) L := by rw [show (nI (6 * k) + 1 : Int32) = nI (6 * k + 1) from nI_add (6 * k) 1]; exact vp_in_nI (by omega) (by omega)
  have hi2 : vp_in (nI (6 * k) + 2) L := by rw [show (nI (6 * k) + 2 : Int32) = nI (6 * k + 2) from nI_add (6 * k) 2]; exact vp_in_nI (by omega) (by omega)
  refine lv_aload_n hx hb dL_law_304 rfl (lv_at hl 1 rfl) ?_
  refine lv_aload_n hx hb dL_law_305 rfl (lv_at hl 0 rfl) ?_
  refine lv_iload_n hx hb dL_law_306 rfl (lv_at hl 3 rfl) ?_
  refine lv_iconst (v := 1) hx hb dL_law_307 (by decide) ?_
  refine lv_iadd hx hb dL_law_308 ?_
  refine va_sld hx hb hX hbl hbA hS hi1 dL_law_309 ?_
  refine lv_aload_n hx hb dL_law_310 rfl (lv_at hl 0 rfl) ?_
  refine lv_iload_n hx hb dL_law_311 rfl (lv_at hl 3 rfl) ?_
  refine lv_iconst (v := 2) hx hb dL_law_312 (by decide) ?_
  refine lv_iadd hx hb dL_law_313 ?_
  refine va_sld hx hb hX hbl hbA hS hi2 dL_law_314 ?_
  refine law_cV (ad := adC) (ad2 := adM) (N := 197) (N2 := 23) (T := TC) (T2 := TM) (P := PC) (P2 := PM) (V := Vc) (V1 := Vc2) (V2 := Vm) (As := [.int (xs (nI (6 * k) + 1).toNatClampNeg), .int (xs (nI (6 * k) + 2).toNatClampNeg)]) (rest := []) B hl.1 hP1 hP2 hD1 hdis hw1 hS (E_X5_make e1) (allI_s (allI_s allI_0)) rfl oX5_make iX5_make sX5_make kL_32 rfl (by decide) (nn := 13) (ci := 5) rfl rfl (Nat.le_of_ble_eq_true rfl) ⟨Nat.le_of_ble_eq_true rfl, Nat.le_of_ble_eq_true rfl⟩ ⟨rfl, rfl⟩ hcs dL_law_315 (fun H1 locs1 hP1 hP2 hD1 hw1 hS => ?_)
  refine lv_aload_n hx hb dL_law_318 rfl (lv_at hl 2 rfl) ?_
  refine lv_aload_n hx hb dL_law_319 rfl (lv_at hl 0 rfl) ?_
  refine lv_iload_n hx hb dL_law_320 rfl (lv_at hl 3 rfl) ?_
  refine lv_iconst (v := 1) hx hb dL_law_321 (by decide) ?_
  refine lv_iadd hx hb dL_law_322 ?_
  refine va_sld hx hb hX hbl hbA hS hi1 dL_law_323 ?_
  refine lv_aload_n hx hb dL_law_324 rfl (lv_at hl 0 rfl) ?_
  refine lv_iload_n hx hb dL_law_325 rfl (lv_at hl 3 rfl) ?_
  refine lv_iconst (v := 2) hx hb dL_law_326 (by decide) ?_
  refine lv_iadd hx hb dL_law_327 ?_
  refine va_sld hx hb hX hbl hbA hS hi2 dL_law_328 ?_
  refine law_cV (ad := adM) (ad2 := adC) (N := 23) (N2 := 197) (T := TM) (T2 := TC) (P := PM) (P2 := PC) (V := Vm) (V1 := Vm2) (V2 := Vc2) (As := [.int (xs (nI (6 * k) + 1).toNatClampNeg), .int (xs (nI (6 * k) + 2).toNatClampNeg)]) (rest := [.int r]) B hl.1 hP2 hP1 hD2 (fun i j hi hj h => hdis j i hj hi h.symm) hw2 hS (E_X6_make e2) (allI_s (allI_s allI_0)) rfl oX6_make iX6_make sX6_make kL_35 rfl (by decide) (nn := 29) (ci := 6) rfl rfl (Nat.le_of_ble_eq_true rfl) ⟨Nat.le_of_ble_eq_true rfl, Nat.le_of_ble_eq_true rfl⟩ ⟨rfl, rfl⟩ hcs dL_law_329 (fun H2 locs2 hP2 hP1 hD2 hw2 hS => ?_)
  refine lv_icmp_eq (tgt := 845) hx hb dL_law_332 (by decide) (fun _ => ?_) (fun q => absurd rfl q)
  exact cont Vc2 Vm2 _ _ ⟨hP1, hP2, hD1, hD2, hdis, hw1, hw2, hS⟩ hR2
set_option maxHeartbeats 4000000 in
set_option maxRecDepth 100000 in
theorem law_change {p : Program} {l : Launch} {e : Env} {s : State} {m : MethodId} {below : List Frame} {meth : Method} {c : Code} {D : va_G} {dA : Nat → ClassId} {b L : Nat} {xs : Nat → Int32} {adC adM : Nat → Nat} (hR : Nat → Mm → Mm → Prop) (S : Sims hR) (hret : meth.sig.returnType = ret) (hlocks : meth.locks = false) (B : LC p s m #[Value.ref b] c D dA) (hX : va_X b L xs s s.heap) (hbl : b < s.heap.size) (hL : L ≤ 3072) {k : Nat} (hk : k < 512) (hkL : 6 * k + 6 ≤ L) {Vc Vm : Mm} {H : Heap} {locs : List Loc} {cells slots : Nat} (hcs : cells ≤ 600000 ∧ slots ≤ 7302249) (W0 : LW D dA adC adM Vc Vm s H locs) (hRk : hR k Vc Vm) {ls : Array Slot} (hl : lv_has ls 4 [(0, .ref b), (1, .ref (adC 0)), (2, .ref (adM 0)), (3, .int (nI (6 * k)))]) (cont : (∀ (Vc2 Vm2 : Mm) (H1 : Heap) (locs1 : List Loc), LW D dA adC adM Vc2 Vm2 s H1 locs1 → hR (k + 1) Vc2 Vm2 → W p l e room_1 s m #[Value.ref b] below meth c H1 locs1 cells slots (lw_Z below #[Value.ref b] s) (F0 m 845 ls []))) : W p l e room_1 s m #[Value.ref b] below meth c H locs cells slots (lw_Z below #[Value.ref b] s) (F0 m 337 ls []) := by
  obtain ⟨r, Vc2, Vm2, e1, e2, hR2⟩ := (S k Vc Vm hk hRk).2.2.2.2.2.1 (xs (nI (6 * k) + 1).toNatClampNeg) (xs (nI (6 * k) + 2).toNatClampNeg) (xs (nI (6 * k) + 3).toNatClampNeg) (xs (nI (6 * k) + 4).toNatClampNeg) (xs (nI (6 * k) + 5).toNatClampNeg)
  obtain ⟨hx, hb, hml, hown, hts, hK, hKW, hXS⟩ := id B
  obtain ⟨hP1, hP2, hD1, hD2, hdis, hw1, hw2, hS⟩ := W0
  have hbA : ¬ (fun q : Nat => s.heap.size ≤ q) b := Nat.not_le.mpr hbl
  have hi1 : vp_in (nI (6 * k) + 1) L := by rw [show (nI (6 * k) + 1 : Int32) = nI (6 * k + 1) from nI_add (6 * k) 1]; exact vp_in_nI (by omega) (by omega)
  have hi2 : vp_in (nI (6 * k) + 2) L := by rw [show (nI (6 * k) + 2 : Int32) = nI (6 * k + 2) from nI_add (6 * k) 2]; exact vp_in_nI (by omega) (by omega)
  have hi3 : vp_in (nI (6 * k) + 3) L := by rw [show (nI (6 * k) + 3 : Int32) = nI (6 * k + 3) from nI_add (6 * k) 3]; exact vp_in_nI (by omega) (by omega)
  have hi4 : vp_in (nI (6 * k) + 4) L := by rw [show (nI (6 * k) + 4 : Int32) = nI (6 * k + 4) from nI_add (6 * k) 4]; exact vp_in_nI (by omega) (by omega)
  have hi5 : vp_in (nI (6 * k) + 5) L := by rw [show (nI (6 * k) + 5 : Int32) = nI (6 * k + 5) from nI_add (6 * k) 5]; exact vp_in_nI (by omega) (by omega)
  refine lv_aload_n hx hb dL_law_337 rfl (lv_at hl 1 rfl) ?_
  refine lv_aload_n hx hb dL_law_338 rfl (lv_at hl 0 rfl) ?_
  refine lv_iload_n hx hb dL_law_339 rfl (lv_at hl 3 rfl) ?_
  refine lv_iconst (v := 1) hx hb dL_law_340 (by decide) ?_
  refine lv_iadd hx hb dL_law_341 ?_
  refine va_sld hx hb hX hbl hbA hS hi1 dL_law_342 ?_
  refine lv_aload_n hx hb dL_law_343 rfl (lv_at hl 0 rfl) ?_
  refine lv_iload_n hx hb dL_law_344 rfl (lv_at hl 3 rfl) ?_
  refine lv_iconst (v := 2) hx hb dL_law_345 (by decide) ?_
  refine lv_iadd hx hb dL_law_346 ?_
  refine va_sld hx hb hX hbl hbA hS hi2 dL_law_347 ?_
  refine lv_aload_n hx hb dL_law_348 rfl (lv_at hl 0 rfl) ?_
  refine lv_iload_n hx hb dL_law_349 rfl (lv_at hl 3 rfl) ?_
  refine lv_iconst (v := 3) hx hb dL_law_350 (by decide) ?_
  refine lv_iadd hx hb dL_law_351 ?_
  refine va_sld hx hb hX hbl hbA hS hi3 dL_law_352 ?_
  refine lv_aload_n hx hb dL_law_353 rfl (lv_at hl 0 rfl) ?_
  refine lv_iload_n hx hb dL_law_354 rfl (lv_at hl 3 rfl) ?_
  refine lv_iconst (v := 4) hx hb dL_law_355 (by decide) ?_
  refine lv_iadd hx hb dL_law_356 ?_
  refine va_sld hx hb hX hbl hbA hS hi4 dL_law_357 ?_
  refine lv_aload_n hx hb dL_law_358 rfl (lv_at hl 0 rfl) ?_
  refine lv_iload_n hx hb dL_law_359 rfl (lv_at hl 3 rfl) ?_
  refine lv_iconst (v := 5) hx hb dL_law_360 (by decide) ?_
  refine lv_iadd hx hb dL_law_361 ?_
  refine va_sld hx hb hX hbl hbA hS hi5 dL_law_362 ?_
  refine law_cV (ad := adC) (ad2 := adM) (N := 197) (N2 := 23) (T := TC) (T2 := TM) (P := PC) (P2 := PM) (V := Vc) (V1 := Vc2) (V2 := Vm) (As := [.int (xs (nI (6 * k) + 1).toNatClampNeg), .int (xs (nI (6 * k) + 2).toNatClampNeg), .int (xs (nI (6 * k) + 3).toNatClampNeg), .int (xs (nI (6 * k) + 4).toNatClampNeg), .int (xs (nI (6 * k) + 5).toNatClampNeg)]) (rest := []) B hl.1 hP1 hP2 hD1 hdis hw1 hS (E_X5_change e1) (allI_s (allI_s (allI_s (allI_s (allI_s allI_0))))) rfl oX5_change iX5_change sX5_change kL_36 rfl (by decide) (nn := 13) (ci := 5) rfl rfl (Nat.le_of_ble_eq_true rfl) ⟨Nat.le_of_ble_eq_true rfl, Nat.le_of_ble_eq_true rfl⟩ ⟨rfl, rfl⟩ hcs dL_law_363 (fun H1 locs1 hP1 hP2 hD1 hw1 hS => ?_)
  refine lv_aload_n hx hb dL_law_366 rfl (lv_at hl 2 rfl) ?_
  refine lv_aload_n hx hb dL_law_367 rfl (lv_at hl 0 rfl) ?_
  refine lv_iload_n hx hb dL_law_368 rfl (lv_at hl 3 rfl) ?_
  refine lv_iconst (v := 1) hx hb dL_law_369 (by decide) ?_
  refine lv_iadd hx hb dL_law_370 ?_
  refine va_sld hx hb hX hbl hbA hS hi1 dL_law_371 ?_
  refine lv_aload_n hx hb dL_law_372 rfl (lv_at hl 0 rfl) ?_
  refine lv_iload_n hx hb dL_law_373 rfl (lv_at hl 3 rfl) ?_
  refine lv_iconst (v := 2) hx hb dL_law_374 (by decide) ?_
  refine lv_iadd hx hb dL_law_375 ?_
  refine va_sld hx hb hX hbl hbA hS hi2 dL_law_376 ?_
  refine lv_aload_n hx hb dL_law_377 rfl (lv_at hl 0 rfl) ?_
  refine lv_iload_n hx hb dL_law_378 rfl (lv_at hl 3 rfl) ?_
  refine lv_iconst (v := 3) hx hb dL_law_379 (by decide) ?_
  refine lv_iadd hx hb dL_law_380 ?_
  refine va_sld hx hb hX hbl hbA hS hi3 dL_law_381 ?_
  refine lv_aload_n hx hb dL_law_382 rfl (lv_at hl 0 rfl) ?_
  refine lv_iload_n hx hb dL_law_383 rfl (lv_at hl 3 rfl) ?_
  refine lv_iconst (v := 4) hx hb dL_law_384 (by decide) ?_
  refine lv_iadd hx hb dL_law_385 ?_
  refine va_sld hx hb hX hbl hbA hS hi4 dL_law_386 ?_
  refine lv_aload_n hx hb dL_law_387 rfl (lv_at hl 0 rfl) ?_
  refine lv_iload_n hx hb dL_law_388 rfl (lv_at hl 3 rfl) ?_
  refine lv_iconst (v := 5) hx hb dL_law_389 (by decide) ?_
  refine lv_iadd hx hb dL_law_390 ?_
  refine va_sld hx hb hX hbl hbA hS hi5 dL_law_391 ?_
  refine law_cV (ad := adM) (ad2 := adC) (N := 23) (N2 := 197) (T := TM) (T2 := TC) (P := PM) (P2 := PC) (V := Vm) (V1 := Vm2) (V2 := Vc2) (As := [.int (xs (nI (6 * k) + 1).toNatClampNeg), .int (xs (nI (6 * k) + 2).toNatClampNeg), .int (xs (nI (6 * k) + 3).toNatClampNeg), .int (xs (nI (6 * k) + 4).toNatClampNeg), .int (xs (nI (6 * k) + 5).toNatClampNeg)]) (rest := [.int r]) B hl.1 hP2 hP1 hD2 (fun i j hi hj h => hdis j i hj hi h.symm) hw2 hS (E_X6_change e2) (allI_s (allI_s (allI_s (allI_s (allI_s allI_0))))) rfl oX6_change iX6_change sX6_change kL_40 rfl (by decide) (nn := 29) (ci := 6) rfl rfl (Nat.le_of_ble_eq_true rfl) ⟨Nat.le_of_ble_eq_true rfl, Nat.le_of_ble_eq_true rfl⟩ ⟨rfl, rfl⟩ hcs dL_law_392 (fun H2 locs2 hP2 hP1 hD2 hw2 hS => ?_)
  refine lv_icmp_eq (tgt := 845) hx hb dL_law_395 (by decide) (fun _ => ?_) (fun q => absurd rfl q)
  exact cont Vc2 Vm2 _ _ ⟨hP1, hP2, hD1, hD2, hdis, hw1, hw2, hS⟩ hR2
set_option maxHeartbeats 4000000 in
set_option maxRecDepth 100000 in
theorem law_destroy {p : Program} {l : Launch} {e : Env} {s : State} {m : MethodId} {below : List Frame} {meth : Method} {c : Code} {D : va_G} {dA : Nat → ClassId} {b L : Nat} {xs : Nat → Int32} {adC adM : Nat → Nat} (hR : Nat → Mm → Mm → Prop) (S : Sims hR) (hret : meth.sig.returnType = ret) (hlocks : meth.locks = false) (B : LC p s m #[Value.ref b] c D dA) (hX : va_X b L xs s s.heap) (hbl : b < s.heap.size) (hL : L ≤ 3072) {k : Nat} (hk : k < 512) (hkL : 6 * k + 6 ≤ L) {Vc Vm : Mm} {H : Heap} {locs : List Loc} {cells slots : Nat} (hcs : cells ≤ 600000 ∧ slots ≤ 7302249) (W0 : LW D dA adC adM Vc Vm s H locs) (hRk : hR k Vc Vm) {ls : Array Slot} (hl : lv_has ls 4 [(0, .ref b), (1, .ref (adC 0)), (2, .ref (adM 0)), (3, .int (nI (6 * k)))]) (cont : (∀ (Vc2 Vm2 : Mm) (H1 : Heap) (locs1 : List Loc), LW D dA adC adM Vc2 Vm2 s H1 locs1 → hR (k + 1) Vc2 Vm2 → W p l e room_1 s m #[Value.ref b] below meth c H1 locs1 cells slots (lw_Z below #[Value.ref b] s) (F0 m 845 ls []))) : W p l e room_1 s m #[Value.ref b] below meth c H locs cells slots (lw_Z below #[Value.ref b] s) (F0 m 400 ls []) := by
  obtain ⟨r, Vc2, Vm2, e1, e2, hR2⟩ := (S k Vc Vm hk hRk).2.2.2.2.2.2.1 (xs (nI (6 * k) + 1).toNatClampNeg) (xs (nI (6 * k) + 2).toNatClampNeg) (xs (nI (6 * k) + 3).toNatClampNeg)
  obtain ⟨hx, hb, hml, hown, hts, hK, hKW, hXS⟩ := id B
  obtain ⟨hP1, hP2, hD1, hD2, hdis, hw1, hw2, hS⟩ := W0
  have hbA : ¬ (fun q : Nat => s.heap.size ≤ q) b := Nat.not_le.mpr hbl
  have hi1 : vp_in (nI (6 * k) + 1) L := by rw [show (nI (6 * k) + 1 : Int32) = nI (6 * k + 1) from nI_add (6 * k) 1]; exact vp_in_nI (by omega) (by omega)
  have hi2 : vp_in (nI (6 * k) + 2) L := by rw [show (nI (6 * k) + 2 : Int32) = nI (6 * k + 2) from nI_add (6 * k) 2]; exact vp_in_nI (by omega) (by omega)
  have hi3 : vp_in (nI (6 * k) + 3) L := by rw [show (nI (6 * k) + 3 : Int32) = nI (6 * k + 3) from nI_add (6 * k) 3]; exact vp_in_nI (by omega) (by omega)
  refine lv_aload_n hx hb dL_law_400 rfl (lv_at hl 1 rfl) ?_
  refine lv_aload_n hx hb dL_law_401 rfl (lv_at hl 0 rfl) ?_
  refine lv_iload_n hx hb dL_law_402 rfl (lv_at hl 3 rfl) ?_
  refine lv_iconst (v := 1) hx hb dL_law_403 (by decide) ?_
  refine lv_iadd hx hb dL_law_404 ?_
  refine va_sld hx hb hX hbl hbA hS hi1 dL_law_405 ?_
  refine lv_aload_n hx hb dL_law_406 rfl (lv_at hl 0 rfl) ?_
  refine lv_iload_n hx hb dL_law_407 rfl (lv_at hl 3 rfl) ?_
  refine lv_iconst (v := 2) hx hb dL_law_408 (by decide) ?_
  refine lv_iadd hx hb dL_law_409 ?_
  refine va_sld hx hb hX hbl hbA hS hi2 dL_law_410 ?_
  refine lv_aload_n hx hb dL_law_411 rfl (lv_at hl 0 rfl) ?_
  refine lv_iload_n hx hb dL_law_412 rfl (lv_at hl 3 rfl) ?_
  refine lv_iconst (v := 3) hx hb dL_law_413 (by decide) ?_
  refine lv_iadd hx hb dL_law_414 ?_
  refine va_sld hx hb hX hbl hbA hS hi3 dL_law_415 ?_
  refine law_cV (ad := adC) (ad2 := adM) (N := 197) (N2 := 23) (T := TC) (T2 := TM) (P := PC) (P2 := PM) (V := Vc) (V1 := Vc2) (V2 := Vm) (As := [.int (xs (nI (6 * k) + 1).toNatClampNeg), .int (xs (nI (6 * k) + 2).toNatClampNeg), .int (xs (nI (6 * k) + 3).toNatClampNeg)]) (rest := []) B hl.1 hP1 hP2 hD1 hdis hw1 hS (E_X5_destroy e1) (allI_s (allI_s (allI_s allI_0))) rfl oX5_destroy iX5_destroy sX5_destroy kL_41 rfl (by decide) (nn := 13) (ci := 5) rfl rfl (Nat.le_of_ble_eq_true rfl) ⟨Nat.le_of_ble_eq_true rfl, Nat.le_of_ble_eq_true rfl⟩ ⟨rfl, rfl⟩ hcs dL_law_416 (fun H1 locs1 hP1 hP2 hD1 hw1 hS => ?_)
  refine lv_aload_n hx hb dL_law_419 rfl (lv_at hl 2 rfl) ?_
  refine lv_aload_n hx hb dL_law_420 rfl (lv_at hl 0 rfl) ?_
  refine lv_iload_n hx hb dL_law_421 rfl (lv_at hl 3 rfl) ?_
  refine lv_iconst (v := 1) hx hb dL_law_422 (by decide) ?_
  refine lv_iadd hx hb dL_law_423 ?_
  refine va_sld hx hb hX hbl hbA hS hi1 dL_law_424 ?_
  refine lv_aload_n hx hb dL_law_425 rfl (lv_at hl 0 rfl) ?_
  refine lv_iload_n hx hb dL_law_426 rfl (lv_at hl 3 rfl) ?_
  refine lv_iconst (v := 2) hx hb dL_law_427 (by decide) ?_
  refine lv_iadd hx hb dL_law_428 ?_
  refine va_sld hx hb hX hbl hbA hS hi2 dL_law_429 ?_
  refine lv_aload_n hx hb dL_law_430 rfl (lv_at hl 0 rfl) ?_
  refine lv_iload_n hx hb dL_law_431 rfl (lv_at hl 3 rfl) ?_
  refine lv_iconst (v := 3) hx hb dL_law_432 (by decide) ?_
  refine lv_iadd hx hb dL_law_433 ?_
  refine va_sld hx hb hX hbl hbA hS hi3 dL_law_434 ?_
  refine law_cV (ad := adM) (ad2 := adC) (N := 23) (N2 := 197) (T := TM) (T2 := TC) (P := PM) (P2 := PC) (V := Vm) (V1 := Vm2) (V2 := Vc2) (As := [.int (xs (nI (6 * k) + 1).toNatClampNeg), .int (xs (nI (6 * k) + 2).toNatClampNeg), .int (xs (nI (6 * k) + 3).toNatClampNeg)]) (rest := [.int r]) B hl.1 hP2 hP1 hD2 (fun i j hi hj h => hdis j i hj hi h.symm) hw2 hS (E_X6_destroy e2) (allI_s (allI_s (allI_s allI_0))) rfl oX6_destroy iX6_destroy sX6_destroy kL_44 rfl (by decide) (nn := 29) (ci := 6) rfl rfl (Nat.le_of_ble_eq_true rfl) ⟨Nat.le_of_ble_eq_true rfl, Nat.le_of_ble_eq_true rfl⟩ ⟨rfl, rfl⟩ hcs dL_law_435 (fun H2 locs2 hP2 hP1 hD2 hw2 hS => ?_)
  refine lv_icmp_eq (tgt := 845) hx hb dL_law_438 (by decide) (fun _ => ?_) (fun q => absurd rfl q)
  exact cont Vc2 Vm2 _ _ ⟨hP1, hP2, hD1, hD2, hdis, hw1, hw2, hS⟩ hR2
set_option maxHeartbeats 4000000 in
set_option maxRecDepth 100000 in
theorem law_crash {p : Program} {l : Launch} {e : Env} {s : State} {m : MethodId} {below : List Frame} {meth : Method} {c : Code} {D : va_G} {dA : Nat → ClassId} {b L : Nat} {xs : Nat → Int32} {adC adM : Nat → Nat} (hR : Nat → Mm → Mm → Prop) (S : Sims hR) (hret : meth.sig.returnType = ret) (hlocks : meth.locks = false) (B : LC p s m #[Value.ref b] c D dA) (hX : va_X b L xs s s.heap) (hbl : b < s.heap.size) (hL : L ≤ 3072) {k : Nat} (hk : k < 512) (hkL : 6 * k + 6 ≤ L) {Vc Vm : Mm} {H : Heap} {locs : List Loc} {cells slots : Nat} (hcs : cells ≤ 600000 ∧ slots ≤ 7302249) (W0 : LW D dA adC adM Vc Vm s H locs) (hRk : hR k Vc Vm) {ls : Array Slot} (hl : lv_has ls 4 [(0, .ref b), (1, .ref (adC 0)), (2, .ref (adM 0)), (3, .int (nI (6 * k)))]) (cont : (∀ (Vc2 Vm2 : Mm) (H1 : Heap) (locs1 : List Loc), LW D dA adC adM Vc2 Vm2 s H1 locs1 → hR (k + 1) Vc2 Vm2 → W p l e room_1 s m #[Value.ref b] below meth c H1 locs1 cells slots (lw_Z below #[Value.ref b] s) (F0 m 845 ls []))) : W p l e room_1 s m #[Value.ref b] below meth c H locs cells slots (lw_Z below #[Value.ref b] s) (F0 m 443 ls []) := by
  obtain ⟨r, Vc2, Vm2, e1, e2, hR2⟩ := (S k Vc Vm hk hRk).2.2.2.2.2.2.2.1 (xs (nI (6 * k) + 1).toNatClampNeg)
  obtain ⟨hx, hb, hml, hown, hts, hK, hKW, hXS⟩ := id B
  obtain ⟨hP1, hP2, hD1, hD2, hdis, hw1, hw2, hS⟩ := W0
  have hbA : ¬ (fun q : Nat => s.heap.size ≤ q) b := Nat.not_le.mpr hbl
  have hi1 : vp_in (nI (6 * k) + 1) L := by rw [show (nI (6 * k) + 1 : Int32) = nI (6 * k + 1) from nI_add (6 * k) 1]; exact vp_in_nI (by omega) (by omega)
  refine lv_aload_n hx hb dL_law_443 rfl (lv_at hl 1 rfl) ?_
  refine lv_aload_n hx hb dL_law_444 rfl (lv_at hl 0 rfl) ?_
  refine lv_iload_n hx hb dL_law_445 rfl (lv_at hl 3 rfl) ?_
  refine lv_iconst (v := 1) hx hb dL_law_446 (by decide) ?_
  refine lv_iadd hx hb dL_law_447 ?_
  refine va_sld hx hb hX hbl hbA hS hi1 dL_law_448 ?_
  refine law_cV (ad := adC) (ad2 := adM) (N := 197) (N2 := 23) (T := TC) (T2 := TM) (P := PC) (P2 := PM) (V := Vc) (V1 := Vc2) (V2 := Vm) (As := [.int (xs (nI (6 * k) + 1).toNatClampNeg)]) (rest := []) B hl.1 hP1 hP2 hD1 hdis hw1 hS (E_X5_crash e1) (allI_s allI_0) rfl oX5_crash iX5_crash sX5_crash kL_45 rfl (by decide) (nn := 13) (ci := 5) rfl rfl (Nat.le_of_ble_eq_true rfl) ⟨Nat.le_of_ble_eq_true rfl, Nat.le_of_ble_eq_true rfl⟩ ⟨rfl, rfl⟩ hcs dL_law_449 (fun H1 locs1 hP1 hP2 hD1 hw1 hS => ?_)
  refine lv_aload_n hx hb dL_law_452 rfl (lv_at hl 2 rfl) ?_
  refine lv_aload_n hx hb dL_law_453 rfl (lv_at hl 0 rfl) ?_
  refine lv_iload_n hx hb dL_law_454 rfl (lv_at hl 3 rfl) ?_
  refine lv_iconst (v := 1) hx hb dL_law_455 (by decide) ?_
  refine lv_iadd hx hb dL_law_456 ?_
  refine va_sld hx hb hX hbl hbA hS hi1 dL_law_457 ?_
  refine law_cV (ad := adM) (ad2 := adC) (N := 23) (N2 := 197) (T := TM) (T2 := TC) (P := PM) (P2 := PC) (V := Vm) (V1 := Vm2) (V2 := Vc2) (As := [.int (xs (nI (6 * k) + 1).toNatClampNeg)]) (rest := [.int r]) B hl.1 hP2 hP1 hD2 (fun i j hi hj h => hdis j i hj hi h.symm) hw2 hS (E_X6_crash e2) (allI_s allI_0) rfl oX6_crash iX6_crash sX6_crash kL_49 rfl (by decide) (nn := 29) (ci := 6) rfl rfl (Nat.le_of_ble_eq_true rfl) ⟨Nat.le_of_ble_eq_true rfl, Nat.le_of_ble_eq_true rfl⟩ ⟨rfl, rfl⟩ hcs dL_law_458 (fun H2 locs2 hP2 hP1 hD2 hw2 hS => ?_)
  refine lv_icmp_eq (tgt := 845) hx hb dL_law_461 (by decide) (fun _ => ?_) (fun q => absurd rfl q)
  exact cont Vc2 Vm2 _ _ ⟨hP1, hP2, hD1, hD2, hdis, hw1, hw2, hS⟩ hR2
set_option maxHeartbeats 4000000 in
set_option maxRecDepth 100000 in
theorem law_run {p : Program} {l : Launch} {e : Env} {s : State} {m : MethodId} {below : List Frame} {meth : Method} {c : Code} {D : va_G} {dA : Nat → ClassId} {b L : Nat} {xs : Nat → Int32} {adC adM : Nat → Nat} (hR : Nat → Mm → Mm → Prop) (S : Sims hR) (hret : meth.sig.returnType = ret) (hlocks : meth.locks = false) (B : LC p s m #[Value.ref b] c D dA) (hX : va_X b L xs s s.heap) (hbl : b < s.heap.size) (hL : L ≤ 3072) {k : Nat} (hk : k < 512) (hkL : 6 * k + 6 ≤ L) {Vc Vm : Mm} {H : Heap} {locs : List Loc} {cells slots : Nat} (hcs : cells ≤ 600000 ∧ slots ≤ 7302249) (W0 : LW D dA adC adM Vc Vm s H locs) (hRk : hR k Vc Vm) {ls : Array Slot} (hl : lv_has ls 4 [(0, .ref b), (1, .ref (adC 0)), (2, .ref (adM 0)), (3, .int (nI (6 * k)))]) (cont : (∀ (Vc2 Vm2 : Mm) (H1 : Heap) (locs1 : List Loc), LW D dA adC adM Vc2 Vm2 s H1 locs1 → hR (k + 1) Vc2 Vm2 → W p l e room_1 s m #[Value.ref b] below meth c H1 locs1 cells slots (lw_Z below #[Value.ref b] s) (F0 m 845 ls []))) : W p l e room_1 s m #[Value.ref b] below meth c H locs cells slots (lw_Z below #[Value.ref b] s) (F0 m 466 ls []) := by
  obtain ⟨r, Vc2, Vm2, e1, e2, hR2⟩ := (S k Vc Vm hk hRk).2.2.2.2.2.2.2.2.1 
  obtain ⟨hx, hb, hml, hown, hts, hK, hKW, hXS⟩ := id B
  obtain ⟨hP1, hP2, hD1, hD2, hdis, hw1, hw2, hS⟩ := W0
  have hbA : ¬ (fun q : Nat => s.heap.size ≤ q) b := Nat.not_le.mpr hbl
  refine lv_aload_n hx hb dL_law_466 rfl (lv_at hl 1 rfl) ?_
  refine law_cV (ad := adC) (ad2 := adM) (N := 197) (N2 := 23) (T := TC) (T2 := TM) (P := PC) (P2 := PM) (V := Vc) (V1 := Vc2) (V2 := Vm) (As := []) (rest := []) B hl.1 hP1 hP2 hD1 hdis hw1 hS (E_X5_run e1) allI_0 rfl oX5_run iX5_run sX5_run kL_50 rfl (by decide) (nn := 13) (ci := 5) rfl rfl (Nat.le_of_ble_eq_true rfl) ⟨Nat.le_of_ble_eq_true rfl, Nat.le_of_ble_eq_true rfl⟩ ⟨rfl, rfl⟩ hcs dL_law_467 (fun H1 locs1 hP1 hP2 hD1 hw1 hS => ?_)
  refine lv_aload_n hx hb dL_law_470 rfl (lv_at hl 2 rfl) ?_
  refine law_cV (ad := adM) (ad2 := adC) (N := 23) (N2 := 197) (T := TM) (T2 := TC) (P := PM) (P2 := PC) (V := Vm) (V1 := Vm2) (V2 := Vc2) (As := []) (rest := [.int r]) B hl.1 hP2 hP1 hD2 (fun i j hi hj h => hdis j i hj hi h.symm) hw2 hS (E_X6_run e2) allI_0 rfl oX6_run iX6_run sX6_run kL_54 rfl (by decide) (nn := 29) (ci := 6) rfl rfl (Nat.le_of_ble_eq_true rfl) ⟨Nat.le_of_ble_eq_true rfl, Nat.le_of_ble_eq_true rfl⟩ ⟨rfl, rfl⟩ hcs dL_law_471 (fun H2 locs2 hP2 hP1 hD2 hw2 hS => ?_)
  refine lv_icmp_eq (tgt := 845) hx hb dL_law_474 (by decide) (fun _ => ?_) (fun q => absurd rfl q)
  exact cont Vc2 Vm2 _ _ ⟨hP1, hP2, hD1, hD2, hdis, hw1, hw2, hS⟩ hR2
set_option maxHeartbeats 4000000 in
set_option maxRecDepth 100000 in
theorem law_drop {p : Program} {l : Launch} {e : Env} {s : State} {m : MethodId} {below : List Frame} {meth : Method} {c : Code} {D : va_G} {dA : Nat → ClassId} {b L : Nat} {xs : Nat → Int32} {adC adM : Nat → Nat} (hR : Nat → Mm → Mm → Prop) (S : Sims hR) (hret : meth.sig.returnType = ret) (hlocks : meth.locks = false) (B : LC p s m #[Value.ref b] c D dA) (hX : va_X b L xs s s.heap) (hbl : b < s.heap.size) (hL : L ≤ 3072) {k : Nat} (hk : k < 512) (hkL : 6 * k + 6 ≤ L) {Vc Vm : Mm} {H : Heap} {locs : List Loc} {cells slots : Nat} (hcs : cells ≤ 600000 ∧ slots ≤ 7302249) (W0 : LW D dA adC adM Vc Vm s H locs) (hRk : hR k Vc Vm) {ls : Array Slot} (hl : lv_has ls 4 [(0, .ref b), (1, .ref (adC 0)), (2, .ref (adM 0)), (3, .int (nI (6 * k)))]) (cont : (∀ (Vc2 Vm2 : Mm) (H1 : Heap) (locs1 : List Loc), LW D dA adC adM Vc2 Vm2 s H1 locs1 → hR (k + 1) Vc2 Vm2 → W p l e room_1 s m #[Value.ref b] below meth c H1 locs1 cells slots (lw_Z below #[Value.ref b] s) (F0 m 845 ls []))) : W p l e room_1 s m #[Value.ref b] below meth c H locs cells slots (lw_Z below #[Value.ref b] s) (F0 m 479 ls []) := by
  obtain ⟨r, Vc2, Vm2, e1, e2, hR2⟩ := (S k Vc Vm hk hRk).2.2.2.2.2.2.2.2.2.1 
  obtain ⟨hx, hb, hml, hown, hts, hK, hKW, hXS⟩ := id B
  obtain ⟨hP1, hP2, hD1, hD2, hdis, hw1, hw2, hS⟩ := W0
  have hbA : ¬ (fun q : Nat => s.heap.size ≤ q) b := Nat.not_le.mpr hbl
  refine lv_aload_n hx hb dL_law_479 rfl (lv_at hl 1 rfl) ?_
  refine law_cV (ad := adC) (ad2 := adM) (N := 197) (N2 := 23) (T := TC) (T2 := TM) (P := PC) (P2 := PM) (V := Vc) (V1 := Vc2) (V2 := Vm) (As := []) (rest := []) B hl.1 hP1 hP2 hD1 hdis hw1 hS (E_X5_drop e1) allI_0 rfl oX5_drop iX5_drop sX5_drop kL_55 rfl (by decide) (nn := 13) (ci := 5) rfl rfl (Nat.le_of_ble_eq_true rfl) ⟨Nat.le_of_ble_eq_true rfl, Nat.le_of_ble_eq_true rfl⟩ ⟨rfl, rfl⟩ hcs dL_law_480 (fun H1 locs1 hP1 hP2 hD1 hw1 hS => ?_)
  refine lv_aload_n hx hb dL_law_483 rfl (lv_at hl 2 rfl) ?_
  refine law_cV (ad := adM) (ad2 := adC) (N := 23) (N2 := 197) (T := TM) (T2 := TC) (P := PM) (P2 := PC) (V := Vm) (V1 := Vm2) (V2 := Vc2) (As := []) (rest := [.int r]) B hl.1 hP2 hP1 hD2 (fun i j hi hj h => hdis j i hj hi h.symm) hw2 hS (E_X6_drop e2) allI_0 rfl oX6_drop iX6_drop sX6_drop kL_58 rfl (by decide) (nn := 29) (ci := 6) rfl rfl (Nat.le_of_ble_eq_true rfl) ⟨Nat.le_of_ble_eq_true rfl, Nat.le_of_ble_eq_true rfl⟩ ⟨rfl, rfl⟩ hcs dL_law_484 (fun H2 locs2 hP2 hP1 hD2 hw2 hS => ?_)
  refine lv_icmp_eq (tgt := 845) hx hb dL_law_487 (by decide) (fun _ => ?_) (fun q => absurd rfl q)
  exact cont Vc2 Vm2 _ _ ⟨hP1, hP2, hD1, hD2, hdis, hw1, hw2, hS⟩ hR2
set_option maxHeartbeats 4000000 in
set_option maxRecDepth 100000 in
theorem law_status {p : Program} {l : Launch} {e : Env} {s : State} {m : MethodId} {below : List Frame} {meth : Method} {c : Code} {D : va_G} {dA : Nat → ClassId} {b L : Nat} {xs : Nat → Int32} {adC adM : Nat → Nat} (hR : Nat → Mm → Mm → Prop) (S : Sims hR) (hret : meth.sig.returnType = ret) (hlocks : meth.locks = false) (B : LC p s m #[Value.ref b] c D dA) (hX : va_X b L xs s s.heap) (hbl : b < s.heap.size) (hL : L ≤ 3072) {k : Nat} (hk : k < 512) (hkL : 6 * k + 6 ≤ L) {Vc Vm : Mm} {H : Heap} {locs : List Loc} {cells slots : Nat} (hcs : cells ≤ 600000 ∧ slots ≤ 7302249) (W0 : LW D dA adC adM Vc Vm s H locs) (hRk : hR k Vc Vm) {ls : Array Slot} (hl : lv_has ls 4 [(0, .ref b), (1, .ref (adC 0)), (2, .ref (adM 0)), (3, .int (nI (6 * k)))]) (cont : (∀ (Vc2 Vm2 : Mm) (H1 : Heap) (locs1 : List Loc), LW D dA adC adM Vc2 Vm2 s H1 locs1 → hR (k + 1) Vc2 Vm2 → W p l e room_1 s m #[Value.ref b] below meth c H1 locs1 cells slots (lw_Z below #[Value.ref b] s) (F0 m 845 ls []))) : W p l e room_1 s m #[Value.ref b] below meth c H locs cells slots (lw_Z below #[Value.ref b] s) (F0 m 492 ls []) := by
  obtain ⟨r, e1, e2, hR2⟩ := (S k Vc Vm hk hRk).2.2.2.2.2.2.2.2.2.2.1 (xs (nI (6 * k) + 1).toNatClampNeg)
  obtain ⟨hx, hb, hml, hown, hts, hK, hKW, hXS⟩ := id B
  obtain ⟨hP1, hP2, hD1, hD2, hdis, hw1, hw2, hS⟩ := W0
  have hbA : ¬ (fun q : Nat => s.heap.size ≤ q) b := Nat.not_le.mpr hbl
  have hi1 : vp_in (nI (6 * k) + 1) L := by rw [show (nI (6 * k) + 1 : Int32) = nI (6 * k + 1) from nI_add (6 * k) 1]; exact vp_in_nI (by omega) (by omega)
  refine lv_aload_n hx hb dL_law_492 rfl (lv_at hl 1 rfl) ?_
  refine lv_aload_n hx hb dL_law_493 rfl (lv_at hl 0 rfl) ?_
  refine lv_iload_n hx hb dL_law_494 rfl (lv_at hl 3 rfl) ?_
  refine lv_iconst (v := 1) hx hb dL_law_495 (by decide) ?_
  refine lv_iadd hx hb dL_law_496 ?_
  refine va_sld hx hb hX hbl hbA hS hi1 dL_law_497 ?_
  refine law_cV (ad := adC) (ad2 := adM) (N := 197) (N2 := 23) (T := TC) (T2 := TM) (P := PC) (P2 := PM) (V := Vc) (V1 := Vc) (V2 := Vm) (As := [.int (xs (nI (6 * k) + 1).toNatClampNeg)]) (rest := []) B hl.1 hP1 hP2 hD1 hdis hw1 hS (E_X5_status e1) (allI_s allI_0) rfl oX5_status iX5_status sX5_status kL_59 rfl (by decide) (nn := 13) (ci := 5) rfl rfl (Nat.le_of_ble_eq_true rfl) ⟨Nat.le_of_ble_eq_true rfl, Nat.le_of_ble_eq_true rfl⟩ ⟨rfl, rfl⟩ hcs dL_law_498 (fun H1 locs1 hP1 hP2 hD1 hw1 hS => ?_)
  refine lv_aload_n hx hb dL_law_501 rfl (lv_at hl 2 rfl) ?_
  refine lv_aload_n hx hb dL_law_502 rfl (lv_at hl 0 rfl) ?_
  refine lv_iload_n hx hb dL_law_503 rfl (lv_at hl 3 rfl) ?_
  refine lv_iconst (v := 1) hx hb dL_law_504 (by decide) ?_
  refine lv_iadd hx hb dL_law_505 ?_
  refine va_sld hx hb hX hbl hbA hS hi1 dL_law_506 ?_
  refine law_cV (ad := adM) (ad2 := adC) (N := 23) (N2 := 197) (T := TM) (T2 := TC) (P := PM) (P2 := PC) (V := Vm) (V1 := Vm) (V2 := Vc) (As := [.int (xs (nI (6 * k) + 1).toNatClampNeg)]) (rest := [.int r]) B hl.1 hP2 hP1 hD2 (fun i j hi hj h => hdis j i hj hi h.symm) hw2 hS (E_X6_status e2) (allI_s allI_0) rfl oX6_status iX6_status sX6_status kL_62 rfl (by decide) (nn := 29) (ci := 6) rfl rfl (Nat.le_of_ble_eq_true rfl) ⟨Nat.le_of_ble_eq_true rfl, Nat.le_of_ble_eq_true rfl⟩ ⟨rfl, rfl⟩ hcs dL_law_507 (fun H2 locs2 hP2 hP1 hD2 hw2 hS => ?_)
  refine lv_icmp_eq (tgt := 845) hx hb dL_law_510 (by decide) (fun _ => ?_) (fun q => absurd rfl q)
  exact cont Vc Vm _ _ ⟨hP1, hP2, hD1, hD2, hdis, hw1, hw2, hS⟩ hR2
set_option maxHeartbeats 4000000 in
set_option maxRecDepth 100000 in
theorem law_many {p : Program} {l : Launch} {e : Env} {s : State} {m : MethodId} {below : List Frame} {meth : Method} {c : Code} {D : va_G} {dA : Nat → ClassId} {b L : Nat} {xs : Nat → Int32} {adC adM : Nat → Nat} (hR : Nat → Mm → Mm → Prop) (S : Sims hR) (hret : meth.sig.returnType = ret) (hlocks : meth.locks = false) (B : LC p s m #[Value.ref b] c D dA) (hX : va_X b L xs s s.heap) (hbl : b < s.heap.size) (hL : L ≤ 3072) {k : Nat} (hk : k < 512) (hkL : 6 * k + 6 ≤ L) {Vc Vm : Mm} {H : Heap} {locs : List Loc} {cells slots : Nat} (hcs : cells ≤ 600000 ∧ slots ≤ 7302249) (W0 : LW D dA adC adM Vc Vm s H locs) (hRk : hR k Vc Vm) {ls : Array Slot} (hl : lv_has ls 4 [(0, .ref b), (1, .ref (adC 0)), (2, .ref (adM 0)), (3, .int (nI (6 * k)))]) (cont : (∀ (Vc2 Vm2 : Mm) (H1 : Heap) (locs1 : List Loc), LW D dA adC adM Vc2 Vm2 s H1 locs1 → hR (k + 1) Vc2 Vm2 → W p l e room_1 s m #[Value.ref b] below meth c H1 locs1 cells slots (lw_Z below #[Value.ref b] s) (F0 m 845 ls []))) : W p l e room_1 s m #[Value.ref b] below meth c H locs cells slots (lw_Z below #[Value.ref b] s) (F0 m 515 ls []) := by
  obtain ⟨r, e1, e2, hR2⟩ := (S k Vc Vm hk hRk).2.2.2.2.2.2.2.2.2.2.2.1 (xs (nI (6 * k) + 1).toNatClampNeg) (xs (nI (6 * k) + 2).toNatClampNeg)
  obtain ⟨hx, hb, hml, hown, hts, hK, hKW, hXS⟩ := id B
  obtain ⟨hP1, hP2, hD1, hD2, hdis, hw1, hw2, hS⟩ := W0
  have hbA : ¬ (fun q : Nat => s.heap.size ≤ q) b := Nat.not_le.mpr hbl
  have hi1 : vp_in (nI (6 * k) + 1) L := by rw [show (nI (6 * k) + 1 : Int32) = nI (6 * k + 1) from nI_add (6 * k) 1]; exact vp_in_nI (by omega) (by omega)
  have hi2 : vp_in (nI (6 * k) + 2) L := by rw [show (nI (6 * k) + 2 : Int32) = nI (6 * k + 2) from nI_add (6 * k) 2]; exact vp_in_nI (by omega) (by omega)
  refine lv_aload_n hx hb dL_law_515 rfl (lv_at hl 1 rfl) ?_
  refine lv_aload_n hx hb dL_law_516 rfl (lv_at hl 0 rfl) ?_
  refine lv_iload_n hx hb dL_law_517 rfl (lv_at hl 3 rfl) ?_
  refine lv_iconst (v := 1) hx hb dL_law_518 (by decide) ?_
  refine lv_iadd hx hb dL_law_519 ?_
  refine va_sld hx hb hX hbl hbA hS hi1 dL_law_520 ?_
  refine lv_aload_n hx hb dL_law_521 rfl (lv_at hl 0 rfl) ?_
  refine lv_iload_n hx hb dL_law_522 rfl (lv_at hl 3 rfl) ?_
  refine lv_iconst (v := 2) hx hb dL_law_523 (by decide) ?_
  refine lv_iadd hx hb dL_law_524 ?_
  refine va_sld hx hb hX hbl hbA hS hi2 dL_law_525 ?_
  refine law_cV (ad := adC) (ad2 := adM) (N := 197) (N2 := 23) (T := TC) (T2 := TM) (P := PC) (P2 := PM) (V := Vc) (V1 := Vc) (V2 := Vm) (As := [.int (xs (nI (6 * k) + 1).toNatClampNeg), .int (xs (nI (6 * k) + 2).toNatClampNeg)]) (rest := []) B hl.1 hP1 hP2 hD1 hdis hw1 hS (E_X5_many e1) (allI_s (allI_s allI_0)) rfl oX5_many iX5_many sX5_many kL_63 rfl (by decide) (nn := 13) (ci := 5) rfl rfl (Nat.le_of_ble_eq_true rfl) ⟨Nat.le_of_ble_eq_true rfl, Nat.le_of_ble_eq_true rfl⟩ ⟨rfl, rfl⟩ hcs dL_law_526 (fun H1 locs1 hP1 hP2 hD1 hw1 hS => ?_)
  refine lv_aload_n hx hb dL_law_529 rfl (lv_at hl 2 rfl) ?_
  refine lv_aload_n hx hb dL_law_530 rfl (lv_at hl 0 rfl) ?_
  refine lv_iload_n hx hb dL_law_531 rfl (lv_at hl 3 rfl) ?_
  refine lv_iconst (v := 1) hx hb dL_law_532 (by decide) ?_
  refine lv_iadd hx hb dL_law_533 ?_
  refine va_sld hx hb hX hbl hbA hS hi1 dL_law_534 ?_
  refine lv_aload_n hx hb dL_law_535 rfl (lv_at hl 0 rfl) ?_
  refine lv_iload_n hx hb dL_law_536 rfl (lv_at hl 3 rfl) ?_
  refine lv_iconst (v := 2) hx hb dL_law_537 (by decide) ?_
  refine lv_iadd hx hb dL_law_538 ?_
  refine va_sld hx hb hX hbl hbA hS hi2 dL_law_539 ?_
  refine law_cV (ad := adM) (ad2 := adC) (N := 23) (N2 := 197) (T := TM) (T2 := TC) (P := PM) (P2 := PC) (V := Vm) (V1 := Vm) (V2 := Vc) (As := [.int (xs (nI (6 * k) + 1).toNatClampNeg), .int (xs (nI (6 * k) + 2).toNatClampNeg)]) (rest := [.int r]) B hl.1 hP2 hP1 hD2 (fun i j hi hj h => hdis j i hj hi h.symm) hw2 hS (E_X6_many e2) (allI_s (allI_s allI_0)) rfl oX6_many iX6_many sX6_many kL_66 rfl (by decide) (nn := 29) (ci := 6) rfl rfl (Nat.le_of_ble_eq_true rfl) ⟨Nat.le_of_ble_eq_true rfl, Nat.le_of_ble_eq_true rfl⟩ ⟨rfl, rfl⟩ hcs dL_law_540 (fun H2 locs2 hP2 hP1 hD2 hw2 hS => ?_)
  refine lv_icmp_eq (tgt := 845) hx hb dL_law_543 (by decide) (fun _ => ?_) (fun q => absurd rfl q)
  exact cont Vc Vm _ _ ⟨hP1, hP2, hD1, hD2, hdis, hw1, hw2, hS⟩ hR2
set_option maxHeartbeats 4000000 in
set_option maxRecDepth 100000 in
theorem law_given {p : Program} {l : Launch} {e : Env} {s : State} {m : MethodId} {below : List Frame} {meth : Method} {c : Code} {D : va_G} {dA : Nat → ClassId} {b L : Nat} {xs : Nat → Int32} {adC adM : Nat → Nat} (hR : Nat → Mm → Mm → Prop) (S : Sims hR) (hret : meth.sig.returnType = ret) (hlocks : meth.locks = false) (B : LC p s m #[Value.ref b] c D dA) (hX : va_X b L xs s s.heap) (hbl : b < s.heap.size) (hL : L ≤ 3072) {k : Nat} (hk : k < 512) (hkL : 6 * k + 6 ≤ L) {Vc Vm : Mm} {H : Heap} {locs : List Loc} {cells slots : Nat} (hcs : cells ≤ 600000 ∧ slots ≤ 7302249) (W0 : LW D dA adC adM Vc Vm s H locs) (hRk : hR k Vc Vm) {ls : Array Slot} (hl : lv_has ls 4 [(0, .ref b), (1, .ref (adC 0)), (2, .ref (adM 0)), (3, .int (nI (6 * k)))]) (cont : (∀ (Vc2 Vm2 : Mm) (H1 : Heap) (locs1 : List Loc), LW D dA adC adM Vc2 Vm2 s H1 locs1 → hR (k + 1) Vc2 Vm2 → W p l e room_1 s m #[Value.ref b] below meth c H1 locs1 cells slots (lw_Z below #[Value.ref b] s) (F0 m 845 ls []))) : W p l e room_1 s m #[Value.ref b] below meth c H locs cells slots (lw_Z below #[Value.ref b] s) (F0 m 548 ls []) := by
  obtain ⟨r, e1, e2, hR2⟩ := (S k Vc Vm hk hRk).2.2.2.2.2.2.2.2.2.2.2.2.1 (xs (nI (6 * k) + 1).toNatClampNeg) (xs (nI (6 * k) + 2).toNatClampNeg) (xs (nI (6 * k) + 3).toNatClampNeg)
  obtain ⟨hx, hb, hml, hown, hts, hK, hKW, hXS⟩ := id B
  obtain ⟨hP1, hP2, hD1, hD2, hdis, hw1, hw2, hS⟩ := W0
  have hbA : ¬ (fun q : Nat => s.heap.size ≤ q) b := Nat.not_le.mpr hbl
  have hi1 : vp_in (nI (6 * k) + 1) L := by rw [show (nI (6 * k) + 1 : Int32) = nI (6 * k + 1) from nI_add (6 * k) 1]; exact vp_in_nI (by omega) (by omega)
  have hi2 : vp_in (nI (6 * k) + 2) L := by rw [show (nI (6 * k) + 2 : Int32) = nI (6 * k + 2) from nI_add (6 * k) 2]; exact vp_in_nI (by omega) (by omega)
  have hi3 : vp_in (nI (6 * k) + 3) L := by rw [show (nI (6 * k) + 3 : Int32) = nI (6 * k + 3) from nI_add (6 * k) 3]; exact vp_in_nI (by omega) (by omega)
  refine lv_aload_n hx hb dL_law_548 rfl (lv_at hl 1 rfl) ?_
  refine lv_aload_n hx hb dL_law_549 rfl (lv_at hl 0 rfl) ?_
  refine lv_iload_n hx hb dL_law_550 rfl (lv_at hl 3 rfl) ?_
  refine lv_iconst (v := 1) hx hb dL_law_551 (by decide) ?_
  refine lv_iadd hx hb dL_law_552 ?_
  refine va_sld hx hb hX hbl hbA hS hi1 dL_law_553 ?_
  refine lv_aload_n hx hb dL_law_554 rfl (lv_at hl 0 rfl) ?_
  refine lv_iload_n hx hb dL_law_555 rfl (lv_at hl 3 rfl) ?_
  refine lv_iconst (v := 2) hx hb dL_law_556 (by decide) ?_
  refine lv_iadd hx hb dL_law_557 ?_
  refine va_sld hx hb hX hbl hbA hS hi2 dL_law_558 ?_
  refine lv_aload_n hx hb dL_law_559 rfl (lv_at hl 0 rfl) ?_
  refine lv_iload_n hx hb dL_law_560 rfl (lv_at hl 3 rfl) ?_
  refine lv_iconst (v := 3) hx hb dL_law_561 (by decide) ?_
  refine lv_iadd hx hb dL_law_562 ?_
  refine va_sld hx hb hX hbl hbA hS hi3 dL_law_563 ?_
  refine law_cV (ad := adC) (ad2 := adM) (N := 197) (N2 := 23) (T := TC) (T2 := TM) (P := PC) (P2 := PM) (V := Vc) (V1 := Vc) (V2 := Vm) (As := [.int (xs (nI (6 * k) + 1).toNatClampNeg), .int (xs (nI (6 * k) + 2).toNatClampNeg), .int (xs (nI (6 * k) + 3).toNatClampNeg)]) (rest := []) B hl.1 hP1 hP2 hD1 hdis hw1 hS (E_X5_given e1) (allI_s (allI_s (allI_s allI_0))) rfl oX5_given iX5_given sX5_given kL_67 rfl (by decide) (nn := 13) (ci := 5) rfl rfl (Nat.le_of_ble_eq_true rfl) ⟨Nat.le_of_ble_eq_true rfl, Nat.le_of_ble_eq_true rfl⟩ ⟨rfl, rfl⟩ hcs dL_law_564 (fun H1 locs1 hP1 hP2 hD1 hw1 hS => ?_)
  refine lv_aload_n hx hb dL_law_567 rfl (lv_at hl 2 rfl) ?_
  refine lv_aload_n hx hb dL_law_568 rfl (lv_at hl 0 rfl) ?_
  refine lv_iload_n hx hb dL_law_569 rfl (lv_at hl 3 rfl) ?_
  refine lv_iconst (v := 1) hx hb dL_law_570 (by decide) ?_
  refine lv_iadd hx hb dL_law_571 ?_
  refine va_sld hx hb hX hbl hbA hS hi1 dL_law_572 ?_
  refine lv_aload_n hx hb dL_law_573 rfl (lv_at hl 0 rfl) ?_
  refine lv_iload_n hx hb dL_law_574 rfl (lv_at hl 3 rfl) ?_
  refine lv_iconst (v := 2) hx hb dL_law_575 (by decide) ?_
  refine lv_iadd hx hb dL_law_576 ?_
  refine va_sld hx hb hX hbl hbA hS hi2 dL_law_577 ?_
  refine lv_aload_n hx hb dL_law_578 rfl (lv_at hl 0 rfl) ?_
  refine lv_iload_n hx hb dL_law_579 rfl (lv_at hl 3 rfl) ?_
  refine lv_iconst (v := 3) hx hb dL_law_580 (by decide) ?_
  refine lv_iadd hx hb dL_law_581 ?_
  refine va_sld hx hb hX hbl hbA hS hi3 dL_law_582 ?_
  refine law_cV (ad := adM) (ad2 := adC) (N := 23) (N2 := 197) (T := TM) (T2 := TC) (P := PM) (P2 := PC) (V := Vm) (V1 := Vm) (V2 := Vc) (As := [.int (xs (nI (6 * k) + 1).toNatClampNeg), .int (xs (nI (6 * k) + 2).toNatClampNeg), .int (xs (nI (6 * k) + 3).toNatClampNeg)]) (rest := [.int r]) B hl.1 hP2 hP1 hD2 (fun i j hi hj h => hdis j i hj hi h.symm) hw2 hS (E_X6_given e2) (allI_s (allI_s (allI_s allI_0))) rfl oX6_given iX6_given sX6_given kL_70 rfl (by decide) (nn := 29) (ci := 6) rfl rfl (Nat.le_of_ble_eq_true rfl) ⟨Nat.le_of_ble_eq_true rfl, Nat.le_of_ble_eq_true rfl⟩ ⟨rfl, rfl⟩ hcs dL_law_583 (fun H2 locs2 hP2 hP1 hD2 hw2 hS => ?_)
  refine lv_icmp_eq (tgt := 845) hx hb dL_law_586 (by decide) (fun _ => ?_) (fun q => absurd rfl q)
  exact cont Vc Vm _ _ ⟨hP1, hP2, hD1, hD2, hdis, hw1, hw2, hS⟩ hR2
set_option maxHeartbeats 4000000 in
set_option maxRecDepth 100000 in
theorem law_state {p : Program} {l : Launch} {e : Env} {s : State} {m : MethodId} {below : List Frame} {meth : Method} {c : Code} {D : va_G} {dA : Nat → ClassId} {b L : Nat} {xs : Nat → Int32} {adC adM : Nat → Nat} (hR : Nat → Mm → Mm → Prop) (S : Sims hR) (hret : meth.sig.returnType = ret) (hlocks : meth.locks = false) (B : LC p s m #[Value.ref b] c D dA) (hX : va_X b L xs s s.heap) (hbl : b < s.heap.size) (hL : L ≤ 3072) {k : Nat} (hk : k < 512) (hkL : 6 * k + 6 ≤ L) {Vc Vm : Mm} {H : Heap} {locs : List Loc} {cells slots : Nat} (hcs : cells ≤ 600000 ∧ slots ≤ 7302249) (W0 : LW D dA adC adM Vc Vm s H locs) (hRk : hR k Vc Vm) {ls : Array Slot} (hl : lv_has ls 4 [(0, .ref b), (1, .ref (adC 0)), (2, .ref (adM 0)), (3, .int (nI (6 * k)))]) (cont : (∀ (Vc2 Vm2 : Mm) (H1 : Heap) (locs1 : List Loc), LW D dA adC adM Vc2 Vm2 s H1 locs1 → hR (k + 1) Vc2 Vm2 → W p l e room_1 s m #[Value.ref b] below meth c H1 locs1 cells slots (lw_Z below #[Value.ref b] s) (F0 m 845 ls []))) : W p l e room_1 s m #[Value.ref b] below meth c H locs cells slots (lw_Z below #[Value.ref b] s) (F0 m 591 ls []) := by
  obtain ⟨r, e1, e2, hR2⟩ := (S k Vc Vm hk hRk).2.2.2.2.2.2.2.2.2.2.2.2.2.1 (xs (nI (6 * k) + 1).toNatClampNeg)
  obtain ⟨hx, hb, hml, hown, hts, hK, hKW, hXS⟩ := id B
  obtain ⟨hP1, hP2, hD1, hD2, hdis, hw1, hw2, hS⟩ := W0
  have hbA : ¬ (fun q : Nat => s.heap.size ≤ q) b := Nat.not_le.mpr hbl
  have hi1 : vp_in (nI (6 * k) + 1) L := by rw [show (nI (6 * k) + 1 : Int32) = nI (6 * k + 1) from nI_add (6 * k) 1]; exact vp_in_nI (by omega) (by omega)
  refine lv_aload_n hx hb dL_law_591 rfl (lv_at hl 1 rfl) ?_
  refine lv_aload_n hx hb dL_law_592 rfl (lv_at hl 0 rfl) ?_
  refine lv_iload_n hx hb dL_law_593 rfl (lv_at hl 3 rfl) ?_
  refine lv_iconst (v := 1) hx hb dL_law_594 (by decide) ?_
  refine lv_iadd hx hb dL_law_595 ?_
  refine va_sld hx hb hX hbl hbA hS hi1 dL_law_596 ?_
  refine law_cV (ad := adC) (ad2 := adM) (N := 197) (N2 := 23) (T := TC) (T2 := TM) (P := PC) (P2 := PM) (V := Vc) (V1 := Vc) (V2 := Vm) (As := [.int (xs (nI (6 * k) + 1).toNatClampNeg)]) (rest := []) B hl.1 hP1 hP2 hD1 hdis hw1 hS (E_X5_state e1) (allI_s allI_0) rfl oX5_state iX5_state sX5_state kL_71 rfl (by decide) (nn := 13) (ci := 5) rfl rfl (Nat.le_of_ble_eq_true rfl) ⟨Nat.le_of_ble_eq_true rfl, Nat.le_of_ble_eq_true rfl⟩ ⟨rfl, rfl⟩ hcs dL_law_597 (fun H1 locs1 hP1 hP2 hD1 hw1 hS => ?_)
  refine lv_aload_n hx hb dL_law_600 rfl (lv_at hl 2 rfl) ?_
  refine lv_aload_n hx hb dL_law_601 rfl (lv_at hl 0 rfl) ?_
  refine lv_iload_n hx hb dL_law_602 rfl (lv_at hl 3 rfl) ?_
  refine lv_iconst (v := 1) hx hb dL_law_603 (by decide) ?_
  refine lv_iadd hx hb dL_law_604 ?_
  refine va_sld hx hb hX hbl hbA hS hi1 dL_law_605 ?_
  refine law_cV (ad := adM) (ad2 := adC) (N := 23) (N2 := 197) (T := TM) (T2 := TC) (P := PM) (P2 := PC) (V := Vm) (V1 := Vm) (V2 := Vc) (As := [.int (xs (nI (6 * k) + 1).toNatClampNeg)]) (rest := [.int r]) B hl.1 hP2 hP1 hD2 (fun i j hi hj h => hdis j i hj hi h.symm) hw2 hS (E_X6_state e2) (allI_s allI_0) rfl oX6_state iX6_state sX6_state kL_74 rfl (by decide) (nn := 29) (ci := 6) rfl rfl (Nat.le_of_ble_eq_true rfl) ⟨Nat.le_of_ble_eq_true rfl, Nat.le_of_ble_eq_true rfl⟩ ⟨rfl, rfl⟩ hcs dL_law_606 (fun H2 locs2 hP2 hP1 hD2 hw2 hS => ?_)
  refine lv_icmp_eq (tgt := 845) hx hb dL_law_609 (by decide) (fun _ => ?_) (fun q => absurd rfl q)
  exact cont Vc Vm _ _ ⟨hP1, hP2, hD1, hD2, hdis, hw1, hw2, hS⟩ hR2
set_option maxHeartbeats 4000000 in
set_option maxRecDepth 100000 in
theorem law_told {p : Program} {l : Launch} {e : Env} {s : State} {m : MethodId} {below : List Frame} {meth : Method} {c : Code} {D : va_G} {dA : Nat → ClassId} {b L : Nat} {xs : Nat → Int32} {adC adM : Nat → Nat} (hR : Nat → Mm → Mm → Prop) (S : Sims hR) (hret : meth.sig.returnType = ret) (hlocks : meth.locks = false) (B : LC p s m #[Value.ref b] c D dA) (hX : va_X b L xs s s.heap) (hbl : b < s.heap.size) (hL : L ≤ 3072) {k : Nat} (hk : k < 512) (hkL : 6 * k + 6 ≤ L) {Vc Vm : Mm} {H : Heap} {locs : List Loc} {cells slots : Nat} (hcs : cells ≤ 600000 ∧ slots ≤ 7302249) (W0 : LW D dA adC adM Vc Vm s H locs) (hRk : hR k Vc Vm) {ls : Array Slot} (hl : lv_has ls 4 [(0, .ref b), (1, .ref (adC 0)), (2, .ref (adM 0)), (3, .int (nI (6 * k)))]) (cont : (∀ (Vc2 Vm2 : Mm) (H1 : Heap) (locs1 : List Loc), LW D dA adC adM Vc2 Vm2 s H1 locs1 → hR (k + 1) Vc2 Vm2 → W p l e room_1 s m #[Value.ref b] below meth c H1 locs1 cells slots (lw_Z below #[Value.ref b] s) (F0 m 845 ls []))) : W p l e room_1 s m #[Value.ref b] below meth c H locs cells slots (lw_Z below #[Value.ref b] s) (F0 m 614 ls []) := by
  obtain ⟨r, e1, e2, hR2⟩ := (S k Vc Vm hk hRk).2.2.2.2.2.2.2.2.2.2.2.2.2.2.1 (xs (nI (6 * k) + 1).toNatClampNeg)
  obtain ⟨hx, hb, hml, hown, hts, hK, hKW, hXS⟩ := id B
  obtain ⟨hP1, hP2, hD1, hD2, hdis, hw1, hw2, hS⟩ := W0
  have hbA : ¬ (fun q : Nat => s.heap.size ≤ q) b := Nat.not_le.mpr hbl
  have hi1 : vp_in (nI (6 * k) + 1) L := by rw [show (nI (6 * k) + 1 : Int32) = nI (6 * k + 1) from nI_add (6 * k) 1]; exact vp_in_nI (by omega) (by omega)
  refine lv_aload_n hx hb dL_law_614 rfl (lv_at hl 1 rfl) ?_
  refine lv_aload_n hx hb dL_law_615 rfl (lv_at hl 0 rfl) ?_
  refine lv_iload_n hx hb dL_law_616 rfl (lv_at hl 3 rfl) ?_
  refine lv_iconst (v := 1) hx hb dL_law_617 (by decide) ?_
  refine lv_iadd hx hb dL_law_618 ?_
  refine va_sld hx hb hX hbl hbA hS hi1 dL_law_619 ?_
  refine law_cV (ad := adC) (ad2 := adM) (N := 197) (N2 := 23) (T := TC) (T2 := TM) (P := PC) (P2 := PM) (V := Vc) (V1 := Vc) (V2 := Vm) (As := [.int (xs (nI (6 * k) + 1).toNatClampNeg)]) (rest := []) B hl.1 hP1 hP2 hD1 hdis hw1 hS (E_X5_told e1) (allI_s allI_0) rfl oX5_told iX5_told sX5_told kL_75 rfl (by decide) (nn := 13) (ci := 5) rfl rfl (Nat.le_of_ble_eq_true rfl) ⟨Nat.le_of_ble_eq_true rfl, Nat.le_of_ble_eq_true rfl⟩ ⟨rfl, rfl⟩ hcs dL_law_620 (fun H1 locs1 hP1 hP2 hD1 hw1 hS => ?_)
  refine lv_aload_n hx hb dL_law_623 rfl (lv_at hl 2 rfl) ?_
  refine lv_aload_n hx hb dL_law_624 rfl (lv_at hl 0 rfl) ?_
  refine lv_iload_n hx hb dL_law_625 rfl (lv_at hl 3 rfl) ?_
  refine lv_iconst (v := 1) hx hb dL_law_626 (by decide) ?_
  refine lv_iadd hx hb dL_law_627 ?_
  refine va_sld hx hb hX hbl hbA hS hi1 dL_law_628 ?_
  refine law_cV (ad := adM) (ad2 := adC) (N := 23) (N2 := 197) (T := TM) (T2 := TC) (P := PM) (P2 := PC) (V := Vm) (V1 := Vm) (V2 := Vc) (As := [.int (xs (nI (6 * k) + 1).toNatClampNeg)]) (rest := [.int r]) B hl.1 hP2 hP1 hD2 (fun i j hi hj h => hdis j i hj hi h.symm) hw2 hS (E_X6_told e2) (allI_s allI_0) rfl oX6_told iX6_told sX6_told kL_78 rfl (by decide) (nn := 29) (ci := 6) rfl rfl (Nat.le_of_ble_eq_true rfl) ⟨Nat.le_of_ble_eq_true rfl, Nat.le_of_ble_eq_true rfl⟩ ⟨rfl, rfl⟩ hcs dL_law_629 (fun H2 locs2 hP2 hP1 hD2 hw2 hS => ?_)
  refine lv_icmp_eq (tgt := 845) hx hb dL_law_632 (by decide) (fun _ => ?_) (fun q => absurd rfl q)
  exact cont Vc Vm _ _ ⟨hP1, hP2, hD1, hD2, hdis, hw1, hw2, hS⟩ hR2
set_option maxHeartbeats 4000000 in
set_option maxRecDepth 100000 in
theorem law_box {p : Program} {l : Launch} {e : Env} {s : State} {m : MethodId} {below : List Frame} {meth : Method} {c : Code} {D : va_G} {dA : Nat → ClassId} {b L : Nat} {xs : Nat → Int32} {adC adM : Nat → Nat} (hR : Nat → Mm → Mm → Prop) (S : Sims hR) (hret : meth.sig.returnType = ret) (hlocks : meth.locks = false) (B : LC p s m #[Value.ref b] c D dA) (hX : va_X b L xs s s.heap) (hbl : b < s.heap.size) (hL : L ≤ 3072) {k : Nat} (hk : k < 512) (hkL : 6 * k + 6 ≤ L) {Vc Vm : Mm} {H : Heap} {locs : List Loc} {cells slots : Nat} (hcs : cells ≤ 600000 ∧ slots ≤ 7302249) (W0 : LW D dA adC adM Vc Vm s H locs) (hRk : hR k Vc Vm) {ls : Array Slot} (hl : lv_has ls 4 [(0, .ref b), (1, .ref (adC 0)), (2, .ref (adM 0)), (3, .int (nI (6 * k)))]) (cont : (∀ (Vc2 Vm2 : Mm) (H1 : Heap) (locs1 : List Loc), LW D dA adC adM Vc2 Vm2 s H1 locs1 → hR (k + 1) Vc2 Vm2 → W p l e room_1 s m #[Value.ref b] below meth c H1 locs1 cells slots (lw_Z below #[Value.ref b] s) (F0 m 845 ls []))) : W p l e room_1 s m #[Value.ref b] below meth c H locs cells slots (lw_Z below #[Value.ref b] s) (F0 m 637 ls []) := by
  obtain ⟨r, e1, e2, hR2⟩ := (S k Vc Vm hk hRk).2.2.2.2.2.2.2.2.2.2.2.2.2.2.2.1 (xs (nI (6 * k) + 1).toNatClampNeg) (xs (nI (6 * k) + 2).toNatClampNeg)
  obtain ⟨hx, hb, hml, hown, hts, hK, hKW, hXS⟩ := id B
  obtain ⟨hP1, hP2, hD1, hD2, hdis, hw1, hw2, hS⟩ := W0
  have hbA : ¬ (fun q : Nat => s.heap.size ≤ q) b := Nat.not_le.mpr hbl
  have hi1 : vp_in (nI (6 * k) + 1) L := by rw [show (nI (6 * k) + 1 : Int32) = nI (6 * k + 1) from nI_add (6 * k) 1]; exact vp_in_nI (by omega) (by omega)
  have hi2 : vp_in (nI (6 * k) + 2) L := by rw [show (nI (6 * k) + 2 : Int32) = nI (6 * k + 2) from nI_add (6 * k) 2]; exact vp_in_nI (by omega) (by omega)
  refine lv_aload_n hx hb dL_law_637 rfl (lv_at hl 1 rfl) ?_
  refine lv_aload_n hx hb dL_law_638 rfl (lv_at hl 0 rfl) ?_
  refine lv_iload_n hx hb dL_law_639 rfl (lv_at hl 3 rfl) ?_
  refine lv_iconst (v := 1) hx hb dL_law_640 (by decide) ?_
  refine lv_iadd hx hb dL_law_641 ?_
  refine va_sld hx hb hX hbl hbA hS hi1 dL_law_642 ?_
  refine lv_aload_n hx hb dL_law_643 rfl (lv_at hl 0 rfl) ?_
  refine lv_iload_n hx hb dL_law_644 rfl (lv_at hl 3 rfl) ?_
  refine lv_iconst (v := 2) hx hb dL_law_645 (by decide) ?_
  refine lv_iadd hx hb dL_law_646 ?_
  refine va_sld hx hb hX hbl hbA hS hi2 dL_law_647 ?_
  refine law_cV (ad := adC) (ad2 := adM) (N := 197) (N2 := 23) (T := TC) (T2 := TM) (P := PC) (P2 := PM) (V := Vc) (V1 := Vc) (V2 := Vm) (As := [.int (xs (nI (6 * k) + 1).toNatClampNeg), .int (xs (nI (6 * k) + 2).toNatClampNeg)]) (rest := []) B hl.1 hP1 hP2 hD1 hdis hw1 hS (E_X5_box e1) (allI_s (allI_s allI_0)) rfl oX5_box iX5_box sX5_box kL_79 rfl (by decide) (nn := 13) (ci := 5) rfl rfl (Nat.le_of_ble_eq_true rfl) ⟨Nat.le_of_ble_eq_true rfl, Nat.le_of_ble_eq_true rfl⟩ ⟨rfl, rfl⟩ hcs dL_law_648 (fun H1 locs1 hP1 hP2 hD1 hw1 hS => ?_)
  refine lv_aload_n hx hb dL_law_651 rfl (lv_at hl 2 rfl) ?_
  refine lv_aload_n hx hb dL_law_652 rfl (lv_at hl 0 rfl) ?_
  refine lv_iload_n hx hb dL_law_653 rfl (lv_at hl 3 rfl) ?_
  refine lv_iconst (v := 1) hx hb dL_law_654 (by decide) ?_
  refine lv_iadd hx hb dL_law_655 ?_
  refine va_sld hx hb hX hbl hbA hS hi1 dL_law_656 ?_
  refine lv_aload_n hx hb dL_law_657 rfl (lv_at hl 0 rfl) ?_
  refine lv_iload_n hx hb dL_law_658 rfl (lv_at hl 3 rfl) ?_
  refine lv_iconst (v := 2) hx hb dL_law_659 (by decide) ?_
  refine lv_iadd hx hb dL_law_660 ?_
  refine va_sld hx hb hX hbl hbA hS hi2 dL_law_661 ?_
  refine law_cV (ad := adM) (ad2 := adC) (N := 23) (N2 := 197) (T := TM) (T2 := TC) (P := PM) (P2 := PC) (V := Vm) (V1 := Vm) (V2 := Vc) (As := [.int (xs (nI (6 * k) + 1).toNatClampNeg), .int (xs (nI (6 * k) + 2).toNatClampNeg)]) (rest := [.int r]) B hl.1 hP2 hP1 hD2 (fun i j hi hj h => hdis j i hj hi h.symm) hw2 hS (E_X6_box e2) (allI_s (allI_s allI_0)) rfl oX6_box iX6_box sX6_box kL_82 rfl (by decide) (nn := 29) (ci := 6) rfl rfl (Nat.le_of_ble_eq_true rfl) ⟨Nat.le_of_ble_eq_true rfl, Nat.le_of_ble_eq_true rfl⟩ ⟨rfl, rfl⟩ hcs dL_law_662 (fun H2 locs2 hP2 hP1 hD2 hw2 hS => ?_)
  refine lv_icmp_eq (tgt := 845) hx hb dL_law_665 (by decide) (fun _ => ?_) (fun q => absurd rfl q)
  exact cont Vc Vm _ _ ⟨hP1, hP2, hD1, hD2, hdis, hw1, hw2, hS⟩ hR2
set_option maxHeartbeats 4000000 in
set_option maxRecDepth 100000 in
theorem law_mail {p : Program} {l : Launch} {e : Env} {s : State} {m : MethodId} {below : List Frame} {meth : Method} {c : Code} {D : va_G} {dA : Nat → ClassId} {b L : Nat} {xs : Nat → Int32} {adC adM : Nat → Nat} (hR : Nat → Mm → Mm → Prop) (S : Sims hR) (hret : meth.sig.returnType = ret) (hlocks : meth.locks = false) (B : LC p s m #[Value.ref b] c D dA) (hX : va_X b L xs s s.heap) (hbl : b < s.heap.size) (hL : L ≤ 3072) {k : Nat} (hk : k < 512) (hkL : 6 * k + 6 ≤ L) {Vc Vm : Mm} {H : Heap} {locs : List Loc} {cells slots : Nat} (hcs : cells ≤ 600000 ∧ slots ≤ 7302249) (W0 : LW D dA adC adM Vc Vm s H locs) (hRk : hR k Vc Vm) {ls : Array Slot} (hl : lv_has ls 4 [(0, .ref b), (1, .ref (adC 0)), (2, .ref (adM 0)), (3, .int (nI (6 * k)))]) (cont : (∀ (Vc2 Vm2 : Mm) (H1 : Heap) (locs1 : List Loc), LW D dA adC adM Vc2 Vm2 s H1 locs1 → hR (k + 1) Vc2 Vm2 → W p l e room_1 s m #[Value.ref b] below meth c H1 locs1 cells slots (lw_Z below #[Value.ref b] s) (F0 m 845 ls []))) : W p l e room_1 s m #[Value.ref b] below meth c H locs cells slots (lw_Z below #[Value.ref b] s) (F0 m 670 ls []) := by
  obtain ⟨r, e1, e2, hR2⟩ := (S k Vc Vm hk hRk).2.2.2.2.2.2.2.2.2.2.2.2.2.2.2.2.1 (xs (nI (6 * k) + 1).toNatClampNeg) (xs (nI (6 * k) + 2).toNatClampNeg)
  obtain ⟨hx, hb, hml, hown, hts, hK, hKW, hXS⟩ := id B
  obtain ⟨hP1, hP2, hD1, hD2, hdis, hw1, hw2, hS⟩ := W0
  have hbA : ¬ (fun q : Nat => s.heap.size ≤ q) b := Nat.not_le.mpr hbl
  have hi1 : vp_in (nI (6 * k) + 1) L := by rw [show (nI (6 * k) + 1 : Int32) = nI (6 * k + 1) from nI_add (6 * k) 1]; exact vp_in_nI (by omega) (by omega)
  have hi2 : vp_in (nI (6 * k) + 2) L := by rw [show (nI (6 * k) + 2 : Int32) = nI (6 * k + 2) from nI_add (6 * k) 2]; exact vp_in_nI (by omega) (by omega)
  refine lv_aload_n hx hb dL_law_670 rfl (lv_at hl 1 rfl) ?_
  refine lv_aload_n hx hb dL_law_671 rfl (lv_at hl 0 rfl) ?_
  refine lv_iload_n hx hb dL_law_672 rfl (lv_at hl 3 rfl) ?_
  refine lv_iconst (v := 1) hx hb dL_law_673 (by decide) ?_
  refine lv_iadd hx hb dL_law_674 ?_
  refine va_sld hx hb hX hbl hbA hS hi1 dL_law_675 ?_
  refine lv_aload_n hx hb dL_law_676 rfl (lv_at hl 0 rfl) ?_
  refine lv_iload_n hx hb dL_law_677 rfl (lv_at hl 3 rfl) ?_
  refine lv_iconst (v := 2) hx hb dL_law_678 (by decide) ?_
  refine lv_iadd hx hb dL_law_679 ?_
  refine va_sld hx hb hX hbl hbA hS hi2 dL_law_680 ?_
  refine law_cV (ad := adC) (ad2 := adM) (N := 197) (N2 := 23) (T := TC) (T2 := TM) (P := PC) (P2 := PM) (V := Vc) (V1 := Vc) (V2 := Vm) (As := [.int (xs (nI (6 * k) + 1).toNatClampNeg), .int (xs (nI (6 * k) + 2).toNatClampNeg)]) (rest := []) B hl.1 hP1 hP2 hD1 hdis hw1 hS (E_X5_mail e1) (allI_s (allI_s allI_0)) rfl oX5_mail iX5_mail sX5_mail kL_83 rfl (by decide) (nn := 13) (ci := 5) rfl rfl (Nat.le_of_ble_eq_true rfl) ⟨Nat.le_of_ble_eq_true rfl, Nat.le_of_ble_eq_true rfl⟩ ⟨rfl, rfl⟩ hcs dL_law_681 (fun H1 locs1 hP1 hP2 hD1 hw1 hS => ?_)
  refine lv_aload_n hx hb dL_law_684 rfl (lv_at hl 2 rfl) ?_
  refine lv_aload_n hx hb dL_law_685 rfl (lv_at hl 0 rfl) ?_
  refine lv_iload_n hx hb dL_law_686 rfl (lv_at hl 3 rfl) ?_
  refine lv_iconst (v := 1) hx hb dL_law_687 (by decide) ?_
  refine lv_iadd hx hb dL_law_688 ?_
  refine va_sld hx hb hX hbl hbA hS hi1 dL_law_689 ?_
  refine lv_aload_n hx hb dL_law_690 rfl (lv_at hl 0 rfl) ?_
  refine lv_iload_n hx hb dL_law_691 rfl (lv_at hl 3 rfl) ?_
  refine lv_iconst (v := 2) hx hb dL_law_692 (by decide) ?_
  refine lv_iadd hx hb dL_law_693 ?_
  refine va_sld hx hb hX hbl hbA hS hi2 dL_law_694 ?_
  refine law_cV (ad := adM) (ad2 := adC) (N := 23) (N2 := 197) (T := TM) (T2 := TC) (P := PM) (P2 := PC) (V := Vm) (V1 := Vm) (V2 := Vc) (As := [.int (xs (nI (6 * k) + 1).toNatClampNeg), .int (xs (nI (6 * k) + 2).toNatClampNeg)]) (rest := [.int r]) B hl.1 hP2 hP1 hD2 (fun i j hi hj h => hdis j i hj hi h.symm) hw2 hS (E_X6_mail e2) (allI_s (allI_s allI_0)) rfl oX6_mail iX6_mail sX6_mail kL_86 rfl (by decide) (nn := 29) (ci := 6) rfl rfl (Nat.le_of_ble_eq_true rfl) ⟨Nat.le_of_ble_eq_true rfl, Nat.le_of_ble_eq_true rfl⟩ ⟨rfl, rfl⟩ hcs dL_law_695 (fun H2 locs2 hP2 hP1 hD2 hw2 hS => ?_)
  refine lv_icmp_eq (tgt := 845) hx hb dL_law_698 (by decide) (fun _ => ?_) (fun q => absurd rfl q)
  exact cont Vc Vm _ _ ⟨hP1, hP2, hD1, hD2, hdis, hw1, hw2, hS⟩ hR2
set_option maxHeartbeats 4000000 in
set_option maxRecDepth 100000 in
theorem law_thread {p : Program} {l : Launch} {e : Env} {s : State} {m : MethodId} {below : List Frame} {meth : Method} {c : Code} {D : va_G} {dA : Nat → ClassId} {b L : Nat} {xs : Nat → Int32} {adC adM : Nat → Nat} (hR : Nat → Mm → Mm → Prop) (S : Sims hR) (hret : meth.sig.returnType = ret) (hlocks : meth.locks = false) (B : LC p s m #[Value.ref b] c D dA) (hX : va_X b L xs s s.heap) (hbl : b < s.heap.size) (hL : L ≤ 3072) {k : Nat} (hk : k < 512) (hkL : 6 * k + 6 ≤ L) {Vc Vm : Mm} {H : Heap} {locs : List Loc} {cells slots : Nat} (hcs : cells ≤ 600000 ∧ slots ≤ 7302249) (W0 : LW D dA adC adM Vc Vm s H locs) (hRk : hR k Vc Vm) {ls : Array Slot} (hl : lv_has ls 4 [(0, .ref b), (1, .ref (adC 0)), (2, .ref (adM 0)), (3, .int (nI (6 * k)))]) (cont : (∀ (Vc2 Vm2 : Mm) (H1 : Heap) (locs1 : List Loc), LW D dA adC adM Vc2 Vm2 s H1 locs1 → hR (k + 1) Vc2 Vm2 → W p l e room_1 s m #[Value.ref b] below meth c H1 locs1 cells slots (lw_Z below #[Value.ref b] s) (F0 m 845 ls []))) : W p l e room_1 s m #[Value.ref b] below meth c H locs cells slots (lw_Z below #[Value.ref b] s) (F0 m 703 ls []) := by
  obtain ⟨r, e1, e2, hR2⟩ := (S k Vc Vm hk hRk).2.2.2.2.2.2.2.2.2.2.2.2.2.2.2.2.2.1 (xs (nI (6 * k) + 1).toNatClampNeg) (xs (nI (6 * k) + 2).toNatClampNeg)
  obtain ⟨hx, hb, hml, hown, hts, hK, hKW, hXS⟩ := id B
  obtain ⟨hP1, hP2, hD1, hD2, hdis, hw1, hw2, hS⟩ := W0
  have hbA : ¬ (fun q : Nat => s.heap.size ≤ q) b := Nat.not_le.mpr hbl
  have hi1 : vp_in (nI (6 * k) + 1) L := by rw [show (nI (6 * k) + 1 : Int32) = nI (6 * k + 1) from nI_add (6 * k) 1]; exact vp_in_nI (by omega) (by omega)
  have hi2 : vp_in (nI (6 * k) + 2) L := by rw [show (nI (6 * k) + 2 : Int32) = nI (6 * k + 2) from nI_add (6 * k) 2]; exact vp_in_nI (by omega) (by omega)
  refine lv_aload_n hx hb dL_law_703 rfl (lv_at hl 1 rfl) ?_
  refine lv_aload_n hx hb dL_law_704 rfl (lv_at hl 0 rfl) ?_
  refine lv_iload_n hx hb dL_law_705 rfl (lv_at hl 3 rfl) ?_
  refine lv_iconst (v := 1) hx hb dL_law_706 (by decide) ?_
  refine lv_iadd hx hb dL_law_707 ?_
  refine va_sld hx hb hX hbl hbA hS hi1 dL_law_708 ?_
  refine lv_aload_n hx hb dL_law_709 rfl (lv_at hl 0 rfl) ?_
  refine lv_iload_n hx hb dL_law_710 rfl (lv_at hl 3 rfl) ?_
  refine lv_iconst (v := 2) hx hb dL_law_711 (by decide) ?_
  refine lv_iadd hx hb dL_law_712 ?_
  refine va_sld hx hb hX hbl hbA hS hi2 dL_law_713 ?_
  refine law_cV (ad := adC) (ad2 := adM) (N := 197) (N2 := 23) (T := TC) (T2 := TM) (P := PC) (P2 := PM) (V := Vc) (V1 := Vc) (V2 := Vm) (As := [.int (xs (nI (6 * k) + 1).toNatClampNeg), .int (xs (nI (6 * k) + 2).toNatClampNeg)]) (rest := []) B hl.1 hP1 hP2 hD1 hdis hw1 hS (E_X5_thread e1) (allI_s (allI_s allI_0)) rfl oX5_thread iX5_thread sX5_thread kL_87 rfl (by decide) (nn := 13) (ci := 5) rfl rfl (Nat.le_of_ble_eq_true rfl) ⟨Nat.le_of_ble_eq_true rfl, Nat.le_of_ble_eq_true rfl⟩ ⟨rfl, rfl⟩ hcs dL_law_714 (fun H1 locs1 hP1 hP2 hD1 hw1 hS => ?_)
  refine lv_aload_n hx hb dL_law_717 rfl (lv_at hl 2 rfl) ?_
  refine lv_aload_n hx hb dL_law_718 rfl (lv_at hl 0 rfl) ?_
  refine lv_iload_n hx hb dL_law_719 rfl (lv_at hl 3 rfl) ?_
  refine lv_iconst (v := 1) hx hb dL_law_720 (by decide) ?_
  refine lv_iadd hx hb dL_law_721 ?_
  refine va_sld hx hb hX hbl hbA hS hi1 dL_law_722 ?_
  refine lv_aload_n hx hb dL_law_723 rfl (lv_at hl 0 rfl) ?_
  refine lv_iload_n hx hb dL_law_724 rfl (lv_at hl 3 rfl) ?_
  refine lv_iconst (v := 2) hx hb dL_law_725 (by decide) ?_
  refine lv_iadd hx hb dL_law_726 ?_
  refine va_sld hx hb hX hbl hbA hS hi2 dL_law_727 ?_
  refine law_cV (ad := adM) (ad2 := adC) (N := 23) (N2 := 197) (T := TM) (T2 := TC) (P := PM) (P2 := PC) (V := Vm) (V1 := Vm) (V2 := Vc) (As := [.int (xs (nI (6 * k) + 1).toNatClampNeg), .int (xs (nI (6 * k) + 2).toNatClampNeg)]) (rest := [.int r]) B hl.1 hP2 hP1 hD2 (fun i j hi hj h => hdis j i hj hi h.symm) hw2 hS (E_X6_thread e2) (allI_s (allI_s allI_0)) rfl oX6_thread iX6_thread sX6_thread kL_90 rfl (by decide) (nn := 29) (ci := 6) rfl rfl (Nat.le_of_ble_eq_true rfl) ⟨Nat.le_of_ble_eq_true rfl, Nat.le_of_ble_eq_true rfl⟩ ⟨rfl, rfl⟩ hcs dL_law_728 (fun H2 locs2 hP2 hP1 hD2 hw2 hS => ?_)
  refine lv_icmp_eq (tgt := 845) hx hb dL_law_731 (by decide) (fun _ => ?_) (fun q => absurd rfl q)
  exact cont Vc Vm _ _ ⟨hP1, hP2, hD1, hD2, hdis, hw1, hw2, hS⟩ hR2
set_option maxHeartbeats 4000000 in
set_option maxRecDepth 100000 in
theorem law_entry {p : Program} {l : Launch} {e : Env} {s : State} {m : MethodId} {below : List Frame} {meth : Method} {c : Code} {D : va_G} {dA : Nat → ClassId} {b L : Nat} {xs : Nat → Int32} {adC adM : Nat → Nat} (hR : Nat → Mm → Mm → Prop) (S : Sims hR) (hret : meth.sig.returnType = ret) (hlocks : meth.locks = false) (B : LC p s m #[Value.ref b] c D dA) (hX : va_X b L xs s s.heap) (hbl : b < s.heap.size) (hL : L ≤ 3072) {k : Nat} (hk : k < 512) (hkL : 6 * k + 6 ≤ L) {Vc Vm : Mm} {H : Heap} {locs : List Loc} {cells slots : Nat} (hcs : cells ≤ 600000 ∧ slots ≤ 7302249) (W0 : LW D dA adC adM Vc Vm s H locs) (hRk : hR k Vc Vm) {ls : Array Slot} (hl : lv_has ls 4 [(0, .ref b), (1, .ref (adC 0)), (2, .ref (adM 0)), (3, .int (nI (6 * k)))]) (cont : (∀ (Vc2 Vm2 : Mm) (H1 : Heap) (locs1 : List Loc), LW D dA adC adM Vc2 Vm2 s H1 locs1 → hR (k + 1) Vc2 Vm2 → W p l e room_1 s m #[Value.ref b] below meth c H1 locs1 cells slots (lw_Z below #[Value.ref b] s) (F0 m 845 ls []))) : W p l e room_1 s m #[Value.ref b] below meth c H locs cells slots (lw_Z below #[Value.ref b] s) (F0 m 736 ls []) := by
  obtain ⟨r, e1, e2, hR2⟩ := (S k Vc Vm hk hRk).2.2.2.2.2.2.2.2.2.2.2.2.2.2.2.2.2.2.1 (xs (nI (6 * k) + 1).toNatClampNeg) (xs (nI (6 * k) + 2).toNatClampNeg)
  obtain ⟨hx, hb, hml, hown, hts, hK, hKW, hXS⟩ := id B
  obtain ⟨hP1, hP2, hD1, hD2, hdis, hw1, hw2, hS⟩ := W0
  have hbA : ¬ (fun q : Nat => s.heap.size ≤ q) b := Nat.not_le.mpr hbl
  have hi1 : vp_in (nI (6 * k) + 1) L := by rw [show (nI (6 * k) + 1 : Int32) = nI (6 * k + 1) from nI_add (6 * k) 1]; exact vp_in_nI (by omega) (by omega)
  have hi2 : vp_in (nI (6 * k) + 2) L := by rw [show (nI (6 * k) + 2 : Int32) = nI (6 * k + 2) from nI_add (6 * k) 2]; exact vp_in_nI (by omega) (by omega)
  refine lv_aload_n hx hb dL_law_736 rfl (lv_at hl 1 rfl) ?_
  refine lv_aload_n hx hb dL_law_737 rfl (lv_at hl 0 rfl) ?_
  refine lv_iload_n hx hb dL_law_738 rfl (lv_at hl 3 rfl) ?_
  refine lv_iconst (v := 1) hx hb dL_law_739 (by decide) ?_
  refine lv_iadd hx hb dL_law_740 ?_
  refine va_sld hx hb hX hbl hbA hS hi1 dL_law_741 ?_
  refine lv_aload_n hx hb dL_law_742 rfl (lv_at hl 0 rfl) ?_
  refine lv_iload_n hx hb dL_law_743 rfl (lv_at hl 3 rfl) ?_
  refine lv_iconst (v := 2) hx hb dL_law_744 (by decide) ?_
  refine lv_iadd hx hb dL_law_745 ?_
  refine va_sld hx hb hX hbl hbA hS hi2 dL_law_746 ?_
  refine law_cV (ad := adC) (ad2 := adM) (N := 197) (N2 := 23) (T := TC) (T2 := TM) (P := PC) (P2 := PM) (V := Vc) (V1 := Vc) (V2 := Vm) (As := [.int (xs (nI (6 * k) + 1).toNatClampNeg), .int (xs (nI (6 * k) + 2).toNatClampNeg)]) (rest := []) B hl.1 hP1 hP2 hD1 hdis hw1 hS (E_X5_entry e1) (allI_s (allI_s allI_0)) rfl oX5_entry iX5_entry sX5_entry kL_91 rfl (by decide) (nn := 13) (ci := 5) rfl rfl (Nat.le_of_ble_eq_true rfl) ⟨Nat.le_of_ble_eq_true rfl, Nat.le_of_ble_eq_true rfl⟩ ⟨rfl, rfl⟩ hcs dL_law_747 (fun H1 locs1 hP1 hP2 hD1 hw1 hS => ?_)
  refine lv_aload_n hx hb dL_law_750 rfl (lv_at hl 2 rfl) ?_
  refine lv_aload_n hx hb dL_law_751 rfl (lv_at hl 0 rfl) ?_
  refine lv_iload_n hx hb dL_law_752 rfl (lv_at hl 3 rfl) ?_
  refine lv_iconst (v := 1) hx hb dL_law_753 (by decide) ?_
  refine lv_iadd hx hb dL_law_754 ?_
  refine va_sld hx hb hX hbl hbA hS hi1 dL_law_755 ?_
  refine lv_aload_n hx hb dL_law_756 rfl (lv_at hl 0 rfl) ?_
  refine lv_iload_n hx hb dL_law_757 rfl (lv_at hl 3 rfl) ?_
  refine lv_iconst (v := 2) hx hb dL_law_758 (by decide) ?_
  refine lv_iadd hx hb dL_law_759 ?_
  refine va_sld hx hb hX hbl hbA hS hi2 dL_law_760 ?_
  refine law_cV (ad := adM) (ad2 := adC) (N := 23) (N2 := 197) (T := TM) (T2 := TC) (P := PM) (P2 := PC) (V := Vm) (V1 := Vm) (V2 := Vc) (As := [.int (xs (nI (6 * k) + 1).toNatClampNeg), .int (xs (nI (6 * k) + 2).toNatClampNeg)]) (rest := [.int r]) B hl.1 hP2 hP1 hD2 (fun i j hi hj h => hdis j i hj hi h.symm) hw2 hS (E_X6_entry e2) (allI_s (allI_s allI_0)) rfl oX6_entry iX6_entry sX6_entry kL_94 rfl (by decide) (nn := 29) (ci := 6) rfl rfl (Nat.le_of_ble_eq_true rfl) ⟨Nat.le_of_ble_eq_true rfl, Nat.le_of_ble_eq_true rfl⟩ ⟨rfl, rfl⟩ hcs dL_law_761 (fun H2 locs2 hP2 hP1 hD2 hw2 hS => ?_)
  refine lv_icmp_eq (tgt := 845) hx hb dL_law_764 (by decide) (fun _ => ?_) (fun q => absurd rfl q)
  exact cont Vc Vm _ _ ⟨hP1, hP2, hD1, hD2, hdis, hw1, hw2, hS⟩ hR2
set_option maxHeartbeats 4000000 in
set_option maxRecDepth 100000 in
theorem law_filter {p : Program} {l : Launch} {e : Env} {s : State} {m : MethodId} {below : List Frame} {meth : Method} {c : Code} {D : va_G} {dA : Nat → ClassId} {b L : Nat} {xs : Nat → Int32} {adC adM : Nat → Nat} (hR : Nat → Mm → Mm → Prop) (S : Sims hR) (hret : meth.sig.returnType = ret) (hlocks : meth.locks = false) (B : LC p s m #[Value.ref b] c D dA) (hX : va_X b L xs s s.heap) (hbl : b < s.heap.size) (hL : L ≤ 3072) {k : Nat} (hk : k < 512) (hkL : 6 * k + 6 ≤ L) {Vc Vm : Mm} {H : Heap} {locs : List Loc} {cells slots : Nat} (hcs : cells ≤ 600000 ∧ slots ≤ 7302249) (W0 : LW D dA adC adM Vc Vm s H locs) (hRk : hR k Vc Vm) {ls : Array Slot} (hl : lv_has ls 4 [(0, .ref b), (1, .ref (adC 0)), (2, .ref (adM 0)), (3, .int (nI (6 * k)))]) (cont : (∀ (Vc2 Vm2 : Mm) (H1 : Heap) (locs1 : List Loc), LW D dA adC adM Vc2 Vm2 s H1 locs1 → hR (k + 1) Vc2 Vm2 → W p l e room_1 s m #[Value.ref b] below meth c H1 locs1 cells slots (lw_Z below #[Value.ref b] s) (F0 m 845 ls []))) : W p l e room_1 s m #[Value.ref b] below meth c H locs cells slots (lw_Z below #[Value.ref b] s) (F0 m 769 ls []) := by
  obtain ⟨r, Vc2, Vm2, e1, e2, hR2⟩ := (S k Vc Vm hk hRk).2.2.2.2.2.2.2.2.2.2.2.2.2.2.2.2.2.2.2.1 (xs (nI (6 * k) + 1).toNatClampNeg) (xs (nI (6 * k) + 2).toNatClampNeg) (xs (nI (6 * k) + 3).toNatClampNeg)
  obtain ⟨hx, hb, hml, hown, hts, hK, hKW, hXS⟩ := id B
  obtain ⟨hP1, hP2, hD1, hD2, hdis, hw1, hw2, hS⟩ := W0
  have hbA : ¬ (fun q : Nat => s.heap.size ≤ q) b := Nat.not_le.mpr hbl
  have hi1 : vp_in (nI (6 * k) + 1) L := by rw [show (nI (6 * k) + 1 : Int32) = nI (6 * k + 1) from nI_add (6 * k) 1]; exact vp_in_nI (by omega) (by omega)
  have hi2 : vp_in (nI (6 * k) + 2) L := by rw [show (nI (6 * k) + 2 : Int32) = nI (6 * k + 2) from nI_add (6 * k) 2]; exact vp_in_nI (by omega) (by omega)
  have hi3 : vp_in (nI (6 * k) + 3) L := by rw [show (nI (6 * k) + 3 : Int32) = nI (6 * k + 3) from nI_add (6 * k) 3]; exact vp_in_nI (by omega) (by omega)
  refine lv_aload_n hx hb dL_law_769 rfl (lv_at hl 1 rfl) ?_
  refine lv_aload_n hx hb dL_law_770 rfl (lv_at hl 0 rfl) ?_
  refine lv_iload_n hx hb dL_law_771 rfl (lv_at hl 3 rfl) ?_
  refine lv_iconst (v := 1) hx hb dL_law_772 (by decide) ?_
  refine lv_iadd hx hb dL_law_773 ?_
  refine va_sld hx hb hX hbl hbA hS hi1 dL_law_774 ?_
  refine lv_aload_n hx hb dL_law_775 rfl (lv_at hl 0 rfl) ?_
  refine lv_iload_n hx hb dL_law_776 rfl (lv_at hl 3 rfl) ?_
  refine lv_iconst (v := 2) hx hb dL_law_777 (by decide) ?_
  refine lv_iadd hx hb dL_law_778 ?_
  refine va_sld hx hb hX hbl hbA hS hi2 dL_law_779 ?_
  refine lv_aload_n hx hb dL_law_780 rfl (lv_at hl 0 rfl) ?_
  refine lv_iload_n hx hb dL_law_781 rfl (lv_at hl 3 rfl) ?_
  refine lv_iconst (v := 3) hx hb dL_law_782 (by decide) ?_
  refine lv_iadd hx hb dL_law_783 ?_
  refine va_sld hx hb hX hbl hbA hS hi3 dL_law_784 ?_
  refine law_cV (ad := adC) (ad2 := adM) (N := 197) (N2 := 23) (T := TC) (T2 := TM) (P := PC) (P2 := PM) (V := Vc) (V1 := Vc2) (V2 := Vm) (As := [.int (xs (nI (6 * k) + 1).toNatClampNeg), .int (xs (nI (6 * k) + 2).toNatClampNeg), .int (xs (nI (6 * k) + 3).toNatClampNeg)]) (rest := []) B hl.1 hP1 hP2 hD1 hdis hw1 hS (E_X5_filter e1) (allI_s (allI_s (allI_s allI_0))) rfl oX5_filter iX5_filter sX5_filter kL_95 rfl (by decide) (nn := 13) (ci := 5) rfl rfl (Nat.le_of_ble_eq_true rfl) ⟨Nat.le_of_ble_eq_true rfl, Nat.le_of_ble_eq_true rfl⟩ ⟨rfl, rfl⟩ hcs dL_law_785 (fun H1 locs1 hP1 hP2 hD1 hw1 hS => ?_)
  refine lv_aload_n hx hb dL_law_788 rfl (lv_at hl 2 rfl) ?_
  refine lv_aload_n hx hb dL_law_789 rfl (lv_at hl 0 rfl) ?_
  refine lv_iload_n hx hb dL_law_790 rfl (lv_at hl 3 rfl) ?_
  refine lv_iconst (v := 1) hx hb dL_law_791 (by decide) ?_
  refine lv_iadd hx hb dL_law_792 ?_
  refine va_sld hx hb hX hbl hbA hS hi1 dL_law_793 ?_
  refine lv_aload_n hx hb dL_law_794 rfl (lv_at hl 0 rfl) ?_
  refine lv_iload_n hx hb dL_law_795 rfl (lv_at hl 3 rfl) ?_
  refine lv_iconst (v := 2) hx hb dL_law_796 (by decide) ?_
  refine lv_iadd hx hb dL_law_797 ?_
  refine va_sld hx hb hX hbl hbA hS hi2 dL_law_798 ?_
  refine lv_aload_n hx hb dL_law_799 rfl (lv_at hl 0 rfl) ?_
  refine lv_iload_n hx hb dL_law_800 rfl (lv_at hl 3 rfl) ?_
  refine lv_iconst (v := 3) hx hb dL_law_801 (by decide) ?_
  refine lv_iadd hx hb dL_law_802 ?_
  refine va_sld hx hb hX hbl hbA hS hi3 dL_law_803 ?_
  refine law_cV (ad := adM) (ad2 := adC) (N := 23) (N2 := 197) (T := TM) (T2 := TC) (P := PM) (P2 := PC) (V := Vm) (V1 := Vm2) (V2 := Vc2) (As := [.int (xs (nI (6 * k) + 1).toNatClampNeg), .int (xs (nI (6 * k) + 2).toNatClampNeg), .int (xs (nI (6 * k) + 3).toNatClampNeg)]) (rest := [.int r]) B hl.1 hP2 hP1 hD2 (fun i j hi hj h => hdis j i hj hi h.symm) hw2 hS (E_X6_filter e2) (allI_s (allI_s (allI_s allI_0))) rfl oX6_filter iX6_filter sX6_filter kL_98 rfl (by decide) (nn := 29) (ci := 6) rfl rfl (Nat.le_of_ble_eq_true rfl) ⟨Nat.le_of_ble_eq_true rfl, Nat.le_of_ble_eq_true rfl⟩ ⟨rfl, rfl⟩ hcs dL_law_804 (fun H2 locs2 hP2 hP1 hD2 hw2 hS => ?_)
  refine lv_icmp_eq (tgt := 845) hx hb dL_law_807 (by decide) (fun _ => ?_) (fun q => absurd rfl q)
  exact cont Vc2 Vm2 _ _ ⟨hP1, hP2, hD1, hD2, hdis, hw1, hw2, hS⟩ hR2
set_option maxHeartbeats 4000000 in
set_option maxRecDepth 100000 in
theorem law_fits {p : Program} {l : Launch} {e : Env} {s : State} {m : MethodId} {below : List Frame} {meth : Method} {c : Code} {D : va_G} {dA : Nat → ClassId} {b L : Nat} {xs : Nat → Int32} {adC adM : Nat → Nat} (hR : Nat → Mm → Mm → Prop) (S : Sims hR) (hret : meth.sig.returnType = ret) (hlocks : meth.locks = false) (B : LC p s m #[Value.ref b] c D dA) (hX : va_X b L xs s s.heap) (hbl : b < s.heap.size) (hL : L ≤ 3072) {k : Nat} (hk : k < 512) (hkL : 6 * k + 6 ≤ L) {Vc Vm : Mm} {H : Heap} {locs : List Loc} {cells slots : Nat} (hcs : cells ≤ 600000 ∧ slots ≤ 7302249) (W0 : LW D dA adC adM Vc Vm s H locs) (hRk : hR k Vc Vm) {ls : Array Slot} (hl : lv_has ls 4 [(0, .ref b), (1, .ref (adC 0)), (2, .ref (adM 0)), (3, .int (nI (6 * k)))]) (cont : (∀ (Vc2 Vm2 : Mm) (H1 : Heap) (locs1 : List Loc), LW D dA adC adM Vc2 Vm2 s H1 locs1 → hR (k + 1) Vc2 Vm2 → W p l e room_1 s m #[Value.ref b] below meth c H1 locs1 cells slots (lw_Z below #[Value.ref b] s) (F0 m 845 ls []))) : W p l e room_1 s m #[Value.ref b] below meth c H locs cells slots (lw_Z below #[Value.ref b] s) (F0 m 812 ls []) := by
  obtain ⟨r, Vm2, e1, e2, hR2⟩ := (S k Vc Vm hk hRk).2.2.2.2.2.2.2.2.2.2.2.2.2.2.2.2.2.2.2.2.1 (xs (nI (6 * k) + 1).toNatClampNeg) (xs (nI (6 * k) + 2).toNatClampNeg)
  obtain ⟨hx, hb, hml, hown, hts, hK, hKW, hXS⟩ := id B
  obtain ⟨hP1, hP2, hD1, hD2, hdis, hw1, hw2, hS⟩ := W0
  have hbA : ¬ (fun q : Nat => s.heap.size ≤ q) b := Nat.not_le.mpr hbl
  have hi1 : vp_in (nI (6 * k) + 1) L := by rw [show (nI (6 * k) + 1 : Int32) = nI (6 * k + 1) from nI_add (6 * k) 1]; exact vp_in_nI (by omega) (by omega)
  have hi2 : vp_in (nI (6 * k) + 2) L := by rw [show (nI (6 * k) + 2 : Int32) = nI (6 * k + 2) from nI_add (6 * k) 2]; exact vp_in_nI (by omega) (by omega)
  refine lv_aload_n hx hb dL_law_812 rfl (lv_at hl 1 rfl) ?_
  refine lv_aload_n hx hb dL_law_813 rfl (lv_at hl 0 rfl) ?_
  refine lv_iload_n hx hb dL_law_814 rfl (lv_at hl 3 rfl) ?_
  refine lv_iconst (v := 1) hx hb dL_law_815 (by decide) ?_
  refine lv_iadd hx hb dL_law_816 ?_
  refine va_sld hx hb hX hbl hbA hS hi1 dL_law_817 ?_
  refine lv_aload_n hx hb dL_law_818 rfl (lv_at hl 0 rfl) ?_
  refine lv_iload_n hx hb dL_law_819 rfl (lv_at hl 3 rfl) ?_
  refine lv_iconst (v := 2) hx hb dL_law_820 (by decide) ?_
  refine lv_iadd hx hb dL_law_821 ?_
  refine va_sld hx hb hX hbl hbA hS hi2 dL_law_822 ?_
  refine law_cV (ad := adC) (ad2 := adM) (N := 197) (N2 := 23) (T := TC) (T2 := TM) (P := PC) (P2 := PM) (V := Vc) (V1 := Vc) (V2 := Vm) (As := [.int (xs (nI (6 * k) + 1).toNatClampNeg), .int (xs (nI (6 * k) + 2).toNatClampNeg)]) (rest := []) B hl.1 hP1 hP2 hD1 hdis hw1 hS (E_X5_fits e1) (allI_s (allI_s allI_0)) rfl oX5_fits iX5_fits sX5_fits kL_99 rfl (by decide) (nn := 13) (ci := 5) rfl rfl (Nat.le_of_ble_eq_true rfl) ⟨Nat.le_of_ble_eq_true rfl, Nat.le_of_ble_eq_true rfl⟩ ⟨rfl, rfl⟩ hcs dL_law_823 (fun H1 locs1 hP1 hP2 hD1 hw1 hS => ?_)
  refine lv_aload_n hx hb dL_law_826 rfl (lv_at hl 2 rfl) ?_
  refine lv_aload_n hx hb dL_law_827 rfl (lv_at hl 0 rfl) ?_
  refine lv_iload_n hx hb dL_law_828 rfl (lv_at hl 3 rfl) ?_
  refine lv_iconst (v := 1) hx hb dL_law_829 (by decide) ?_
  refine lv_iadd hx hb dL_law_830 ?_
  refine va_sld hx hb hX hbl hbA hS hi1 dL_law_831 ?_
  refine lv_aload_n hx hb dL_law_832 rfl (lv_at hl 0 rfl) ?_
  refine lv_iload_n hx hb dL_law_833 rfl (lv_at hl 3 rfl) ?_
  refine lv_iconst (v := 2) hx hb dL_law_834 (by decide) ?_
  refine lv_iadd hx hb dL_law_835 ?_
  refine va_sld hx hb hX hbl hbA hS hi2 dL_law_836 ?_
  refine law_cV (ad := adM) (ad2 := adC) (N := 23) (N2 := 197) (T := TM) (T2 := TC) (P := PM) (P2 := PC) (V := Vm) (V1 := Vm2) (V2 := Vc) (As := [.int (xs (nI (6 * k) + 1).toNatClampNeg), .int (xs (nI (6 * k) + 2).toNatClampNeg)]) (rest := [.int r]) B hl.1 hP2 hP1 hD2 (fun i j hi hj h => hdis j i hj hi h.symm) hw2 hS (E_X6_fits e2) (allI_s (allI_s allI_0)) rfl oX6_fits iX6_fits sX6_fits kL_102 rfl (by decide) (nn := 29) (ci := 6) rfl rfl (Nat.le_of_ble_eq_true rfl) ⟨Nat.le_of_ble_eq_true rfl, Nat.le_of_ble_eq_true rfl⟩ ⟨rfl, rfl⟩ hcs dL_law_837 (fun H2 locs2 hP2 hP1 hD2 hw2 hS => ?_)
  refine lv_icmp_eq (tgt := 845) hx hb dL_law_840 (by decide) (fun _ => ?_) (fun q => absurd rfl q)
  exact cont Vc Vm2 _ _ ⟨hP1, hP2, hD1, hD2, hdis, hw1, hw2, hS⟩ hR2
set_option maxHeartbeats 4000000 in
set_option maxRecDepth 100000 in
theorem law_loop {p : Program} {l : Launch} {e : Env} {s : State} {m : MethodId} {below : List Frame} {meth : Method} {c : Code} {D : va_G} {dA : Nat → ClassId} {b L : Nat} {xs : Nat → Int32} {adC adM : Nat → Nat} (hR : Nat → Mm → Mm → Prop) (S : Sims hR) (hret : meth.sig.returnType = ret) (hlocks : meth.locks = false) (B : LC p s m #[Value.ref b] c D dA) (hX : va_X b L xs s s.heap) (hbl : b < s.heap.size) (hL : L ≤ 3072) : ∀ (n k : Nat), L + 6 < 6 * k + 6 * n → 6 * k ≤ L + 5 → ∀ {Vc Vm : Mm} {H : Heap} {locs : List Loc} {cells slots : Nat} (hcs : cells ≤ 600000 ∧ slots ≤ 7302249) (W0 : LW D dA adC adM Vc Vm s H locs) (hRk : hR k Vc Vm) {ls : Array Slot} (hl : lv_has ls 4 [(0, .ref b), (1, .ref (adC 0)), (2, .ref (adM 0)), (3, .int (nI (6 * k)))]), W p l e room_1 s m #[Value.ref b] below meth c H locs cells slots (lw_Z below #[Value.ref b] s) (F0 m 18 ls []) := by
  intro n
  induction n with
  | zero => intro k h1 h2; exfalso; omega
  | succ n ih =>
    intro k h1 h2 Vc Vm H locs cells slots hcs W0 hRk ls hl
    obtain ⟨hx, hb, hml, hown, hts, hK, hKW, hXS⟩ := id B
    have hS := W0.2.2.2.2.2.2.2
    have hbA : ¬ (fun q : Nat => s.heap.size ≤ q) b := Nat.not_le.mpr hbl
    have tL : (nI L).toInt = (L : Int) := nI_toInt (by omega)
    have t6 : ((6 : Int32)).toInt = 6 := by decide
    have tk : (nI (6 * k)).toInt = ((6 * k : Nat) : Int) := nI_toInt (by omega)
    have tS : (nI L - 6).toInt = (L : Int) - 6 := by
      have := pk_sub_toInt (a := L) (b := 6) (by omega) (by omega)
      exact this
    refine lv_iload_n hx hb dL_law_18 rfl (lv_at hl 3 rfl) ?_
    refine lv_aload_n hx hb dL_law_19 rfl (lv_at hl 0 rfl) ?_
    refine va_slen hx hb hX hbl hbA hS dL_law_20 ?_
    refine lv_bipush (v := 6) hx hb dL_law_21 (by decide) ?_
    refine lv_isub hx hb dL_law_23 ?_
    refine lv_icmp_gt (tgt := 851) hx hb dL_law_24 (by decide) (fun q => ?_) (fun q => ?_)
    · refine lv_iconst (v := 1) hx hb dL_law_851 (by decide) ?_
      refine va_forget (fun q hq => hS.2.2 q hq) ?_
      refine W.widen (k := 600000) (n := 7302249) hcs.1 hcs.2 ?_
      exact lw_ret hx hb hret hlocks dL_law_852
    · have q2 : ¬ (nI L - 6 < nI (6 * k)) := q
      rw [Int32.lt_iff_toInt_lt, tS, tk] at q2
      have hkL : 6 * k + 6 ≤ L := by omega
      have hk : k < 512 := by omega
      refine lv_aload_n hx hb dL_law_27 rfl (lv_at hl 0 rfl) ?_
      refine lv_iload_n hx hb dL_law_28 rfl (lv_at hl 3 rfl) ?_
      refine va_sld hx hb hX hbl hbA hS (vp_in_nI (by omega) (by omega)) dL_law_29 ?_
      refine lv_bipush (v := 31) hx hb dL_law_30 (by decide) ?_
      refine lv_iand hx hb dL_law_32 ?_
      have cont : ∀ (Vc2 Vm2 : Mm) (H1 : Heap) (locs1 : List Loc), LW D dA adC adM Vc2 Vm2 s H1 locs1 → hR (k + 1) Vc2 Vm2 → W p l e room_1 s m #[Value.ref b] below meth c H1 locs1 cells slots (lw_Z below #[Value.ref b] s) (F0 m 845 ls []) := by
        intro Vc2 Vm2 H1 locs1 W2 hR2
        refine lv_iinc (v := nI (6 * (k + 1))) (lv' := [(3, .int (nI (6 * (k + 1)))), (0, .ref b), (1, .ref (adC 0)), (2, .ref (adM 0))]) hx hb dL_law_845 hl (k := 3) rfl ?_ (by decide) rfl (fun ls hl => ?_)
        · rw [show (Int32.ofInt 6) = nI 6 from by decide, nI_add]
          congr 1
        · refine lv_goto (tgt := 18) hx hb dL_law_848 (by decide) ?_
          exact ih (k + 1) (by omega) (by omega) hcs W2 hR2 (lv_sub hl [1, 2, 3, 0] rfl)
      generalize hx0 : xs (nI (6 * k)).toNatClampNeg &&& 31 = x
      by_cases c0 : x = 0
      · refine lv_tableIn (tgt := 132) hx hb dL_law_33 (by rw [c0]; decide) (by rw [c0]; decide) (off := 99) (by rw [c0]; rfl) rfl ?_
        exact law_draft hR S hret hlocks B hX hbl hL hk hkL hcs W0 hRk hl cont
      by_cases c1 : x = 1
      · refine lv_tableIn (tgt := 165) hx hb dL_law_33 (by rw [c1]; decide) (by rw [c1]; decide) (off := 132) (by rw [c1]; rfl) rfl ?_
        exact law_get hR S hret hlocks B hX hbl hL hk hkL hcs W0 hRk hl cont
      by_cases c2 : x = 2
      · refine lv_tableIn (tgt := 208) hx hb dL_law_33 (by rw [c2]; decide) (by rw [c2]; decide) (off := 175) (by rw [c2]; rfl) rfl ?_
        exact law_query hR S hret hlocks B hX hbl hL hk hkL hcs W0 hRk hl cont
      by_cases c3 : x = 3
      · refine lv_tableIn (tgt := 261) hx hb dL_law_33 (by rw [c3]; decide) (by rw [c3]; decide) (off := 228) (by rw [c3]; rfl) rfl ?_
        exact law_changes hR S hret hlocks B hX hbl hL hk hkL hcs W0 hRk hl cont
      by_cases c4 : x = 4
      · refine lv_tableIn (tgt := 304) hx hb dL_law_33 (by rw [c4]; decide) (by rw [c4]; decide) (off := 271) (by rw [c4]; rfl) rfl ?_
        exact law_make hR S hret hlocks B hX hbl hL hk hkL hcs W0 hRk hl cont
      by_cases c5 : x = 5
      · refine lv_tableIn (tgt := 337) hx hb dL_law_33 (by rw [c5]; decide) (by rw [c5]; decide) (off := 304) (by rw [c5]; rfl) rfl ?_
        exact law_change hR S hret hlocks B hX hbl hL hk hkL hcs W0 hRk hl cont
      by_cases c6 : x = 6
      · refine lv_tableIn (tgt := 400) hx hb dL_law_33 (by rw [c6]; decide) (by rw [c6]; decide) (off := 367) (by rw [c6]; rfl) rfl ?_
        exact law_destroy hR S hret hlocks B hX hbl hL hk hkL hcs W0 hRk hl cont
      by_cases c7 : x = 7
      · refine lv_tableIn (tgt := 443) hx hb dL_law_33 (by rw [c7]; decide) (by rw [c7]; decide) (off := 410) (by rw [c7]; rfl) rfl ?_
        exact law_crash hR S hret hlocks B hX hbl hL hk hkL hcs W0 hRk hl cont
      by_cases c8 : x = 8
      · refine lv_tableIn (tgt := 466) hx hb dL_law_33 (by rw [c8]; decide) (by rw [c8]; decide) (off := 433) (by rw [c8]; rfl) rfl ?_
        exact law_run hR S hret hlocks B hX hbl hL hk hkL hcs W0 hRk hl cont
      by_cases c9 : x = 9
      · refine lv_tableIn (tgt := 479) hx hb dL_law_33 (by rw [c9]; decide) (by rw [c9]; decide) (off := 446) (by rw [c9]; rfl) rfl ?_
        exact law_drop hR S hret hlocks B hX hbl hL hk hkL hcs W0 hRk hl cont
      by_cases c10 : x = 10
      · refine lv_tableIn (tgt := 492) hx hb dL_law_33 (by rw [c10]; decide) (by rw [c10]; decide) (off := 459) (by rw [c10]; rfl) rfl ?_
        exact law_status hR S hret hlocks B hX hbl hL hk hkL hcs W0 hRk hl cont
      by_cases c11 : x = 11
      · refine lv_tableIn (tgt := 515) hx hb dL_law_33 (by rw [c11]; decide) (by rw [c11]; decide) (off := 482) (by rw [c11]; rfl) rfl ?_
        exact law_many hR S hret hlocks B hX hbl hL hk hkL hcs W0 hRk hl cont
      by_cases c12 : x = 12
      · refine lv_tableIn (tgt := 548) hx hb dL_law_33 (by rw [c12]; decide) (by rw [c12]; decide) (off := 515) (by rw [c12]; rfl) rfl ?_
        exact law_given hR S hret hlocks B hX hbl hL hk hkL hcs W0 hRk hl cont
      by_cases c13 : x = 13
      · refine lv_tableIn (tgt := 591) hx hb dL_law_33 (by rw [c13]; decide) (by rw [c13]; decide) (off := 558) (by rw [c13]; rfl) rfl ?_
        exact law_state hR S hret hlocks B hX hbl hL hk hkL hcs W0 hRk hl cont
      by_cases c14 : x = 14
      · refine lv_tableIn (tgt := 614) hx hb dL_law_33 (by rw [c14]; decide) (by rw [c14]; decide) (off := 581) (by rw [c14]; rfl) rfl ?_
        exact law_told hR S hret hlocks B hX hbl hL hk hkL hcs W0 hRk hl cont
      by_cases c15 : x = 15
      · refine lv_tableIn (tgt := 637) hx hb dL_law_33 (by rw [c15]; decide) (by rw [c15]; decide) (off := 604) (by rw [c15]; rfl) rfl ?_
        exact law_box hR S hret hlocks B hX hbl hL hk hkL hcs W0 hRk hl cont
      by_cases c16 : x = 16
      · refine lv_tableIn (tgt := 670) hx hb dL_law_33 (by rw [c16]; decide) (by rw [c16]; decide) (off := 637) (by rw [c16]; rfl) rfl ?_
        exact law_mail hR S hret hlocks B hX hbl hL hk hkL hcs W0 hRk hl cont
      by_cases c17 : x = 17
      · refine lv_tableIn (tgt := 703) hx hb dL_law_33 (by rw [c17]; decide) (by rw [c17]; decide) (off := 670) (by rw [c17]; rfl) rfl ?_
        exact law_thread hR S hret hlocks B hX hbl hL hk hkL hcs W0 hRk hl cont
      by_cases c18 : x = 18
      · refine lv_tableIn (tgt := 736) hx hb dL_law_33 (by rw [c18]; decide) (by rw [c18]; decide) (off := 703) (by rw [c18]; rfl) rfl ?_
        exact law_entry hR S hret hlocks B hX hbl hL hk hkL hcs W0 hRk hl cont
      by_cases c19 : x = 19
      · refine lv_tableIn (tgt := 769) hx hb dL_law_33 (by rw [c19]; decide) (by rw [c19]; decide) (off := 736) (by rw [c19]; rfl) rfl ?_
        exact law_filter hR S hret hlocks B hX hbl hL hk hkL hcs W0 hRk hl cont
      by_cases c20 : x = 20
      · refine lv_tableIn (tgt := 812) hx hb dL_law_33 (by rw [c20]; decide) (by rw [c20]; decide) (off := 779) (by rw [c20]; rfl) rfl ?_
        exact law_fits hR S hret hlocks B hX hbl hL hk hkL hcs W0 hRk hl cont
      have hh : (x : Int32).toInt < 0 ∨ 20 < (x : Int32).toInt := by
        have n0 := nti (K := 0) c0 (by decide)
        have n1 := nti (K := 1) c1 (by decide)
        have n2 := nti (K := 2) c2 (by decide)
        have n3 := nti (K := 3) c3 (by decide)
        have n4 := nti (K := 4) c4 (by decide)
        have n5 := nti (K := 5) c5 (by decide)
        have n6 := nti (K := 6) c6 (by decide)
        have n7 := nti (K := 7) c7 (by decide)
        have n8 := nti (K := 8) c8 (by decide)
        have n9 := nti (K := 9) c9 (by decide)
        have n10 := nti (K := 10) c10 (by decide)
        have n11 := nti (K := 11) c11 (by decide)
        have n12 := nti (K := 12) c12 (by decide)
        have n13 := nti (K := 13) c13 (by decide)
        have n14 := nti (K := 14) c14 (by decide)
        have n15 := nti (K := 15) c15 (by decide)
        have n16 := nti (K := 16) c16 (by decide)
        have n17 := nti (K := 17) c17 (by decide)
        have n18 := nti (K := 18) c18 (by decide)
        have n19 := nti (K := 19) c19 (by decide)
        have n20 := nti (K := 20) c20 (by decide)
        omega
      refine lv_tableOut (tgt := 845) hx hb dL_law_33 hh rfl ?_
      exact cont _ _ _ _ W0 (S k Vc Vm hk hRk).2.2.2.2.2.2.2.2.2.2.2.2.2.2.2.2.2.2.2.2.2
theorem law_cI {p : Program} {l : Launch} {e : Env} {s : State} {m : MethodId} {args : Array Value} {below : List Frame} {meth : Method} {c : Code} {D : va_G} {dA : Nat → ClassId} {H : Heap} {locs : List Loc} {cells slots : Nat} {Q : State → Prop} {pc : Nat} {ls : Array Slot}
    {M1 : MS} {idx : Nat} {stk rest : List Value} {ad : Nat → Nat} {N N1 : Nat} {T : Nat → Nat × Nat} {P P1 : Nat → Nat → Option Nat} {V V1 : Mm} {ws2 : va_W}
    (B : LC p s m args c D dA) (hls : ls.size = 4) (hP1 : va_P D vwCl (wl dA ad (N, T, P, V)) H) (hP2 : va_P D vwCl ws2 H) (hD1 : va_D (fun q => s.heap.size ≤ q) (wl dA ad (N, T, P, V))) (hdis : ∀ (i k : Nat) (q : Nat × va_E), i < N → ws2[k]? = some q → ad i ≠ q.1) (hw : wfh N P V) (hS : va_S (fun q => s.heap.size ≤ q) s.heap H locs)
    (hE : Ev M1 [.ref 0] (N, T, P, V) none (N1, T, P1, V1)) (hs : stk = .ref (ad 0) :: rest) (hM : MOK M1 0) (hret : M1.2.2.2.1 = none) (hnm : M1.1.name = "<init>") (hi : Cond.instanceMethod M1.1 ∈ gw) (hL : Cond.methodLink RL idx M1.1 ∈ gw) (hN0 : 0 < N) (hst : (rest.map fun v => v.category).sum ≤ 8)
    (hR : M1.2.2.2.2.1 + 1 ≤ 9 ∧ 8 + (M1.2.2.1 + 11) + M1.2.2.2.2.2.1 ≤ 330) (hc : cells + M1.2.2.2.2.2.2.1 ≤ 600000 ∧ slots + M1.2.2.2.2.2.2.2 ≤ 7302249) (hd : decode cL_law pc = .ok (.invokespecial idx, 3))
    (kk : ∀ (ad' : Nat → Nat) (H1 : Heap) (locs1 : List Loc), (∀ i, i < N → ad' i = ad i) → va_P D vwCl (wl dA ad' (N1, T, P1, V1)) H1 → va_P D vwCl ws2 H1 → va_D (fun q => s.heap.size ≤ q) (wl dA ad' (N1, T, P1, V1)) → (∀ (i k : Nat) (q : Nat × va_E), i < N1 → ws2[k]? = some q → ad' i ≠ q.1) → wfh N1 P1 V1 → va_S (fun q => s.heap.size ≤ q) s.heap H1 locs1 →
      W p l e room_1 s m args below meth c H1 locs1 (cells + M1.2.2.2.2.2.2.1) (slots + M1.2.2.2.2.2.2.2) Q (F0 m (pc + 3) ls rest)) : W p l e room_1 s m args below meth c H locs cells slots Q (F0 m pc ls stk) := by
  subst hs
  obtain ⟨hx, hb, hml, hown, hts, hK, hKW, hX⟩ := id B
  have hag : ∀ v ∈ ([Value.ref 0] : List Value), wfv N v := fun v hv => by
    rcases List.mem_cons.mp hv with rfl | hv
    · exact hN0
    · cases hv
  have hE' := hE l D dA ad H.size hw hag
  have hG := good_gw hM
  obtain ⟨m1, m2, m3, m4, m5⟩ := hM
  rw [hret] at m4 hG hE'
  have hlen : ∀ sig, parseMethodDescriptor M1.1.desc = some sig → 0 = sig.parameters.length := fun sig hsig => by
    rw [hsig] at m3
    exact (Option.some.inj m3).symm
  have hws := pay_in hts hG
  have hPv : PreS s H (va_Pc (([Value.ref 0] : List Value).map (vl ad)) (PreB D dA ad (N, T, P, V) H.size)) [.ref (ad 0)] := ⟨preB_blind, fun U hU hW => ⟨rfl, law_pre B hP1 hD1 hS U hU hW⟩⟩
  have hfree := wl_free (D := D) hD1 hS (fun _ h => h)
  refine run_k2 (va_runI (As := []) (rest := rest) ⟨hx, hb, hml, hown, hts⟩ hE' ⟨⟨rfl, rfl, hR.1, hR.2, hws, List.mem_cons_self, hts _ m4, hts _ m5, m2, hlen, hts _ hL⟩, hnm, hts _ hi⟩ hPv rfl rfl hls rfl (lv_room hst) hd hc) hS hfree hfree (fun ad' H1 locs1 g1 g2 g3 g4 g5 g6 g7 g8 => ?_)
  have hapart : ∀ (k : Nat) (q : Nat × va_E), ws2[k]? = some q → ¬ va_A (wl dA ad (N, T, P, V)) H.size q.1 := by
    intro k q hk ha
    rcases ha with ⟨j, e2, hj⟩ | ha
    · have hj1 : j < N := by
        have := (List.getElem?_eq_some_iff.mp hj).1
        rw [wl_len] at this
        exact this
      rw [wl_get (h := (N, T, P, V)) hj1] at hj
      have : ad j = q.1 := congrArg (fun z => z.1) (Option.some.inj hj)
      exact hdis j k q hj1 hk this
    · have := (hP2 k q hk).lt
      omega
  refine kk ad' H1 locs1 g1 g3 (hP2.kept (fun k q hk => g8 q.1 (hP2 k q hk).lt (hapart k q hk))) (g4.weaken (fun _ q _ h => hfree q.1 h)) (fun i k q hi hk he => ?_) g5 g6
  have h1 := g4.2 i _ (wl_get (dA := dA) (ad := ad') (h := (N1, T, P1, V1)) hi)
  have h2 : va_A (wl dA ad (N, T, P, V)) H.size (ad' i) := h1
  rw [he] at h2
  exact hapart k q hk h2
/-- a fresh object of a class: a world of one cell -/
theorem wl_one {dA : Nat → ClassId} {q ci n : Nat} {T : Nat → Nat × Nat} (hT : T 0 = (ci + 5, n)) : wl dA (fun _ => q) (1, T, fun _ _ => none, fun _ _ => 0) = [(q, .inr (ci, flds (fun _ => 0) ci (fun _ => none) (fun _ => 0)))] := by
  unfold wl
  show [((fun _ => q) 0, toE dA (fun _ => q) (1, T, fun _ _ => none, fun _ _ => 0) 0)] = _
  rw [toE_o (h := (1, T, fun _ _ => none, fun _ _ => 0)) hT]
  rfl
theorem wfh_one : wfh 1 (fun _ _ => none) (fun _ _ => (0 : Int32)) := ⟨fun i j a h => (by cases h), fun i _ => rfl⟩
def V0C : Mm := (wr (wr (wr (wr (wr (wr (fun _ _ => 0) 4 3 20) 28 3 50) 52 3 50) 1 1 1000) 1 5 1000) 1 6 1000)
def V0M : Mm := (wr (wr (wr (wr (wr (wr (wr (wr (wr (wr (wr (wr (wr (wr (fun _ _ => 0) 4 0 0) 4 1 1000) 4 2 0) 4 3 0) 4 4 0) 4 5 1000) 4 6 1000) 4 7 0) 4 8 0) 4 9 0) 0 8 (-9)) 15 0 0) 15 1 0) 15 2 0)
set_option maxHeartbeats 4000000 in
set_option maxRecDepth 100000 in
/-- THE LAW, from its entry, out of a relation that the public calls keep -/
theorem law_all {p : Program} {e : Env} {s : State} {m : MethodId} {below : List Frame} {meth : Method} {c : Code} (l : Launch) {b L : Nat} {xs : Nat → Int32} (hL : L ≤ 3072) (C0 : lw_At p s m meth c b L xs) (R : Nat → Mm → Mm → Prop) (S : Sims R) (R0 : R 0 V0C V0M) : W p l e room_1 s m #[Value.ref b] below meth c s.heap [] 0 0 (lw_Z below #[Value.ref b] s) (entryFrame m ([Value.ref b] : List Value).toArray 4) := by
  obtain ⟨hx, hb, hr, hml, hown, htl, hX, hbl, hlocks, hgv⟩ := id C0
  obtain ⟨D, dA, hK⟩ := law_K htl
  have hKW := law_KW htl
  have hXS := law_top htl hgv
  have hts : ∀ w ∈ gw, w.before #[Value.ref b] s = true := fun w hw => htl w (List.mem_filter.mp hw).1
  have B : LC p s m #[Value.ref b] c D dA := ⟨hx, hb, hml, hown, hts, hK, hKW, hXS⟩
  have hA : ∀ q : Nat, s.heap.size ≤ q → (fun q : Nat => s.heap.size ≤ q) q := fun _ h => h
  have hS : va_S (fun q : Nat => s.heap.size ≤ q) s.heap s.heap [] := va_S.rf
  have hP : va_P D vwCl [] s.heap := fun k q h => by simp at h
  have hD : va_D (fun q : Nat => s.heap.size ≤ q) [] := ⟨fun i j p q h => by simp at h, fun k q h => by simp at h⟩
  have hl := lv_entry ([.ref b]) (n := 4) (Nat.le_of_ble_eq_true rfl)
  rw [lg_entry_eq]
  generalize (lg_sl ([.ref b]) ++ List.replicate (4 - (lg_sl ([.ref b])).length) Slot.unset).toArray = ls at hl ⊢
  have hl : lv_has ls 4 [(0, .ref b)] := hl
  refine va_new (ci := 5) (fs := flds (fun _ => 0) 5 (fun _ => none) (fun _ => 0)) (C := RX5) (T := TX5) (N := 13) hx hb hts inG5 tyX5 tyX5_ok hown (htl (.classLink RL 7 RX5) (by decide +kernel)) (htl (.instantiable RX5 13) (by decide +kernel)) (htl (.initialized RX5) (by decide +kernel)) hK hP hD hS hA rfl (fun j hj => by
    have H : ∀ j, j < 13 → defaultValue (tyX5 j) = vp_V (flds (fun _ => 0) 5 (fun _ => none) (fun _ => 0)) j := by decide +kernel
    exact H j hj) (Nat.le_of_ble_eq_true rfl) (Nat.le_of_ble_eq_true rfl) dL_law_0 (fun q0 H hP hD hS => ?_)
  have hP : va_P D vwCl (wl dA (fun _ => q0) (1, TC, fun _ _ => none, fun _ _ => 0)) H := by rw [wl_one (ci := 5) (n := 13) rfl]; exact hP
  have hD : va_D (fun q : Nat => s.heap.size ≤ q) (wl dA (fun _ => q0) (1, TC, fun _ _ => none, fun _ _ => 0)) := by rw [wl_one (ci := 5) (n := 13) rfl]; exact hD
  refine lv_dup hx hb dL_law_3 rfl ?_
  have hE1 : Ev mX5_init [.ref 0] (1, TC, fun _ _ => none, fun _ _ => 0) none (197, TC, cCore (fun _ _ => none), V0C) := E_X5_init (fun _ _ => none) (fun _ _ => 0)
  rw [core_PC] at hE1
  refine law_cI (ad := fun _ => q0) (ws2 := []) (rest := [.ref q0]) B hl.1 hP (fun k q h => by simp at h) hD (fun i k q _ h => by simp at h) wfh_one hS hE1 rfl oX5_init rfl rfl iX5_init kL_9 (by decide) (Nat.le_of_ble_eq_true rfl) ⟨Nat.le_of_ble_eq_true rfl, Nat.le_of_ble_eq_true rfl⟩ ⟨Nat.le_of_ble_eq_true rfl, Nat.le_of_ble_eq_true rfl⟩ dL_law_4 (fun adC H1 locs1 a0 hP1 _ hD1 _ hw1 hS => ?_)
  refine lv_astore_n (lv' := [(1, .ref q0), (0, .ref b)]) hx hb dL_law_7 rfl hl (by decide) rfl (fun ls hl => ?_)
  have hS' := hS
  refine va_new (ci := 6) (fs := flds (fun _ => 0) 6 (fun _ => none) (fun _ => 0)) (C := RX6) (T := TX6) (N := 29) hx hb hts inG6 tyX6 tyX6_ok hown (htl (.classLink RL 10 RX6) (by decide +kernel)) (htl (.instantiable RX6 29) (by decide +kernel)) (htl (.initialized RX6) (by decide +kernel)) hK hP1 hD1 hS hA rfl (fun j hj => by
    have H : ∀ j, j < 29 → defaultValue (tyX6 j) = vp_V (flds (fun _ => 0) 6 (fun _ => none) (fun _ => 0)) j := by decide +kernel
    exact H j hj) (Nat.le_of_ble_eq_true rfl) (Nat.le_of_ble_eq_true rfl) dL_law_8 (fun q1 H2 hP2 hD2 hS => ?_)
  have hlen : (wl dA adC (197, TC, PC, V0C)).length = 197 := wl_len
  have hPC : va_P D vwCl (wl dA adC (197, TC, PC, V0C)) H2 := fun k q hk => by
    have hk1 := (List.getElem?_eq_some_iff.mp hk).1
    exact hP2 k q (by rw [List.getElem?_append_left hk1]; exact hk)
  have hDC : va_D (fun q : Nat => s.heap.size ≤ q) (wl dA adC (197, TC, PC, V0C)) := hD1
  have hdq : ∀ (i k : Nat) (q : Nat × va_E), i < 1 → (wl dA adC (197, TC, PC, V0C))[k]? = some q → (fun _ : Nat => q1) i ≠ q.1 := by
    intro i k q _ hk he
    have hk1 := (List.getElem?_eq_some_iff.mp hk).1
    have h1 : (wl dA adC (197, TC, PC, V0C) ++ [(q1, .inr (6, flds (fun _ => 0) 6 (fun _ => none) (fun _ => 0)))])[k]? = some q := by rw [List.getElem?_append_left hk1]; exact hk
    have h2 : (wl dA adC (197, TC, PC, V0C) ++ [(q1, (.inr (6, flds (fun _ => 0) 6 (fun _ => none) (fun _ => 0)) : va_E))])[197]? = some (q1, .inr (6, flds (fun _ => 0) 6 (fun _ => none) (fun _ => 0))) := by rw [List.getElem?_append_right (by rw [hlen]; exact Nat.le_refl _), hlen]; rfl
    have h3 := hD2.1 k 197 q _ h1 h2 he.symm
    rw [hlen] at hk1
    omega
  have hPM : va_P D vwCl (wl dA (fun _ => q1) (1, TM, fun _ _ => none, fun _ _ => 0)) H2 := by
    rw [wl_one (ci := 6) (n := 29) rfl]
    intro k q hk
    have hk1 : k < 1 := (List.getElem?_eq_some_iff.mp hk).1
    have hk0 : k = 0 := by omega
    subst hk0
    cases hk
    exact hP2 197 _ (by rw [List.getElem?_append_right (by rw [hlen]; exact Nat.le_refl _), hlen]; rfl)
  have hDM : va_D (fun q : Nat => s.heap.size ≤ q) (wl dA (fun _ => q1) (1, TM, fun _ _ => none, fun _ _ => 0)) := by
    rw [wl_one (ci := 6) (n := 29) rfl]
    refine ⟨fun i j p q hi hj _ => ?_, fun k q hk => ?_⟩
    · have hi1 : i < 1 := (List.getElem?_eq_some_iff.mp hi).1
      have hj1 : j < 1 := (List.getElem?_eq_some_iff.mp hj).1
      omega
    · have hk1 : k < 1 := (List.getElem?_eq_some_iff.mp hk).1
      have hk0 : k = 0 := by omega
      subst hk0
      cases hk
      exact hD2.2 197 (q1, .inr (6, flds (fun _ => 0) 6 (fun _ => none) (fun _ => 0))) (by rw [List.getElem?_append_right (by rw [hlen]; exact Nat.le_refl _), hlen]; rfl)
  refine lv_dup hx hb dL_law_11 rfl ?_
  have hE2 : Ev mX6_init [.ref 0] (1, TM, fun _ _ => none, fun _ _ => 0) none (23, TM, cModel (fun _ _ => none), V0M) := E_X6_init (fun _ _ => none) (fun _ _ => 0)
  rw [model_PM] at hE2
  refine law_cI (ad := fun _ => q1) (ws2 := wl dA adC (197, TC, PC, V0C)) (rest := [.ref q1]) B hl.1 hPM hPC hDM hdq wfh_one hS hE2 rfl oX6_init rfl rfl iX6_init kL_12 (by decide) (Nat.le_of_ble_eq_true rfl) ⟨Nat.le_of_ble_eq_true rfl, Nat.le_of_ble_eq_true rfl⟩ ⟨Nat.le_of_ble_eq_true rfl, Nat.le_of_ble_eq_true rfl⟩ dL_law_12 (fun adM H3 locs3 b0 hPM3 hPC3 hDM3 hdis3 hw3 hS3 => ?_)
  refine lv_astore_n (lv' := [(2, .ref q1), (1, .ref q0), (0, .ref b)]) hx hb dL_law_15 rfl hl (by decide) rfl (fun ls hl => ?_)
  refine lv_iconst (v := 0) hx hb dL_law_16 (by decide) ?_
  refine lv_istore_n (lv' := [(3, .int 0), (2, .ref q1), (1, .ref q0), (0, .ref b)]) hx hb dL_law_17 rfl hl (by decide) rfl (fun ls hl => ?_)
  have ea : adC 0 = q0 := a0 0 (by decide)
  have eb : adM 0 = q1 := b0 0 (by decide)
  subst ea
  subst eb
  refine law_loop R S hr hlocks B hX hbl hL (L + 2) 0 (by omega) (by omega) ⟨Nat.le_of_ble_eq_true rfl, Nat.le_of_ble_eq_true rfl⟩ ⟨hPC3, hPM3, hDC, hDM3, fun i j hi hj he => ?_, hw1, hw3, hS3⟩ R0 (lv_sub hl [3, 2, 1, 0] rfl)
  exact hdis3 j i _ hj (wl_get (dA := dA) (ad := adC) (h := (197, TC, PC, V0C)) hi) he.symm

