/-! THE CLAIM OUT OF ONE WALK OF THE LAW'S BODY. Your part is whole_start (and what it stands on); all else here is the same for every law, but numbers. -/
def R_law : String := "CampBookLaw"
def lw_P (b : Addr) (xs : List Int32) (args : Array Value) (s : State) : Prop := args = #[.ref b] ∧ s.IntsAt b xs ∧ xs.length ≤ 260 ∧ (Jvm.Cond.and given_1 narrow_1).before args s = true
def lw_Q (rc rs : Nat) (_ : Array Value) (s : State) (o : Outcome) (t : State) : Prop := o = .returned (some (.int 1)) ∧ Framed s o t [] rc rs
def lw_Z (rc rs : Nat) (below : List Frame) (a : Array Value) (s : State) : State → Prop := fun t => ∃ o, t.status = .running ∧ Ended t below o ∧ lw_Q rc rs a s o t
/-- the law's own end, with 1 on the stack, nothing written that was there before, its room as the claim has it -/
theorem lw_ret {rc rs : Nat} {p : Program} {l : Launch} {e : Env} {s : State} {m : MethodId} {below : List Frame} {meth : Method} {c : Code} {b : Nat} (hx : p.tables.exec = Jvm.exec) (hb : c.code = code) (hr : meth.sig.returnType = ret) (hlocks : meth.locks = false) {pc : Nat} {H : Heap} {ls : Array Slot} (hdg : decode code pc = .ok (.ireturn, 1)) : W p l e room_1 s m #[Value.ref b] below meth c H [] rc rs (lw_Z rc rs below #[Value.ref b] s) (F0 m pc ls [.int 1]) := by
  intro T hT X
  obtain ⟨fs, hret, hrun, hended, hW, hframe⟩ := X.leave (v := some (.int 1)) (hlocks := hlocks) (fun h => by rw [hr] at h; cases h)
  have hmeth' : T.vm.method? m = some meth := X.method'
  refine ⟨T.setFrames fs, ?_, .returned (some (.int 1)), hrun, hended, rfl, ⟨_, rfl⟩, hW, hframe⟩
  jvm_step X.here [X.here.top, hx, hb, hdg, hmeth', hr, ret, narrow_b1]
  (try refine ⟨rfl, ?_⟩); (try refine ⟨rfl, ?_⟩)
  first | (intro acts; rw [hret _ acts rfl rfl rfl]) | rw [hret _ _ rfl rfl rfl]
  exact Steps.refl _
/-- what holds at the law's entry: the machine, the code, the tables' words (any of lw_tbl by 'hts w (by decide +kernel)'), the script of L ints xs at the cell b, what the Statement gives of the start (any of its parts by flat_of_before) -/
def lw_At (p : Program) (s : State) (m : MethodId) (meth : Method) (c : Code) (b L : Nat) (xs : Nat → Int32) : Prop :=
  p.tables.exec = Jvm.exec ∧ c.code = code ∧ meth.sig.returnType = ret ∧ c.maxLocals = 19 ∧ s.vm.findClass R_law = some m.cls ∧ (∀ w ∈ lw_tbl, w.before #[Value.ref b] s = true) ∧ va_X b L xs s s.heap ∧ b < s.heap.size ∧ meth.locks = false ∧ (Jvm.Cond.and given_1 narrow_1).before #[Value.ref b] s = true
set_option maxHeartbeats 4000000 in
set_option maxRecDepth 100000 in
theorem whole_start {rc rs : Nat} (hrc : 200000 ≤ rc) (hrs : 2000000 ≤ rs) {p : Program} {e : Env} {s : State} {m : MethodId} {below : List Frame} {meth : Method} {c : Code} (l : Launch) (hflags : l.flags = flags0) {b L : Nat} {xs : Nat → Int32} (hL : L ≤ 260) (C0 : lw_At p s m meth c b L xs) : W p l e room_1 s m #[Value.ref b] below meth c s.heap [] 0 0 (lw_Z rc rs below #[Value.ref b] s) (entryFrame m ([Value.ref b] : List Value).toArray 19) := by
  obtain ⟨hx, hb, hr, hml, hown, hts0, hX, hbl, hlocks, hgv⟩ := id C0
  have hl9 : l.stackTraces = false := by
    show (!l.flags.contains Jvm.noTraceFlag) = false
    rw [hflags]
    decide +kernel
  obtain ⟨hE, hN⟩ := law_env hts0 hgv
  have hts : ∀ w ∈ wsL_law, w.before #[Value.ref b] s = true := fun w hw => hts0 w (wsL_law_in w hw)
  have hA : ∀ q : Nat, s.heap.size ≤ q → (fun z => s.heap.size ≤ z) q := fun _ h => h
  have hbA : ¬ (fun z => s.heap.size ≤ z) b := Nat.not_le.mpr hbl
  obtain ⟨c0, iS0, hKn0⟩ := u_known (C := RX0) (T := TX0) (N := 3) (n := 3) hts0 inX0 (hts0 (.instantiable RX0 3) (by decide +kernel))
  obtain ⟨c1, iS1, hKn1⟩ := u_known (C := RX1) (T := TX1) (N := 2) (n := 2) hts0 inX1 (hts0 (.instantiable RX1 2) (by decide +kernel))
  obtain ⟨c2, iS2, hKn2⟩ := u_known (C := RX2) (T := TX2) (N := 6) (n := 6) hts0 inX2 (hts0 (.instantiable RX2 6) (by decide +kernel))
  obtain ⟨c3, iS3, hKn3⟩ := u_known (C := RX3) (T := TX3) (N := 8) (n := 8) hts0 inX3 (hts0 (.instantiable RX3 8) (by decide +kernel))
  obtain ⟨c4, iS4, hKn4⟩ := u_known (C := RX4) (T := TX4) (N := 3) (n := 3) hts0 inX4 (hts0 (.instantiable RX4 3) (by decide +kernel))
  obtain ⟨c5, iS5, hKn5⟩ := u_known (C := RX5) (T := TX5) (N := 6) (n := 6) hts0 inX5 (hts0 (.instantiable RX5 6) (by decide +kernel))
  obtain ⟨dC, dI, hKc⟩ : ∃ (dC : Nat → ClassId) (dI : Nat → Nat → Nat), ∀ (k : Nat) (q : vw_C), vwCl[k]? = some q → u_Kn s q.1 q.2.1 q.2.2 (dC k) (dI k) := by
    refine ⟨fun k => match k with | 0 => c0 | 1 => c1 | 2 => c2 | 3 => c3 | 4 => c4 | _ => c5, fun k => match k with | 0 => iS0 | 1 => iS1 | 2 => iS2 | 3 => iS3 | 4 => iS4 | _ => iS5, ?_⟩
    intro k q hq
    match k, hq with
    | 0, hq => cases hq; exact hKn0
    | 1, hq => cases hq; exact hKn1
    | 2, hq => cases hq; exact hKn2
    | 3, hq => cases hq; exact hKn3
    | 4, hq => cases hq; exact hKn4
    | 5, hq => cases hq; exact hKn5
    | k + 6, hq => simp [vwCl] at hq
  have hS : va_S (fun z => s.heap.size ≤ z) s.heap s.heap [] := va_S.rf
  have hK : va_K (dC, dI) vwCl [] s := ⟨hKc, fun k q h => by simp at h⟩
  have hP : va_P (dC, dI) vwCl [] s.heap := fun k q h => by simp at h
  have hD : va_D (fun z => s.heap.size ≤ z) [] := ⟨fun i j p q h => by simp at h, fun k q h => by simp at h⟩
  have hl := lv_entry ([.ref b]) (n := 19) (Nat.le_of_ble_eq_true rfl)
  rw [lg_entry_eq]
  generalize (lg_sl ([.ref b]) ++ List.replicate (19 - (lg_sl ([.ref b])).length) Slot.unset).toArray = ls at hl ⊢
  have hl : lv_has ls 19 [(0, .ref b)] := hl
  refine va_new (ci := 5) (fs := [.null, .null, .null, .null, .null, .int 0]) (C := RX5) (T := TX5) (N := 6) hx hb hts0 inX5 tyX5 tyX5_ok hown (hts (.classLink RL 10 RX5) (by decide +kernel)) (hts (.instantiable RX5 6) (by decide +kernel)) (hts (.initialized RX5) (by decide +kernel)) hK hP hD hS hA rfl (fun j hj => by rcases (show j = 0 ∨ j = 1 ∨ j = 2 ∨ j = 3 ∨ j = 4 ∨ j = 5 by omega) with rfl | rfl | rfl | rfl | rfl | rfl <;> rfl) (Nat.le_of_ble_eq_true rfl) (Nat.le_of_ble_eq_true rfl) dL_law_0 (fun q0 H hP hD hS => ?_)
  have hP : va_P (dC, dI) vwCl [(q0, .inr (5, [.null, .null, .null, .null, .null, .int 0]))] H := hP
  have hD : va_D (fun z => s.heap.size ≤ z) [(q0, .inr (5, [.null, .null, .null, .null, .null, .int 0]))] := hD
  refine W.widen (k := 1) (n := 6) (by omega) (by omega) ?_
  refine lv_dup hx hb dL_law_3 rfl ?_
  have hPc := hP.sub (ws' := [(q0, .inr (5, [.null, .null, .null, .null, .null, .int 0]))]) [0] rfl
  have hDc := hD.sub (ws' := [(q0, .inr (5, [.null, .null, .null, .null, .null, .int 0]))]) [0] (by decide) rfl
  have hKc := hK.sub (tys' := []) [] rfl
  have hFc := va_free (wc := [(q0, .inr (5, [.null, .null, .null, .null, .null, .int 0]))]) hD hS hA [0] rfl
  refine va_callv (va_runI (As := []) (rest := [.ref q0]) ⟨hx, hb, hml, hown, hts⟩ (c_X5_init l dC dI q0 H.size) (cwI 0 hts gL_law_X5_init rfl rfl rfl (hts (.initialized RX5) (by decide +kernel)) (hts (.methodLink RL 29 yX5_init) (by decide +kernel)) (hts (.instanceMethod yX5_init) (by decide +kernel)) rfl (by decide +kernel) ⟨Nat.le_of_ble_eq_true rfl, Nat.le_of_ble_eq_true rfl⟩) ⟨cTn_blind, fun U hU hW => ⟨rfl, cT_of hKc hPc hDc hU hW, cb_nest_warm hW hN⟩⟩ rfl rfl hl.1 rfl (lv_room (Nat.le_of_ble_eq_true rfl)) dL_law_4 ⟨Nat.le_of_ble_eq_true rfl, Nat.le_of_ble_eq_true rfl⟩) hS (fun q _ h => hFc q h) hFc (fun u8 t8 H1 locs ht hvm hw hB hz1 hk1 hS => ?_)
  obtain ⟨a, k, ha0, hP1, hK1, hD1⟩ := hB
  rw [ht] at hP1
  have hK1 := va_K.moved hvm.symm hK1
  obtain ⟨hP, hD⟩ := va_join (wr := []) (w1 := cb_w a k c_S1) hP hD [0] [] rfl rfl (by decide) (by decide) hk1 hFc hP1 hD1
  have hK := (hK.sub (tys' := []) [] rfl).app hK1
  generalize H1 = H at hP hS ⊢
  have hP : va_P (dC, dI) vwCl (cb_w a k c_S1) H := hP
  have hD : va_D (fun z => s.heap.size ≤ z) (cb_w a k c_S1) := hD
  have hK : va_K (dC, dI) vwCl (cb_ty k) s := hK
  refine W.widen (k := 20) (n := 1029) (by omega) (by omega) ?_
  refine lv_astore_n (lv' := [(1, .ref q0), (0, .ref b)]) hx hb dL_law_7 rfl hl (by decide) rfl (fun ls hl => ?_)
  have hl : lv_has ls 19 [(1, .ref (a 0)), (0, .ref b)] := by rw [ha0]; exact hl
  refine lv_iconst (v := nI 1) hx hb dL_law_8 (by decide) ?_
  refine lv_aload_n hx hb dL_law_9 rfl (lv_at hl 1 rfl) ?_
  refine lv_iconst (v := nI 0) hx hb dL_law_10 (by decide) ?_
  refine vp_callSi (W.runS (As := [.ref b, .int (nI 0)]) (rest := [.int (nI 1)]) ⟨hx, hb, hml, hown, hts⟩ (c_L_cell l b L xs 0 hL (by omega)) (va_cwS 2 hts gL_law_L_cell rfl rfl rfl (by decide +kernel) ⟨(Nat.le_of_ble_eq_true rfl), (Nat.le_of_ble_eq_true rfl)⟩) ⟨cSc_blind, fun U hU hW => ⟨rfl, cSc_of hX hbl hbA hS hU hW⟩⟩ rfl rfl hl.1 rfl (lv_room (Nat.le_of_ble_eq_true rfl)) dL_law_11 ⟨(by show 20 + 0 ≤ room_1.cells; exact Nat.le_trans (by omega) rm_c), (by show 1029 + 0 ≤ room_1.slots; exact Nat.le_trans (by omega) rm_s)⟩) (fun r1 _ => ?_)
  refine lv_bipush (v := nI 6) hx hb dL_law_14 (by decide) ?_
  refine vp_callSi (W.runS (As := [.int r1, .int (nI 6)]) (rest := [.int (nI 1)]) ⟨hx, hb, hml, hown, hts⟩ (c_L_below l r1 6 (by omega) (by omega)) (va_cwS 2 hts gL_law_L_below rfl rfl rfl (by decide +kernel) ⟨(Nat.le_of_ble_eq_true rfl), (Nat.le_of_ble_eq_true rfl)⟩) ⟨cN_blind, fun U hU hW => ⟨rfl, trivial⟩⟩ rfl rfl hl.1 rfl (lv_room (Nat.le_of_ble_eq_true rfl)) dL_law_16 ⟨(by show 20 + 0 ≤ room_1.cells; exact Nat.le_trans (by omega) rm_c), (by show 1029 + 0 ≤ room_1.slots; exact Nat.le_trans (by omega) rm_s)⟩) (fun r er => ?_)
  obtain ⟨j2, hj2, er⟩ := er
  subst er
  refine lv_iadd hx hb dL_law_19 ?_
  refine cb_topi (nI_add _ _) ?_
  obtain ⟨np, hnp⟩ : ∃ z, z = 1 + j2 := ⟨_, rfl⟩
  refine cb_topi (z := nI np) (congrArg nI hnp.symm) ?_
  have np_1 : 1 ≤ np := by omega
  have np_2 : np ≤ 6 := by omega
  refine lv_istore_n (lv' := [(2, .int (nI np)), (1, .ref (a 0)), (0, .ref b)]) hx hb dL_law_20 rfl hl (by decide) rfl (fun ls hl => ?_)
  refine lv_bipush (v := nI 90) hx hb dL_law_21 (by decide) ?_
  refine va_newa (atype := .int) hx hb (hts (.arrayClass .int) (by decide +kernel)) rfl hK hP hD hS hA (a0 := (90, .inl (fun _ => 0))) (fun _ => rfl) (by decide) (N' := 90) rfl (by decide) (by show 20 + 1 ≤ room_1.cells; exact Nat.le_trans (by omega) rm_c) (by show 1029 + 90 ≤ room_1.slots; exact Nat.le_trans (by omega) rm_s) dL_law_23 (fun qt kt H hK hP hD hS => ?_)
  have hP : va_P (dC, dI) vwCl (cb_w a k c_S1 ++ [(qt, .inl (kt, (90, .inl (fun _ => 0))))]) H := hP
  have hD : va_D (fun z => s.heap.size ≤ z) (cb_w a k c_S1 ++ [(qt, .inl (kt, (90, .inl (fun _ => 0))))]) := hD
  have hK : va_K (dC, dI) vwCl (cb_ty k ++ [(kt, .int)]) s := hK
  refine lv_astore_n (lv' := [(3, .ref qt), (2, .int (nI np)), (1, .ref (a 0)), (0, .ref b)]) hx hb dL_law_25 rfl hl (by decide) rfl (fun ls hl => ?_)
  refine lv_iconst (v := nI 2) hx hb dL_law_26 (by decide) ?_
  refine lv_aload_n hx hb dL_law_27 rfl (lv_at hl 3 rfl) ?_
  refine lv_iconst (v := nI 1) hx hb dL_law_28 (by decide) ?_
  refine vp_callSi (W.runS (As := [.ref b, .int (nI 1)]) (rest := [.int (nI 2)]) ⟨hx, hb, hml, hown, hts⟩ (c_L_cell l b L xs 1 hL (by omega)) (va_cwS 2 hts gL_law_L_cell rfl rfl rfl (by decide +kernel) ⟨(Nat.le_of_ble_eq_true rfl), (Nat.le_of_ble_eq_true rfl)⟩) ⟨cSc_blind, fun U hU hW => ⟨rfl, cSc_of hX hbl hbA hS hU hW⟩⟩ rfl rfl hl.1 rfl (lv_room (Nat.le_of_ble_eq_true rfl)) dL_law_29 ⟨(by show (20 + 1) + 0 ≤ room_1.cells; exact Nat.le_trans (by omega) rm_c), (by show (1029 + 90) + 0 ≤ room_1.slots; exact Nat.le_trans (by omega) rm_s)⟩) (fun r3 _ => ?_)
  refine lv_bipush (v := nI 28) hx hb dL_law_32 (by decide) ?_
  refine vp_callSi (W.runS (As := [.int r3, .int (nI 28)]) (rest := [.int (nI 2)]) ⟨hx, hb, hml, hown, hts⟩ (c_L_below l r3 28 (by omega) (by omega)) (va_cwS 2 hts gL_law_L_below rfl rfl rfl (by decide +kernel) ⟨(Nat.le_of_ble_eq_true rfl), (Nat.le_of_ble_eq_true rfl)⟩) ⟨cN_blind, fun U hU hW => ⟨rfl, trivial⟩⟩ rfl rfl hl.1 rfl (lv_room (Nat.le_of_ble_eq_true rfl)) dL_law_34 ⟨(by show (20 + 1) + 0 ≤ room_1.cells; exact Nat.le_trans (by omega) rm_c), (by show (1029 + 90) + 0 ≤ room_1.slots; exact Nat.le_trans (by omega) rm_s)⟩) (fun r er => ?_)
  obtain ⟨j4, hj4, er⟩ := er
  subst er
  refine lv_iadd hx hb dL_law_37 ?_
  refine cb_topi (nI_add _ _) ?_
  obtain ⟨ns, hns⟩ : ∃ z, z = 2 + j4 := ⟨_, rfl⟩
  refine cb_topi (z := nI ns) (congrArg nI hns.symm) ?_
  have ns_1 : 2 ≤ ns := by omega
  have ns_2 : ns ≤ 29 := by omega
  refine lv_istore (lv' := [(4, .int (nI ns)), (3, .ref qt), (2, .int (nI np)), (1, .ref (a 0)), (0, .ref b)]) hx hb dL_law_38 hl (by decide) rfl (fun ls hl => ?_)
  refine lv_aload_n hx hb dL_law_40 rfl (lv_at hl 3 rfl) ?_
  refine lv_aload_n hx hb dL_law_41 rfl (lv_at hl 4 rfl) ?_
  refine lv_iconst (v := nI 2) hx hb dL_law_42 (by decide) ?_
  refine lv_iload_n hx hb dL_law_43 rfl (lv_at hl 2 rfl) ?_
  refine lv_iload hx hb dL_law_44 (lv_at hl 0 rfl) ?_
  refine lv_aload_n hx hb dL_law_46 rfl (lv_at hl 1 rfl) ?_
  have hF : ∀ z, va_A (cb_w a k c_S1 ++ [(qt, .inl (kt, (90, .inl (fun _ => 0))))]) H.size z → (fun z => s.heap.size ≤ z) z := va_free hD hS hA [0, 1, 2, 3, 4, 5, 6, 7, 8, 9, 10, 11, 12, 13, 14, 15, 16, 17, 18, 19, 20] rfl
  refine va_calli (va_runS (As := [.ref (a 0), .ref b, .int (nI 2), .int (nI np), .int (nI ns), .ref qt]) (rest := []) ⟨hx, hb, hml, hown, hts⟩ (c_L_scouts l hl9 dC dI a k qt kt (fun _ => 0) (fun _ => 0) b L xs np ns H.size hL np_1 np_2 ns_2 c_S1 cp_1 (fun z => hbA (hF b z))) (va_cwS 6 hts gL_law_L_scouts rfl rfl rfl (by decide +kernel) ⟨(Nat.le_of_ble_eq_true rfl), (Nat.le_of_ble_eq_true rfl)⟩) ⟨cSS_blind, fun U hU hW => ⟨rfl, cU_of hK hP hD hE hS hU hW hF, cSc_of hX hbl hbA hS hU hW⟩⟩ rfl rfl hl.1 rfl (lv_room (Nat.le_of_ble_eq_true rfl)) dL_law_47 ⟨(by show (20 + 1) + 480 ≤ room_1.cells; exact Nat.le_trans (by omega) rm_c), (by show (1029 + 90) + 2880 ≤ room_1.slots; exact Nat.le_trans (by omega) rm_s)⟩) hS (fun z _ h => hF z h) hF (fun r9 u8 t8 H1 L1 ht hvm hw hB hz1 hk1 hS => ?_)
  obtain ⟨tl, S⟩ := u8
  obtain ⟨hr9, hC⟩ := hw
  subst hr9
  obtain ⟨hP9, -, hD9⟩ := hB
  rw [ht] at hP9
  have hC : Cp 0 np ns 0 0 0 0 0 0 tl (fun _ => 0) S := hC
  have hP : va_P (dC, dI) vwCl (cb_w a k S ++ [(qt, .inl (kt, (90, .inl tl)))]) H1 := hP9
  have hD : va_D (fun z => s.heap.size ≤ z) (cb_w a k S ++ [(qt, .inl (kt, (90, .inl tl)))]) := hD9.weaken (B := (fun z => s.heap.size ≤ z)) (fun _ q _ h => hF q.1 h)
  refine lv_iload hx hb dL_law_50 (lv_at hl 0 rfl) ?_
  refine lv_icmp_eq (tgt := 57) hx hb dL_law_52 (by decide) (fun c_52 => ?_) (fun c_52 => ?_)
  · have c_52 : ns = ns := cb_eq (by omega) (by omega) c_52
    refine lv_bipush (v := nI 10) hx hb dL_law_57 (by decide) ?_
    refine va_newa (atype := .int) hx hb (hts (.arrayClass .int) (by decide +kernel)) rfl hK hP hD hS hA (a0 := (10, .inl (fun _ => 0))) (fun _ => rfl) (by decide) (N' := 10) rfl (by decide) (by show ((20 + 1) + 480) + 1 ≤ room_1.cells; exact Nat.le_trans (by omega) rm_c) (by show ((1029 + 90) + 2880) + 10 ≤ room_1.slots; exact Nat.le_trans (by omega) rm_s) dL_law_59 (fun qp kp H hK hP hD hS => ?_)
    have hP : va_P (dC, dI) vwCl (cb_w a k S ++ [(qt, .inl (kt, (90, .inl tl))), (qp, .inl (kp, (10, .inl (fun _ => 0))))]) H := hP
    have hD : va_D (fun z => s.heap.size ≤ z) (cb_w a k S ++ [(qt, .inl (kt, (90, .inl tl))), (qp, .inl (kp, (10, .inl (fun _ => 0))))]) := hD
    have hK : va_K (dC, dI) vwCl (cb_ty k ++ [(kt, .int), (kp, .int)]) s := hK
    refine lv_astore (lv' := [(5, .ref qp), (4, .int (nI ns)), (3, .ref qt), (2, .int (nI np)), (1, .ref (a 0)), (0, .ref b)]) hx hb dL_law_61 hl (by decide) rfl (fun ls hl => ?_)
    refine lv_iconst (v := nI 1) hx hb dL_law_63 (by decide) ?_
    refine lv_aload_n hx hb dL_law_64 rfl (lv_at hl 5 rfl) ?_
    refine lv_bipush (v := nI 7) hx hb dL_law_65 (by decide) ?_
    refine vp_callSi (W.runS (As := [.ref b, .int (nI 7)]) (rest := [.int (nI 1)]) ⟨hx, hb, hml, hown, hts⟩ (c_L_cell l b L xs 7 hL (by omega)) (va_cwS 2 hts gL_law_L_cell rfl rfl rfl (by decide +kernel) ⟨(Nat.le_of_ble_eq_true rfl), (Nat.le_of_ble_eq_true rfl)⟩) ⟨cSc_blind, fun U hU hW => ⟨rfl, cSc_of hX hbl hbA hS hU hW⟩⟩ rfl rfl hl.1 rfl (lv_room (Nat.le_of_ble_eq_true rfl)) dL_law_67 ⟨(by show (((20 + 1) + 480) + 1) + 0 ≤ room_1.cells; exact Nat.le_trans (by omega) rm_c), (by show (((1029 + 90) + 2880) + 10) + 0 ≤ room_1.slots; exact Nat.le_trans (by omega) rm_s)⟩) (fun r5 _ => ?_)
    refine lv_bipush (v := nI 8) hx hb dL_law_70 (by decide) ?_
    refine vp_callSi (W.runS (As := [.int r5, .int (nI 8)]) (rest := [.int (nI 1)]) ⟨hx, hb, hml, hown, hts⟩ (c_L_below l r5 8 (by omega) (by omega)) (va_cwS 2 hts gL_law_L_below rfl rfl rfl (by decide +kernel) ⟨(Nat.le_of_ble_eq_true rfl), (Nat.le_of_ble_eq_true rfl)⟩) ⟨cN_blind, fun U hU hW => ⟨rfl, trivial⟩⟩ rfl rfl hl.1 rfl (lv_room (Nat.le_of_ble_eq_true rfl)) dL_law_72 ⟨(by show (((20 + 1) + 480) + 1) + 0 ≤ room_1.cells; exact Nat.le_trans (by omega) rm_c), (by show (((1029 + 90) + 2880) + 10) + 0 ≤ room_1.slots; exact Nat.le_trans (by omega) rm_s)⟩) (fun r er => ?_)
    obtain ⟨j6, hj6, er⟩ := er
    subst er
    refine lv_iadd hx hb dL_law_75 ?_
    refine cb_topi (nI_add _ _) ?_
    obtain ⟨nt, hnt⟩ : ∃ z, z = 1 + j6 := ⟨_, rfl⟩
    refine cb_topi (z := nI nt) (congrArg nI hnt.symm) ?_
    have nt_1 : 1 ≤ nt := by omega
    have nt_2 : nt ≤ 8 := by omega
    refine lv_istore (lv' := [(6, .int (nI nt)), (5, .ref qp), (4, .int (nI ns)), (3, .ref qt), (2, .int (nI np)), (1, .ref (a 0)), (0, .ref b)]) hx hb dL_law_76 hl (by decide) rfl (fun ls hl => ?_)
    refine lv_iconst (v := nI 0) hx hb dL_law_78 (by decide) ?_
    refine lv_istore (lv' := [(7, .int (nI 0)), (6, .int (nI nt)), (5, .ref qp), (4, .int (nI ns)), (3, .ref qt), (2, .int (nI np)), (1, .ref (a 0)), (0, .ref b)]) hx hb dL_law_79 hl (by decide) rfl (fun ls hl => ?_)
    have hB : BD np ns nt := ⟨np_1, np_2, ns_1, ns_2, nt_1, nt_2⟩
    have C1 : LC p s m c b L xs dC dI k kt kp := ⟨hx, hb, hml, hown, hts, hX, hbl, hL, hK, hE⟩
    have kk : ∀ pl : Nat → Int32, KD p l e s m below meth c b dC dI a k qt kt tl qp kp pl np ns nt 12 (9 * 12) [] 920 200000 2000000 (lw_Z rc rs below #[Value.ref b] s) := by
      intro pl S H locs ls hC hP hD hS hl
      refine lv_iconst (v := nI 1) hx hb dL_law_920 (by decide) ?_
      refine W.widen (k := rc) (n := rs) hrc hrs ?_
      refine va_forget (fun z hz => hS.2.2 z hz) ?_
      exact lw_ret hx hb hr hlocks dL_law_921
    refine W.widen (k := (((20 + 1) + 480) + 1) + 8 * 0) (n := (((1029 + 90) + 2880) + 10) + 48 * 0) (by omega) (by omega) ?_
    exact lp_t0 (cells := (((20 + 1) + 480) + 1)) (slots := (((1029 + 90) + 2880) + 10)) (cE := (((20 + 1) + 480) + 1) + 64) (sE := (((1029 + 90) + 2880) + 10) + 384) hl9 C1 hB (by omega) (by omega) (by omega) (by omega) (fun S pv H locs ls hC hP hD hS hl => lw_127 (cells := (((20 + 1) + 480) + 1) + 64) (slots := (((1029 + 90) + 2880) + 10) + 384) (cE := 200000) (sE := 2000000) hl9 C1 hB (by omega) (by omega) (by omega) (by omega) (kk pv) hC hP hD hS hl) (nt + 1) 0 (by omega) (by omega) S (fun _ => 0) H L1 ls hC hP hD hS (lv_sub hl [7, 6, 5, 4, 3, 2, 1, 0] rfl)
  · have c_52 : ns ≠ ns := cb_ne (by omega) (by omega) c_52
    exact absurd rfl c_52
set_option maxHeartbeats 4000000 in
theorem lw_walk {rc rs : Nat} (hrc : 200000 ≤ rc) (hrs : 2000000 ≤ rs) (l : Launch) (hflags : l.flags = flags0) (b : Addr) (xs : List Int32) : MetFree l x (headSpec (Jvm.Cond.code x code maxLocals ret :: tables_1) room_1) (lw_P b xs) (fun _ _ _ _ _ => True) (lw_Q rc rs) := by
  refine MetFree.of_bodyS (code := code) (maxLocals := maxLocals) (ret := ret) (by decide) ?_ ?_
  · intro args s m h hn
    obtain ⟨meth, c, h1, h2, h3, h4, h5, h6, -, -⟩ := Cond.code_spec hn (atoms_spec (ws := Jvm.Cond.code x code maxLocals ret :: tables_1) h _ List.mem_cons_self)
    exact ⟨meth, c, h1, h2, h3, h4, h5, h6⟩
  · intro p e s m args below meth c s₁ B hml0 hP _
    obtain ⟨rfl, hx, hbd, hgv⟩ := hP
    obtain ⟨scr, harrAt, hlist, hof, hsmall⟩ := hx
    obtain ⟨hcb, hkn, -, -⟩ := State.arrayAt?_spec harrAt
    have hown : s.vm.findClass R_law = some m.cls := findClass_of_methodNamed B.named
    have hts0 : ∀ c ∈ (Jvm.Cond.code x code maxLocals ret :: tables_1), c.before #[Value.ref b] s = true := atoms_spec (ws := Jvm.Cond.code x code maxLocals ret :: tables_1) B.pre
    have hts : ∀ w ∈ lw_tbl, w.before #[Value.ref b] s = true := k2_hts_sels lw_privs (fun w hw => hts0 w (List.mem_cons_of_mem _ hw)) lw_privs_ok
    have hml : c.maxLocals = 19 := B.maxLocals_eq (hts0 _ List.mem_cons_self)
    have X₀ : Stand p l e room_1 s m #[Value.ref b] below meth c s₁ [] 0 0 := Stand.of_body B
    have hh0 : s₁.heap = s.heap := by rw [B.state]; rfl
    have hsz : scr.slots.size = xs.length := by rw [← Array.length_toList, hlist, List.length_map]
    have hval : ∀ j : Nat, j < xs.length → scr.slots[j]? = some (.int (xs.getD j 0)) := fun j hj => by
      rw [← Array.getElem?_toList, hlist]
      simp [hj]
    have hbl : b < s.heap.size := (Array.getElem?_eq_some_iff.mp hcb).1
    have hX : va_X b xs.length (fun j => xs.getD j 0) s s.heap := ⟨scr, hcb, hof, hkn, hsz, hval⟩
    have K : W p l e room_1 s m #[Value.ref b] below meth c s₁.heap [] 0 0 (lw_Z rc rs below #[Value.ref b] s) (entryFrame m ([Value.ref b] : List Value).toArray 19) := by
      rw [hh0]
      exact whole_start hrc hrs l hflags hbd ⟨B.exec, B.bytes, B.returns, hml, hown, hts, hX, hbl, B.notSynchronized, hgv⟩
    obtain ⟨t, a1, o, b1, b2, b3⟩ := K s₁ rfl X₀
    exact ⟨t, o, a1, b1, b2, b3⟩
theorem lw_pre_spec {args : Array Value} {s : State} (h : (Jvm.Cond.and given_1 narrow_1).before args s = true) (hr : rest_1_c.before args s = true) : ∃ (b : Addr) (xs : List Int32), lw_P b xs args s := by
  have hs := flat_of_before _ h
  have hq := flat_of_before _ hr
  have hc : (Cond.count 1).before args s = true := hs _ (by decide +kernel)
  have harr : (Cond.arrayOf (.arg 0) .int).before args s = true := hs _ (by decide +kernel)
  have hle : (Cond.le (.length (.arg 0)) (.int 260)).before args s = true := hs _ (by decide +kernel)
  have hlen : (Cond.isInt (.length (.arg 0))).before args s = true := hq _ (by decide +kernel)
  have hall : (Cond.all (.arg 0) (.isInt (.elem (.arg 0) (.index 0)))).before args s = true := hq _ (by decide +kernel)
  obtain ⟨b, xs, hb, hx⟩ := State.ints_of_pre rfl harr hlen hall
  have hsm : xs.length < 2 ^ 31 := hx.choose_spec.2.2.2
  have hev : (Term.length (.arg 0)).eval args s none [] s = some (.int xs.length.toInt32) := hx.length_eval hb
  have hv := Cond.le_ints hev (show (Term.int 260).eval args s none [] s = some (.int 260) from rfl)
  have hd : xs.length.toInt32 ≤ 260 := by
    simpa [Cond.before, Cond.holds, hv] using hle
  have hN : xs.length ≤ 260 := (Int32.ofNat_le_ofNat hsm (by decide)).mp (show Int32.ofNat xs.length ≤ Int32.ofNat 260 from hd)
  exact ⟨b, xs, Cond.one_arg hc (show args[0]? = some (.ref b) from hb), hx, hN, h⟩
theorem lw_comes {rc rs : Nat} (hrc : 200000 ≤ rc) (hrs : 2000000 ≤ rs) (l : Launch) (hflags : l.flags = flags0) : Comes l x (Jvm.Cond.code x code maxLocals ret :: tables_1) room_1 (fun tb e args s => Calls_1 tb e args s ∧ rest_1 tb e args s ∧ Pre_1 tb e args s)
    (fun _ _ args s o t => lw_Q rc rs args s o t) := by
  intro p e ha hc hk s m args below hf hfit hheap happ hpre
  obtain ⟨b, xs, hP⟩ := lw_pre_spec hpre.2.2 hpre.2.1
  obtain ⟨k, o, h1, h2, h3, hQ⟩ := lw_walk hrc hrs l hflags b xs p e ha hc hk s m args below hf ((Spec.applies_iff_loose hf).mp happ).1 hP trivial
  exact ⟨k, o, h1, h2, h3, hQ⟩
theorem lw_frame {rc rs : Nat} {s t : State} {o : Outcome} {args : Array Value} (h : Framed s o t [] rc rs) :
    Framed s o t (fieldLocs frame_1_writes args s ++ arrayLocs frame_1_arrays args s ++ staticLocs frame_1_statics s) rc rs := h
theorem lw_limb {rc rs : Nat} (hrc : 200000 ≤ rc) (hrs : 2000000 ≤ rs) (L : Cond) (hL : ∀ (args : Array Value) (s t : State), L.after args s (.returned (some (.int 1))) t = true) :
    ArmFor flags0 classFile x code maxLocals ret World_1 tables_1 room_1 Calls_1 rest_1 Pre_1
      (fun tb e a s o t => postC L tb e a s o t ∧ Framed s o t (fieldLocs frame_1_writes a s ++ arrayLocs frame_1_arrays a s ++ staticLocs frame_1_statics s) rc rs) := by
  intro l hflags _ _ p e ha hc hk s m args below hf hfit hheap happ hpre
  obtain ⟨k, o, h1, h2, h3, rfl, hF⟩ := lw_comes hrc hrs l hflags p e ha hc hk s m args below hf hfit hheap happ hpre
  exact ⟨k, _, h1, h2, h3, hL args s _, lw_frame hF⟩
theorem i_vc : Claimed_1_1 ∧ Claimed_1_2 := ⟨lw_limb (by exact Nat.le_of_ble_eq_true rfl) (by exact Nat.le_of_ble_eq_true rfl) limb_1_1 (fun args s t => by simp [limb_1_1, Cond.after, Cond.holds, Cond.value]), lw_limb (by exact Nat.le_of_ble_eq_true rfl) (by exact Nat.le_of_ble_eq_true rfl) limb_1_2 (fun args s t => Cond.after_iff.mpr (by
  first | (rw [show limb_1_2 = Cond.eq .result (.int 1) from rfl, Cond.eq_ints (x := 1) (y := 1) rfl rfl]; simp; done) | (simp [limb_1_2, Cond.value, Term.eval]; done)))⟩
