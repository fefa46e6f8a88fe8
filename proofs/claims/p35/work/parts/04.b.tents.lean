section CBM
abbrev rm_X4_pitch : Room := { frames := 0, cells := 0, slots := 0, locals := 0 }
set_option maxHeartbeats 4000000 in
set_option maxRecDepth 100000 in
theorem c_X4_pitch (l : Launch) (dC : Nat → ClassId) (dI : Nat → Nat → Nat) (a : Nat → Nat) (k : Nat → ClassId) (S : cs_S) (sz : Nat) (p0 : Int32) (hn : c_nt S < 10) : Met l yX4_pitch wsX4_pitch rm_X4_pitch (va_Pc [.ref (a 2), .int p0] (cT dC dI sz (cb_w a k S) (cb_ty k))) (va_Qi (fun (r : Int32) (_ : Unit) => r = nI (c_nt S)) (fun _ t => cB dC dI (va_A (cb_w a k S) sz) (cb_w a k (s_nt (s_plc S (upd (c_plc S) (c_nt S) p0)) (c_nt S + 1))) (cb_ty k) t) (va_A (cb_w a k S) sz)) 0 0 (va_A (cb_w a k S) sz) := by
  refine Met.ofW (cc := cX4_pitch) (maxL := 3) (ret := (some .int)) (by decide) rfl ?_
  intro p e s m args below meth c s₁ B hml hv
  obtain ⟨rfl, hsz, hP, hK, hD0⟩ := hv
  have hx := B.exec
  have hb := B.bytes
  have hr := B.returns
  have hts := atoms_spec (ws := wsX4_pitch) B.pre
  have hown : s.vm.findClass RX4 = some m.cls := findClass_of_methodNamed B.named
  have hlocks := B.notSynchronized
  subst hsz
  have hD := hD0.self (sz := s.heap.size)
  generalize hAe : va_A (cb_w a k S) s.heap.size = A at hD ⊢
  have hA : ∀ q : Nat, s.heap.size ≤ q → A q := fun q h => by rw [← hAe]; exact Or.inr h
  have hS : va_S A s.heap s.heap [] := va_S.rf
  obtain ⟨Q, hQ⟩ : ∃ Q, Q = MQ below (va_Qi (fun (r : Int32) (_ : Unit) => r = nI (c_nt S)) (fun _ t => cB dC dI A (cb_w a k (s_nt (s_plc S (upd (c_plc S) (c_nt S) p0)) (c_nt S + 1))) (cb_ty k) t) A) ([.ref (a 2), .int p0] : List Value).toArray s 0 0 A := ⟨_, rfl⟩
  show W p l e rm_X4_pitch s m _ below meth c s.heap [] 0 0 (MQ below _ _ _ _ _ _) _
  rw [← hQ]
  have i_X4 : ∀ w ∈ wsX40, w ∈ wsX4_pitch := fun w h => List.mem_cons_of_mem _ (List.mem_append_right _ h)
  have f_0 := hts (.fieldLink RX4 19 "CampBook$Tents" "size" "I") (by decide +kernel)
  have f_1 := hts (.fieldLink RX4 9 "CampBook$Tents" "places" "[I") (by decide +kernel)
  have hl := lv_entry ([.ref (a 2), .int p0]) (n := 3) (Nat.le_of_ble_eq_true rfl)
  rw [lg_entry_eq]
  generalize (lg_sl ([.ref (a 2), .int p0]) ++ List.replicate (3 - (lg_sl ([.ref (a 2), .int p0])).length) Slot.unset).toArray = ls at hl ⊢
  have hl : lv_has ls 3 [(0, .ref (a 2)), (1, .int p0)] := hl
  refine lv_aload_n hx hb dX4_pitch_0 rfl (lv_at hl 0 rfl) ?_
  refine va_get (D := (dC, dI)) (ci := 4) (v := .int (nI (c_nt S))) (C := RX4) (T := TX4) (N := 3) hx hb hts i_X4 hown hK hP 2 rfl rfl 0 (by decide) f_0 (fun _ h9 => h9) rfl dX4_pitch_1 ?_
  refine lv_istore_n (lv' := [(2, .int (nI (c_nt S))), (0, .ref (a 2)), (1, .int p0)]) hx hb dX4_pitch_4 rfl hl (by decide) rfl (fun ls hl => ?_)
  refine lv_aload_n hx hb dX4_pitch_5 rfl (lv_at hl 1 rfl) ?_
  refine va_get (D := (dC, dI)) (ci := 4) (v := .ref (a 12)) (C := RX4) (T := TX4) (N := 3) hx hb hts i_X4 hown hK hP 2 rfl rfl 1 (by decide) f_1 (fun _ h9 => h9) rfl dX4_pitch_6 ?_
  refine lv_iload_n hx hb dX4_pitch_9 rfl (lv_at hl 0 rfl) ?_
  refine lv_iload_n hx hb dX4_pitch_10 rfl (lv_at hl 2 rfl) ?_
  refine cb_iast hx hb hK hP hD hS 12 6 (f := c_plc S) rfl rfl (j := c_nt S) (by omega) (Nat.le_of_ble_eq_true rfl) dX4_pitch_11 (fun H locs hP hD hS => ?_)
  rw [wsC_plc] at hP hD
  have hP : va_P (dC, dI) vwCl (cb_W a k (s_plc S (upd (c_plc S) (c_nt S) p0)) (c_sl S) (c_pt S) (c_at S)) H := hP
  have hD : va_D A (cb_W a k (s_plc S (upd (c_plc S) (c_nt S) p0)) (c_sl S) (c_pt S) (c_at S)) := hD
  refine lv_aload_n hx hb dX4_pitch_12 rfl (lv_at hl 1 rfl) ?_
  refine lv_dup hx hb dX4_pitch_13 rfl ?_
  refine va_get (D := (dC, dI)) (ci := 4) (v := .int (nI (c_nt S))) (C := RX4) (T := TX4) (N := 3) hx hb hts i_X4 hown hK hP 2 rfl rfl 0 (by decide) f_0 (fun _ h9 => h9) rfl dX4_pitch_14 ?_
  refine lv_iconst (v := nI 1) hx hb dX4_pitch_17 (by decide) ?_
  refine lv_iadd hx hb dX4_pitch_18 ?_
  refine cb_topi (nI_add _ _) ?_
  refine va_put (D := (dC, dI)) (ci := 4) (v := .int (nI ((c_nt S) + 1))) (ty := .int) (C := RX4) (T := TX4) (N := 3) hx hb hts i_X4 tyX4 tyX4_ok nmX4 hown hK hP hD hS 2 rfl rfl 0 (by decide) f_0 (fun _ h9 => h9) rfl (by decide +kernel) rfl rfl (Nat.le_of_ble_eq_true rfl) dX4_pitch_19 (fun H locs hP hD hS => ?_)
  rw [wsC_nt] at hP hD
  have hP : va_P (dC, dI) vwCl (cb_W a k (s_nt (s_plc S (upd (c_plc S) (c_nt S) p0)) ((c_nt S) + 1)) (c_sl S) (c_pt S) (c_at S)) H := hP
  have hD : va_D A (cb_W a k (s_nt (s_plc S (upd (c_plc S) (c_nt S) p0)) ((c_nt S) + 1)) (c_sl S) (c_pt S) (c_at S)) := hD
  refine lv_iload_n hx hb dX4_pitch_22 rfl (lv_at hl 0 rfl) ?_
  have ew : (cb_W a k (s_nt (s_plc S (upd (c_plc S) (c_nt S) p0)) ((c_nt S) + 1)) (c_sl S) (c_pt S) (c_at S)) = (cb_w a k (s_nt (s_plc S (upd (c_plc S) (c_nt S) p0)) (c_nt S + 1))) := rfl
  have hP : va_P (dC, dI) vwCl (cb_w a k (s_nt (s_plc S (upd (c_plc S) (c_nt S) p0)) (c_nt S + 1))) H := by rw [← ew]; exact hP
  have hD : va_D A (cb_w a k (s_nt (s_plc S (upd (c_plc S) (c_nt S) p0)) (c_nt S + 1))) := by rw [← ew]; exact hD
  rw [hQ]
  refine W.widen (k := 0) (n := 0) (by omega) (by omega) ?_
  exact W.iret (v := nI (c_nt S)) hx hb hr (fun t9 ht9 hW9 => ⟨⟨nI (c_nt S), (), rfl, rfl, cB_of hP hK hD ht9 hW9⟩, hS.F ht9⟩) hS.2.2 dX4_pitch_23
abbrev rm_X4_tentOf : Room := { frames := 0, cells := 0, slots := 0, locals := 0 }
set_option maxHeartbeats 4000000 in
set_option maxRecDepth 100000 in
theorem c_X4_tentOf (l : Launch) (dC : Nat → ClassId) (dI : Nat → Nat → Nat) (a : Nat → Nat) (k : Nat → ClassId) (S : cs_S) (u : Nat) (hu : u < c_ns S) (hI : Inv S) : Met l yX4_tentOf wsX4_tentOf rm_X4_tentOf (va_Pc [.ref (a 2), .int (nI u)] (cR dC dI (cb_w a k S) (cb_ty k))) (vp_Si (fun r => r = c_ten S u)) 0 0 (fun _ => False) := by
  refine Met.ofW (cc := cX4_tentOf) (maxL := 3) (ret := (some .int)) (by decide) rfl ?_
  intro p e s m args below meth c s₁ B hml hv
  obtain ⟨rfl, hP, hK⟩ := hv
  have hx := B.exec
  have hb := B.bytes
  have hr := B.returns
  have hts := atoms_spec (ws := wsX4_tentOf) B.pre
  have hown : s.vm.findClass RX4 = some m.cls := findClass_of_methodNamed B.named
  have hlocks := B.notSynchronized
  obtain ⟨Q, hQ⟩ : ∃ Q, Q = MQ below (vp_Si (fun r => r = c_ten S u)) ([.ref (a 2), .int (nI u)] : List Value).toArray s 0 0 (fun _ => False) := ⟨_, rfl⟩
  show W p l e rm_X4_tentOf s m _ below meth c s.heap [] 0 0 (MQ below _ _ _ _ _ _) _
  rw [← hQ]
  have i_X4 : ∀ w ∈ wsX40, w ∈ wsX4_tentOf := fun w h => List.mem_cons_of_mem _ (List.mem_append_right _ h)
  obtain ⟨⟨hday, hnp, hns, hnt, hnf, hnm, hnb, hme⟩, hpat, hage, hten, hcnt, hplc, heat, hned, hhld, hbad, hbad0, hbag⟩ := id hI
  have f_0 := hts (.fieldLink RX4 19 "CampBook$Tents" "size" "I") (by decide +kernel)
  have f_1 := hts (.fieldLink RX4 15 "CampBook$Tents" "sleepers" "[J") (by decide +kernel)
  have hl := lv_entry ([.ref (a 2), .int (nI u)]) (n := 3) (Nat.le_of_ble_eq_true rfl)
  rw [lg_entry_eq]
  generalize (lg_sl ([.ref (a 2), .int (nI u)]) ++ List.replicate (3 - (lg_sl ([.ref (a 2), .int (nI u)])).length) Slot.unset).toArray = ls at hl ⊢
  have hl : lv_has ls 3 [(0, .ref (a 2)), (1, .int (nI u))] := hl
  refine lv_iconst (v := nI 0) hx hb dX4_tentOf_0 (by decide) ?_
  refine lv_istore_n (lv' := [(2, .int (nI 0)), (0, .ref (a 2)), (1, .int (nI u))]) hx hb dX4_tentOf_1 rfl hl (by decide) rfl (fun ls hl => ?_)
  have L_2 : ∀ (n i : Nat), i ≤ c_nt S → c_nt S + 1 ≤ i + n → (∀ j, j < i → inT S j u = false) → ∀ (ls : Array Slot), lv_has ls 3 [(0, .ref (a 2)), (1, .int (nI u)), (2, .int (nI i))] → W p l e rm_X4_tentOf s m ([.ref (a 2), .int (nI u)] : List Value).toArray below meth c s.heap [] 0 0 Q (F0 m 2 ls []) := by
    intro n
    induction n with
    | zero => intro i h1 h2; exact absurd h2 (by omega)
    | succ n ih_2 =>
      intro i hle_2 hfu_2 hno ls hl
      refine lv_iload_n hx hb dX4_tentOf_2 rfl (lv_at hl 2 rfl) ?_
      refine lv_aload_n hx hb dX4_tentOf_3 rfl (lv_at hl 0 rfl) ?_
      refine va_get (D := (dC, dI)) (ci := 4) (v := .int (nI (c_nt S))) (C := RX4) (T := TX4) (N := 3) hx hb hts i_X4 hown hK hP 2 rfl rfl 0 (by decide) f_0 (fun _ h9 => h9) rfl dX4_tentOf_4 ?_
      refine lv_icmp_ge (tgt := 33) hx hb dX4_tentOf_7 (by decide) (fun c_7 => ?_) (fun c_7 => ?_)
      · have c_7 : (c_nt S) ≤ i := cb_ge (by omega) (by omega) c_7
        refine lv_iconst (v := (-1)) hx hb dX4_tentOf_33 (by decide) ?_
        rw [hQ]
        exact W.iret (v := (-1)) hx hb hr (fun t9 ht9 hW9 => ⟨(-1), rfl, (by rcases hten u hu with q | ⟨t, q1, q2⟩; exact q.symm; exact absurd (hno t (by omega)) (by simp [inT, q2])), ht9⟩) (fun q h => absurd h List.not_mem_nil) dX4_tentOf_34
      · have c_7 : i < (c_nt S) := cb_nge (by omega) (by omega) c_7
        refine lv_aload_n hx hb dX4_tentOf_10 rfl (lv_at hl 0 rfl) ?_
        refine va_get (D := (dC, dI)) (ci := 4) (v := .ref (a 13)) (C := RX4) (T := TX4) (N := 3) hx hb hts i_X4 hown hK hP 2 rfl rfl 2 (by decide) f_1 (fun _ h9 => h9) rfl dX4_tentOf_11 ?_
        refine lv_iload_n hx hb dX4_tentOf_14 rfl (lv_at hl 2 rfl) ?_
        refine cb_lald hx hb hK hP 13 7 (f := c_sl S) rfl rfl (j := i) (by omega) (Nat.le_of_ble_eq_true rfl) dX4_tentOf_15 ?_
        refine cb_topl (z := lN (bs (inT S i) (c_ns S))) (c_sl_at (by omega)) ?_
        refine lv_lconst (v := lN 1) hx hb dX4_tentOf_16 rfl ?_
        refine lv_iload_n hx hb dX4_tentOf_17 rfl (lv_at hl 1 rfl) ?_
        refine lv_lshl hx hb dX4_tentOf_18 rfl ?_
        refine cb_topl (cb_shl (k := u) (by omega)) ?_
        refine lv_land hx hb dX4_tentOf_19 ?_
        refine lv_lconst (v := lN 0) hx hb dX4_tentOf_20 rfl ?_
        refine W.lcmp hx hb dX4_tentOf_21 ?_
        refine lv_if_eq (tgt := 27) hx hb dX4_tentOf_22 (by decide) (fun c_22 => ?_) (fun c_22 => ?_)
        · have c_22 : ((lN (bs (inT S i) (c_ns S))) &&& (lN (2 ^ u))) = (lN 0) := lg_cmp_t c_22
          have c_22 := (bs_ask (by omega) (by omega)).mp c_22
          refine lv_iinc (v := nI (i + 1)) (lv' := [(2, .int (nI (i + 1))), (0, .ref (a 2)), (1, .int (nI u))]) hx hb dX4_tentOf_27 hl (k := 2) rfl (nI_1 _) (by decide) rfl (fun ls hl => ?_)
          refine lv_goto (tgt := 2) hx hb dX4_tentOf_30 (by decide) ?_
          exact ih_2 (i + 1) (by omega) (by omega) (fun j hj => (Nat.lt_or_eq_of_le (Nat.le_of_lt_succ hj)).elim (hno j) (fun q => by subst q; exact c_22)) ls (lv_sub hl [1, 2, 0] rfl)
        · have c_22 : ¬ ((lN (bs (inT S i) (c_ns S))) &&& (lN (2 ^ u))) = (lN 0) := lg_cmp_f c_22
          have c_22 := bs_ask_t (by omega) (by omega) c_22
          refine lv_iload_n hx hb dX4_tentOf_25 rfl (lv_at hl 2 rfl) ?_
          rw [hQ]
          exact W.iret (v := nI i) hx hb hr (fun t9 ht9 hW9 => ⟨nI i, rfl, (of_decide_eq_true c_22).symm, ht9⟩) (fun q h => absurd h List.not_mem_nil) dX4_tentOf_26
  exact L_2 (c_nt S + 1) 0 (by omega) (by omega) (fun j hj => absurd hj (Nat.not_lt_zero j)) ls (lv_sub hl [1, 2, 0] rfl)
abbrev rm_X4_leave : Room := { frames := 0, cells := 0, slots := 0, locals := 0 }
set_option maxHeartbeats 4000000 in
set_option maxRecDepth 100000 in
theorem c_X4_leave (l : Launch) (dC : Nat → ClassId) (dI : Nat → Nat → Nat) (a : Nat → Nat) (k : Nat → ClassId) (S : cs_S) (sz : Nat) (u : Nat) (hu : u < c_ns S) (hI : Inv S) : Met l yX4_leave wsX4_leave rm_X4_leave (va_Pc [.ref (a 2), .int (c_ten S u), .int (nI u)] (cT dC dI sz (cb_w a k S) (cb_ty k))) (va_Qv (fun (_ : Unit) => True) (fun _ t => cB dC dI (va_A (cb_w a k S) sz) (cb_w a k (s_ten S (upd (c_ten S) u (-1)))) (cb_ty k) t) (va_A (cb_w a k S) sz)) 0 0 (va_A (cb_w a k S) sz) := by
  refine Met.ofW (cc := cX4_leave) (maxL := 3) (ret := none) (by decide) rfl ?_
  intro p e s m args below meth c s₁ B hml hv
  obtain ⟨rfl, hsz, hP, hK, hD0⟩ := hv
  have hx := B.exec
  have hb := B.bytes
  have hr := B.returns
  have hts := atoms_spec (ws := wsX4_leave) B.pre
  have hown : s.vm.findClass RX4 = some m.cls := findClass_of_methodNamed B.named
  have hlocks := B.notSynchronized
  subst hsz
  have hD := hD0.self (sz := s.heap.size)
  generalize hAe : va_A (cb_w a k S) s.heap.size = A at hD ⊢
  have hA : ∀ q : Nat, s.heap.size ≤ q → A q := fun q h => by rw [← hAe]; exact Or.inr h
  have hS : va_S A s.heap s.heap [] := va_S.rf
  obtain ⟨Q, hQ⟩ : ∃ Q, Q = MQ below (va_Qv (fun (_ : Unit) => True) (fun _ t => cB dC dI A (cb_w a k (s_ten S (upd (c_ten S) u (-1)))) (cb_ty k) t) A) ([.ref (a 2), .int (c_ten S u), .int (nI u)] : List Value).toArray s 0 0 A := ⟨_, rfl⟩
  show W p l e rm_X4_leave s m _ below meth c s.heap [] 0 0 (MQ below _ _ _ _ _ _) _
  rw [← hQ]
  have i_X4 : ∀ w ∈ wsX40, w ∈ wsX4_leave := fun w h => List.mem_cons_of_mem _ (List.mem_append_right _ h)
  obtain ⟨⟨hday, hnp, hns, hnt, hnf, hnm, hnb, hme⟩, hpat, hage, hten, hcnt, hplc, heat, hned, hhld, hbad, hbad0, hbag⟩ := id hI
  have f_0 := hts (.fieldLink RX4 15 "CampBook$Tents" "sleepers" "[J") (by decide +kernel)
  have f_1 := hts (.constantLong RX4 23 (-1)) (by decide +kernel)
  have hl := lv_entry ([.ref (a 2), .int (c_ten S u), .int (nI u)]) (n := 3) (Nat.le_of_ble_eq_true rfl)
  rw [lg_entry_eq]
  generalize (lg_sl ([.ref (a 2), .int (c_ten S u), .int (nI u)]) ++ List.replicate (3 - (lg_sl ([.ref (a 2), .int (c_ten S u), .int (nI u)])).length) Slot.unset).toArray = ls at hl ⊢
  have hl : lv_has ls 3 [(0, .ref (a 2)), (1, .int (c_ten S u)), (2, .int (nI u))] := hl
  refine lv_iload_n hx hb dX4_leave_0 rfl (lv_at hl 1 rfl) ?_
  refine lv_iconst (v := (-1)) hx hb dX4_leave_1 (by decide) ?_
  refine lv_icmp_eq (tgt := 21) hx hb dX4_leave_2 (by decide) (fun c_2 => ?_) (fun c_2 => ?_)
  · skip
    have ew : (cb_W a k S (c_sl S) (c_pt S) (c_at S)) = (cb_w a k (s_ten S (upd (c_ten S) u (-1)))) := (by rw [ten_same c_2]; first | done | rfl)
    have hP : va_P (dC, dI) vwCl (cb_w a k (s_ten S (upd (c_ten S) u (-1)))) s.heap := by rw [← ew]; exact hP
    have hD : va_D A (cb_w a k (s_ten S (upd (c_ten S) u (-1)))) := by rw [← ew]; exact hD
    rw [hQ]
    refine W.widen (k := 0) (n := 0) (by omega) (by omega) ?_
    exact W.vret hx hb hr (fun t9 ht9 hW9 => ⟨⟨(), rfl, trivial, cB_of hP hK hD ht9 hW9⟩, hS.F ht9⟩) hS.2.2 dX4_leave_21
  · skip
    rcases hten u hu with q | ⟨t, ht9, et⟩; exact absurd q c_2
    rw [et] at hl
    refine lv_aload_n hx hb dX4_leave_5 rfl (lv_at hl 0 rfl) ?_
    refine va_get (D := (dC, dI)) (ci := 4) (v := .ref (a 13)) (C := RX4) (T := TX4) (N := 3) hx hb hts i_X4 hown hK hP 2 rfl rfl 2 (by decide) f_0 (fun _ h9 => h9) rfl dX4_leave_6 ?_
    refine lv_iload_n hx hb dX4_leave_9 rfl (lv_at hl 1 rfl) ?_
    refine lv_dup2_11 hx hb dX4_leave_10 rfl rfl ?_
    refine cb_lald hx hb hK hP 13 7 (f := c_sl S) rfl rfl (j := t) (by omega) (Nat.le_of_ble_eq_true rfl) dX4_leave_11 ?_
    refine lv_lconst (v := lN 1) hx hb dX4_leave_12 rfl ?_
    refine lv_iload_n hx hb dX4_leave_13 rfl (lv_at hl 2 rfl) ?_
    refine lv_lshl hx hb dX4_leave_14 rfl ?_
    refine cb_topl (cb_shl (k := u) (by omega)) ?_
    refine lv_ldc2 hx hb hown f_1 dX4_leave_15 ?_
    refine lv_lxor hx hb dX4_leave_18 ?_
    refine lv_land hx hb dX4_leave_19 ?_
    refine cb_last hx hb hK hP hD hS 13 7 (f := c_sl S) rfl rfl (j := t) (by omega) (Nat.le_of_ble_eq_true rfl) dX4_leave_20 (fun H locs hP hD hS => ?_)
    rw [wsC_SL] at hP hD
    have hP : va_P (dC, dI) vwCl (cb_W a k S (vp_updL (c_sl S) t ((c_sl S t) &&& ((lN (2 ^ u)) ^^^ (-1)))) (c_pt S) (c_at S)) H := hP
    have hD : va_D A (cb_W a k S (vp_updL (c_sl S) t ((c_sl S t) &&& ((lN (2 ^ u)) ^^^ (-1)))) (c_pt S) (c_at S)) := hD
    have ew : (cb_W a k S (vp_updL (c_sl S) t ((c_sl S t) &&& ((lN (2 ^ u)) ^^^ (-1)))) (c_pt S) (c_at S)) = (cb_w a k (s_ten S (upd (c_ten S) u (-1)))) := (by rw [sl_leave hu hns (by omega) et]; first | done | rfl)
    have hP : va_P (dC, dI) vwCl (cb_w a k (s_ten S (upd (c_ten S) u (-1)))) H := by rw [← ew]; exact hP
    have hD : va_D A (cb_w a k (s_ten S (upd (c_ten S) u (-1)))) := by rw [← ew]; exact hD
    rw [hQ]
    refine W.widen (k := 0) (n := 0) (by omega) (by omega) ?_
    exact W.vret hx hb hr (fun t9 ht9 hW9 => ⟨⟨(), rfl, trivial, cB_of hP hK hD ht9 hW9⟩, hS.F ht9⟩) hS.2.2 dX4_leave_21
abbrev rm_X4_enter : Room := { frames := 0, cells := 0, slots := 0, locals := 0 }
set_option maxHeartbeats 4000000 in
set_option maxRecDepth 100000 in
theorem c_X4_enter (l : Launch) (dC : Nat → ClassId) (dI : Nat → Nat → Nat) (a : Nat → Nat) (k : Nat → ClassId) (S : cs_S) (sz : Nat) (u : Nat) (x : Int32) (hu : u < c_ns S) (hI : Inv S) (hx9 : x = -1 ∨ ∃ t, t < c_nt S ∧ x = nI t) (hfree : c_ten S u = -1) : Met l yX4_enter wsX4_enter rm_X4_enter (va_Pc [.ref (a 2), .int x, .int (nI u)] (cT dC dI sz (cb_w a k S) (cb_ty k))) (va_Qv (fun (_ : Unit) => True) (fun _ t => cB dC dI (va_A (cb_w a k S) sz) (cb_w a k (s_ten S (upd (c_ten S) u x))) (cb_ty k) t) (va_A (cb_w a k S) sz)) 0 0 (va_A (cb_w a k S) sz) := by
  refine Met.ofW (cc := cX4_enter) (maxL := 3) (ret := none) (by decide) rfl ?_
  intro p e s m args below meth c s₁ B hml hv
  obtain ⟨rfl, hsz, hP, hK, hD0⟩ := hv
  have hx := B.exec
  have hb := B.bytes
  have hr := B.returns
  have hts := atoms_spec (ws := wsX4_enter) B.pre
  have hown : s.vm.findClass RX4 = some m.cls := findClass_of_methodNamed B.named
  have hlocks := B.notSynchronized
  subst hsz
  have hD := hD0.self (sz := s.heap.size)
  generalize hAe : va_A (cb_w a k S) s.heap.size = A at hD ⊢
  have hA : ∀ q : Nat, s.heap.size ≤ q → A q := fun q h => by rw [← hAe]; exact Or.inr h
  have hS : va_S A s.heap s.heap [] := va_S.rf
  obtain ⟨Q, hQ⟩ : ∃ Q, Q = MQ below (va_Qv (fun (_ : Unit) => True) (fun _ t => cB dC dI A (cb_w a k (s_ten S (upd (c_ten S) u x))) (cb_ty k) t) A) ([.ref (a 2), .int x, .int (nI u)] : List Value).toArray s 0 0 A := ⟨_, rfl⟩
  show W p l e rm_X4_enter s m _ below meth c s.heap [] 0 0 (MQ below _ _ _ _ _ _) _
  rw [← hQ]
  have i_X4 : ∀ w ∈ wsX40, w ∈ wsX4_enter := fun w h => List.mem_cons_of_mem _ (List.mem_append_right _ h)
  obtain ⟨⟨hday, hnp, hns, hnt, hnf, hnm, hnb, hme⟩, hpat, hage, hten, hcnt, hplc, heat, hned, hhld, hbad, hbad0, hbag⟩ := id hI
  have f_0 := hts (.fieldLink RX4 15 "CampBook$Tents" "sleepers" "[J") (by decide +kernel)
  have hl := lv_entry ([.ref (a 2), .int x, .int (nI u)]) (n := 3) (Nat.le_of_ble_eq_true rfl)
  rw [lg_entry_eq]
  generalize (lg_sl ([.ref (a 2), .int x, .int (nI u)]) ++ List.replicate (3 - (lg_sl ([.ref (a 2), .int x, .int (nI u)])).length) Slot.unset).toArray = ls at hl ⊢
  have hl : lv_has ls 3 [(0, .ref (a 2)), (1, .int x), (2, .int (nI u))] := hl
  refine lv_iload_n hx hb dX4_enter_0 rfl (lv_at hl 1 rfl) ?_
  refine lv_iconst (v := (-1)) hx hb dX4_enter_1 (by decide) ?_
  refine lv_icmp_eq (tgt := 17) hx hb dX4_enter_2 (by decide) (fun c_2 => ?_) (fun c_2 => ?_)
  · skip
    have ew : (cb_W a k S (c_sl S) (c_pt S) (c_at S)) = (cb_w a k (s_ten S (upd (c_ten S) u x))) := (by rw [c_2, ten_same hfree]; first | done | rfl)
    have hP : va_P (dC, dI) vwCl (cb_w a k (s_ten S (upd (c_ten S) u x))) s.heap := by rw [← ew]; exact hP
    have hD : va_D A (cb_w a k (s_ten S (upd (c_ten S) u x))) := by rw [← ew]; exact hD
    rw [hQ]
    refine W.widen (k := 0) (n := 0) (by omega) (by omega) ?_
    exact W.vret hx hb hr (fun t9 ht9 hW9 => ⟨⟨(), rfl, trivial, cB_of hP hK hD ht9 hW9⟩, hS.F ht9⟩) hS.2.2 dX4_enter_17
  · skip
    rcases hx9 with q | ⟨t, ht9, et⟩; exact absurd q c_2
    rw [et] at hl
    refine lv_aload_n hx hb dX4_enter_5 rfl (lv_at hl 0 rfl) ?_
    refine va_get (D := (dC, dI)) (ci := 4) (v := .ref (a 13)) (C := RX4) (T := TX4) (N := 3) hx hb hts i_X4 hown hK hP 2 rfl rfl 2 (by decide) f_0 (fun _ h9 => h9) rfl dX4_enter_6 ?_
    refine lv_iload_n hx hb dX4_enter_9 rfl (lv_at hl 1 rfl) ?_
    refine lv_dup2_11 hx hb dX4_enter_10 rfl rfl ?_
    refine cb_lald hx hb hK hP 13 7 (f := c_sl S) rfl rfl (j := t) (by omega) (Nat.le_of_ble_eq_true rfl) dX4_enter_11 ?_
    refine lv_lconst (v := lN 1) hx hb dX4_enter_12 rfl ?_
    refine lv_iload_n hx hb dX4_enter_13 rfl (lv_at hl 2 rfl) ?_
    refine lv_lshl hx hb dX4_enter_14 rfl ?_
    refine cb_topl (cb_shl (k := u) (by omega)) ?_
    refine lv_lor hx hb dX4_enter_15 ?_
    refine cb_last hx hb hK hP hD hS 13 7 (f := c_sl S) rfl rfl (j := t) (by omega) (Nat.le_of_ble_eq_true rfl) dX4_enter_16 (fun H locs hP hD hS => ?_)
    rw [wsC_SL] at hP hD
    have hP : va_P (dC, dI) vwCl (cb_W a k S (vp_updL (c_sl S) t ((c_sl S t) ||| (lN (2 ^ u)))) (c_pt S) (c_at S)) H := hP
    have hD : va_D A (cb_W a k S (vp_updL (c_sl S) t ((c_sl S t) ||| (lN (2 ^ u)))) (c_pt S) (c_at S)) := hD
    have ew : (cb_W a k S (vp_updL (c_sl S) t ((c_sl S t) ||| (lN (2 ^ u)))) (c_pt S) (c_at S)) = (cb_w a k (s_ten S (upd (c_ten S) u x))) := (by rw [sl_enter hu hns (by omega) hfree, et]; first | done | rfl)
    have hP : va_P (dC, dI) vwCl (cb_w a k (s_ten S (upd (c_ten S) u x))) H := by rw [← ew]; exact hP
    have hD : va_D A (cb_w a k (s_ten S (upd (c_ten S) u x))) := by rw [← ew]; exact hD
    rw [hQ]
    refine W.widen (k := 0) (n := 0) (by omega) (by omega) ?_
    exact W.vret hx hb hr (fun t9 ht9 hW9 => ⟨⟨(), rfl, trivial, cB_of hP hK hD ht9 hW9⟩, hS.F ht9⟩) hS.2.2 dX4_enter_17
abbrev rm_X4_allSleepers : Room := { frames := 1, cells := 0, slots := 0, locals := 21 }
set_option maxHeartbeats 4000000 in
set_option maxRecDepth 100000 in
theorem c_X4_allSleepers (l : Launch) (dC : Nat → ClassId) (dI : Nat → Nat → Nat) (a : Nat → Nat) (k : Nat → ClassId) (S : cs_S) (hI : Inv S) : Met l yX4_allSleepers wsX4_allSleepers rm_X4_allSleepers (va_Pc [.ref (a 2)] (cR dC dI (cb_w a k S) (cb_ty k))) (vp_Si (fun r => r = nI (fb_sm (cntT S) (c_nt S)))) 0 0 (fun _ => False) := by
  refine Met.ofW (cc := cX4_allSleepers) (maxL := 3) (ret := (some .int)) (by decide) rfl ?_
  intro p e s m args below meth c s₁ B hml hv
  obtain ⟨rfl, hP, hK⟩ := hv
  have hx := B.exec
  have hb := B.bytes
  have hr := B.returns
  have hts := atoms_spec (ws := wsX4_allSleepers) B.pre
  have hown : s.vm.findClass RX4 = some m.cls := findClass_of_methodNamed B.named
  have hlocks := B.notSynchronized
  obtain ⟨Q, hQ⟩ : ∃ Q, Q = MQ below (vp_Si (fun r => r = nI (fb_sm (cntT S) (c_nt S)))) ([.ref (a 2)] : List Value).toArray s 0 0 (fun _ => False) := ⟨_, rfl⟩
  show W p l e rm_X4_allSleepers s m _ below meth c s.heap [] 0 0 (MQ below _ _ _ _ _ _) _
  rw [← hQ]
  have i_X4 : ∀ w ∈ wsX40, w ∈ wsX4_allSleepers := fun w h => List.mem_cons_of_mem _ (List.mem_append_right _ h)
  obtain ⟨⟨hday, hnp, hns, hnt, hnf, hnm, hnb, hme⟩, hpat, hage, hten, hcnt, hplc, heat, hned, hhld, hbad, hbad0, hbag⟩ := id hI
  have f_0 := hts (.fieldLink RX4 19 "CampBook$Tents" "size" "I") (by decide +kernel)
  have f_1 := hts (.fieldLink RX4 15 "CampBook$Tents" "sleepers" "[J") (by decide +kernel)
  have hl := lv_entry ([.ref (a 2)]) (n := 3) (Nat.le_of_ble_eq_true rfl)
  rw [lg_entry_eq]
  generalize (lg_sl ([.ref (a 2)]) ++ List.replicate (3 - (lg_sl ([.ref (a 2)])).length) Slot.unset).toArray = ls at hl ⊢
  have hl : lv_has ls 3 [(0, .ref (a 2))] := hl
  refine lv_iconst (v := nI 0) hx hb dX4_allSleepers_0 (by decide) ?_
  refine lv_istore_n (lv' := [(1, .int (nI 0)), (0, .ref (a 2))]) hx hb dX4_allSleepers_1 rfl hl (by decide) rfl (fun ls hl => ?_)
  refine lv_iconst (v := nI 0) hx hb dX4_allSleepers_2 (by decide) ?_
  refine lv_istore_n (lv' := [(2, .int (nI 0)), (1, .int (nI 0)), (0, .ref (a 2))]) hx hb dX4_allSleepers_3 rfl hl (by decide) rfl (fun ls hl => ?_)
  have L_4 : ∀ (n i : Nat), i ≤ c_nt S → c_nt S + 1 ≤ i + n → ∀ (ls : Array Slot), lv_has ls 3 [(0, .ref (a 2)), (1, .int (nI (fb_sm (cntT S) i))), (2, .int (nI i))] → W p l e rm_X4_allSleepers s m ([.ref (a 2)] : List Value).toArray below meth c s.heap [] 0 0 Q (F0 m 4 ls []) := by
    intro n
    induction n with
    | zero => intro i h1 h2; exact absurd h2 (by omega)
    | succ n ih_4 =>
      intro i hle_4 hfu_4 ls hl
      refine lv_iload_n hx hb dX4_allSleepers_4 rfl (lv_at hl 2 rfl) ?_
      refine lv_aload_n hx hb dX4_allSleepers_5 rfl (lv_at hl 0 rfl) ?_
      refine va_get (D := (dC, dI)) (ci := 4) (v := .int (nI (c_nt S))) (C := RX4) (T := TX4) (N := 3) hx hb hts i_X4 hown hK hP 2 rfl rfl 0 (by decide) f_0 (fun _ h9 => h9) rfl dX4_allSleepers_6 ?_
      refine lv_icmp_ge (tgt := 30) hx hb dX4_allSleepers_9 (by decide) (fun c_9 => ?_) (fun c_9 => ?_)
      · have c_9 : (c_nt S) ≤ i := cb_ge (by omega) (by omega) c_9
        refine lv_iload_n hx hb dX4_allSleepers_30 rfl (lv_at hl 1 rfl) ?_
        rw [hQ]
        exact W.iret (v := nI (fb_sm (cntT S) i)) hx hb hr (fun t9 ht9 hW9 => ⟨nI (fb_sm (cntT S) i), rfl, (by rw [show i = c_nt S by omega]), ht9⟩) (fun q h => absurd h List.not_mem_nil) dX4_allSleepers_31
      · have c_9 : i < (c_nt S) := cb_nge (by omega) (by omega) c_9
        refine lv_iload_n hx hb dX4_allSleepers_12 rfl (lv_at hl 1 rfl) ?_
        refine lv_aload_n hx hb dX4_allSleepers_13 rfl (lv_at hl 0 rfl) ?_
        refine va_get (D := (dC, dI)) (ci := 4) (v := .ref (a 13)) (C := RX4) (T := TX4) (N := 3) hx hb hts i_X4 hown hK hP 2 rfl rfl 2 (by decide) f_1 (fun _ h9 => h9) rfl dX4_allSleepers_14 ?_
        refine lv_iload_n hx hb dX4_allSleepers_17 rfl (lv_at hl 2 rfl) ?_
        refine cb_lald hx hb hK hP 13 7 (f := c_sl S) rfl rfl (j := i) (by omega) (Nat.le_of_ble_eq_true rfl) dX4_allSleepers_18 ?_
        refine cb_topl (z := lN (bs (inT S i) (c_ns S))) (c_sl_at (by omega)) ?_
        refine vp_callSi (W.runS (As := [.long (lN (bs (inT S i) (c_ns S)))]) (rest := [.int (nI (fb_sm (cntT S) i))]) ⟨hx, hb, hml, hown, hts⟩ (c_J13_bitCount_95d88 l (bs (inT S i) (c_ns S)) (bs_lt32 (by omega))) (va_cwS 1 hts gX4_allSleepers_J13_bitCount_95d88 rfl rfl rfl (by decide +kernel) ⟨(Nat.le_of_ble_eq_true rfl), (Nat.le_of_ble_eq_true rfl)⟩) ⟨cN_blind, fun U hU hW => ⟨rfl, trivial⟩⟩ rfl rfl hl.1 rfl (lv_room (Nat.le_of_ble_eq_true rfl)) dX4_allSleepers_19 ⟨(Nat.le_of_ble_eq_true rfl), (Nat.le_of_ble_eq_true rfl)⟩) (fun r er => ?_)
        subst er
        refine cb_topi (z := nI (cntT S i)) (congrArg nI (popc_bs (by omega))) ?_
        refine lv_iadd hx hb dX4_allSleepers_22 ?_
        refine cb_topi (nI_add _ _) ?_
        refine lv_istore_n (lv' := [(1, .int (nI ((fb_sm (cntT S) i) + (cntT S i)))), (0, .ref (a 2)), (2, .int (nI i))]) hx hb dX4_allSleepers_23 rfl hl (by decide) rfl (fun ls hl => ?_)
        refine lv_iinc (v := nI (i + 1)) (lv' := [(2, .int (nI (i + 1))), (1, .int (nI ((fb_sm (cntT S) i) + (cntT S i)))), (0, .ref (a 2))]) hx hb dX4_allSleepers_24 hl (k := 2) rfl (nI_1 _) (by decide) rfl (fun ls hl => ?_)
        refine lv_goto (tgt := 4) hx hb dX4_allSleepers_27 (by decide) ?_
        have hl : lv_has ls 3 [(2, .int (nI (i + 1))), (1, .int (nI (fb_sm (cntT S) (i + 1)))), (0, .ref (a 2))] := cb_loc hl (e := Value.int (nI (fb_sm (cntT S) (i + 1)))) 1 rfl (congrArg Value.int (show nI ((fb_sm (cntT S) i) + (cntT S i)) = nI (fb_sm (cntT S) (i + 1)) from rfl))
        exact ih_4 (i + 1) (by omega) (by omega) ls (lv_sub hl [2, 1, 0] rfl)
  have hl : lv_has ls 3 [(2, .int (nI 0)), (1, .int (nI (fb_sm (cntT S) 0))), (0, .ref (a 2))] := cb_loc hl (e := Value.int (nI (fb_sm (cntT S) 0))) 1 rfl (congrArg Value.int (show nI 0 = nI (fb_sm (cntT S) 0) from rfl))
  exact L_4 (c_nt S + 1) 0 (by omega) (by omega) ls (lv_sub hl [2, 1, 0] rfl)
abbrev rm_X4_agesFit : Room := { frames := 1, cells := 0, slots := 0, locals := 21 }
set_option maxHeartbeats 4000000 in
set_option maxRecDepth 100000 in
theorem c_X4_agesFit (l : Launch) (dC : Nat → ClassId) (dI : Nat → Nat → Nat) (a : Nat → Nat) (k : Nat → ClassId) (S : cs_S) (t : Nat) (u : Nat) (ht : t < 10) (hu : u < c_ns S) (hI : Inv S) : Met l yX4_agesFit wsX4_agesFit rm_X4_agesFit (va_Pc [.ref (a 2), .int (nI t), .int (nI u), .ref (a 1)] (cR dC dI (cb_w a k S) (cb_ty k))) (vp_Si (fun r => r = bI (al (agF S u t) (c_ns S)))) 0 0 (fun _ => False) := by
  refine Met.ofW (cc := cX4_agesFit) (maxL := 6) (ret := (some .boolean)) (by decide) rfl ?_
  intro p e s m args below meth c s₁ B hml hv
  obtain ⟨rfl, hP, hK⟩ := hv
  have hx := B.exec
  have hb := B.bytes
  have hr := B.returns
  have hts := atoms_spec (ws := wsX4_agesFit) B.pre
  have hown : s.vm.findClass RX4 = some m.cls := findClass_of_methodNamed B.named
  have hlocks := B.notSynchronized
  obtain ⟨Q, hQ⟩ : ∃ Q, Q = MQ below (vp_Si (fun r => r = bI (al (agF S u t) (c_ns S)))) ([.ref (a 2), .int (nI t), .int (nI u), .ref (a 1)] : List Value).toArray s 0 0 (fun _ => False) := ⟨_, rfl⟩
  show W p l e rm_X4_agesFit s m _ below meth c s.heap [] 0 0 (MQ below _ _ _ _ _ _) _
  rw [← hQ]
  have i_X3 : ∀ w ∈ wsX30, w ∈ wsX4_agesFit := fun w h => List.mem_cons_of_mem _ (List.mem_append_left _ (List.mem_append_right _ h))
  have i_X4 : ∀ w ∈ wsX40, w ∈ wsX4_agesFit := fun w h => List.mem_cons_of_mem _ (List.mem_append_right _ h)
  obtain ⟨⟨hday, hnp, hns, hnt, hnf, hnm, hnb, hme⟩, hpat, hage, hten, hcnt, hplc, heat, hned, hhld, hbad, hbad0, hbag⟩ := id hI
  have f_0 := hts (.fieldLink RX4 35 "CampBook$People" "scouts" "I") (by decide +kernel)
  have f_1 := hts (.fieldLink RX4 15 "CampBook$Tents" "sleepers" "[J") (by decide +kernel)
  have f_2 := hts (.fieldLink RX4 40 "CampBook$People" "age" "[I") (by decide +kernel)
  have f_3 := hts (.methodLink RX4 43 Lib.Math.abs.name) (by decide +kernel)
  have f_4 := hts (.static Lib.Math.abs.name) (by decide +kernel)
  have f_5 := hts (.initialized "java/lang/Math") (by decide +kernel)
  have f_6 := hts (.code Lib.Math.abs.name Lib.Math.abs.code 1 (some .int)) (by decide +kernel)
  have hl := lv_entry ([.ref (a 2), .int (nI t), .int (nI u), .ref (a 1)]) (n := 6) (Nat.le_of_ble_eq_true rfl)
  rw [lg_entry_eq]
  generalize (lg_sl ([.ref (a 2), .int (nI t), .int (nI u), .ref (a 1)]) ++ List.replicate (6 - (lg_sl ([.ref (a 2), .int (nI t), .int (nI u), .ref (a 1)])).length) Slot.unset).toArray = ls at hl ⊢
  have hl : lv_has ls 6 [(0, .ref (a 2)), (1, .int (nI t)), (2, .int (nI u)), (3, .ref (a 1))] := hl
  refine lv_iconst (v := nI 0) hx hb dX4_agesFit_0 (by decide) ?_
  refine lv_istore (lv' := [(4, .int (nI 0)), (0, .ref (a 2)), (1, .int (nI t)), (2, .int (nI u)), (3, .ref (a 1))]) hx hb dX4_agesFit_1 hl (by decide) rfl (fun ls hl => ?_)
  have L_3 : ∀ (n i : Nat), i ≤ c_ns S → c_ns S + 1 ≤ i + n → al (agF S u t) i = true → ∀ (ls : Array Slot), lv_has ls 6 [(0, .ref (a 2)), (1, .int (nI t)), (2, .int (nI u)), (3, .ref (a 1)), (4, .int (nI i))] → W p l e rm_X4_agesFit s m ([.ref (a 2), .int (nI t), .int (nI u), .ref (a 1)] : List Value).toArray below meth c s.heap [] 0 0 Q (F0 m 3 ls []) := by
    intro n
    induction n with
    | zero => intro i h1 h2; exact absurd h2 (by omega)
    | succ n ih_3 =>
      intro i hle_3 hfu_3 hno ls hl
      refine lv_iload hx hb dX4_agesFit_3 (lv_at hl 4 rfl) ?_
      refine lv_aload_n hx hb dX4_agesFit_5 rfl (lv_at hl 3 rfl) ?_
      refine va_get (D := (dC, dI)) (ci := 3) (v := .int (nI (c_ns S))) (C := RX3) (T := TX3) (N := 8) hx hb hts i_X3 hown hK hP 1 rfl rfl 1 (by decide) f_0 (fun _ h9 => h9) rfl dX4_agesFit_6 ?_
      refine lv_icmp_ge (tgt := 69) hx hb dX4_agesFit_9 (by decide) (fun c_9 => ?_) (fun c_9 => ?_)
      · have c_9 : (c_ns S) ≤ i := cb_ge (by omega) (by omega) c_9
        refine lv_iconst (v := nI 1) hx hb dX4_agesFit_69 (by decide) ?_
        rw [hQ]
        exact W.zret (v := nI 1) hx hb hr rfl (fun t9 ht9 hW9 => ⟨nI 1, rfl, (bI_eq1 (by rw [show c_ns S = i by omega]; exact hno)), ht9⟩) (fun q h => absurd h List.not_mem_nil) dX4_agesFit_70
      · have c_9 : i < (c_ns S) := cb_nge (by omega) (by omega) c_9
        refine lv_aload_n hx hb dX4_agesFit_12 rfl (lv_at hl 0 rfl) ?_
        refine va_get (D := (dC, dI)) (ci := 4) (v := .ref (a 13)) (C := RX4) (T := TX4) (N := 3) hx hb hts i_X4 hown hK hP 2 rfl rfl 2 (by decide) f_1 (fun _ h9 => h9) rfl dX4_agesFit_13 ?_
        refine lv_iload_n hx hb dX4_agesFit_16 rfl (lv_at hl 1 rfl) ?_
        refine cb_lald hx hb hK hP 13 7 (f := c_sl S) rfl rfl (j := t) (by omega) (Nat.le_of_ble_eq_true rfl) dX4_agesFit_17 ?_
        refine cb_topl (z := lN (bs (inT S t) (c_ns S))) (c_sl_at (by omega)) ?_
        refine lv_lconst (v := lN 1) hx hb dX4_agesFit_18 rfl ?_
        refine lv_iload hx hb dX4_agesFit_19 (lv_at hl 4 rfl) ?_
        refine lv_lshl hx hb dX4_agesFit_21 rfl ?_
        refine cb_topl (cb_shl (k := i) (by omega)) ?_
        refine lv_land hx hb dX4_agesFit_22 ?_
        refine lv_lconst (v := lN 0) hx hb dX4_agesFit_23 rfl ?_
        refine W.lcmp hx hb dX4_agesFit_24 ?_
        refine lv_if_eq (tgt := 32) hx hb dX4_agesFit_25 (by decide) (fun c_25 => ?_) (fun c_25 => ?_)
        · have c_25 : ((lN (bs (inT S t) (c_ns S))) &&& (lN (2 ^ i))) = (lN 0) := lg_cmp_t c_25
          have c_25 := (bs_ask (by omega) (by omega)).mp c_25
          refine lv_iconst (v := nI 0) hx hb dX4_agesFit_32 (by decide) ?_
          refine lv_istore (lv' := [(5, .int (nI 0)), (0, .ref (a 2)), (1, .int (nI t)), (2, .int (nI u)), (3, .ref (a 1)), (4, .int (nI i))]) hx hb dX4_agesFit_33 hl (by decide) rfl (fun ls hl => ?_)
          refine lv_iload hx hb dX4_agesFit_35 (lv_at hl 0 rfl) ?_
          refine lv_if_eq (tgt := 63) hx hb dX4_agesFit_37 (by decide) (fun c_37 => ?_) (fun c_37 => ?_)
          · skip
            refine lv_iinc (v := nI (i + 1)) (lv' := [(4, .int (nI (i + 1))), (5, .int (nI 0)), (0, .ref (a 2)), (1, .int (nI t)), (2, .int (nI u)), (3, .ref (a 1))]) hx hb dX4_agesFit_63 hl (k := 5) rfl (nI_1 _) (by decide) rfl (fun ls hl => ?_)
            refine lv_goto (tgt := 3) hx hb dX4_agesFit_66 (by decide) ?_
            exact ih_3 (i + 1) (by omega) (by omega) (by simp only [al, hno, Bool.true_and]; simp only [agF]; first | (rw [c_25]; rfl) | (rw [decide_eq_true c_58, Bool.or_true])) ls (lv_sub hl [2, 3, 4, 5, 0] rfl)
          · exact absurd c_37 (by decide)
        · have c_25 : ¬ ((lN (bs (inT S t) (c_ns S))) &&& (lN (2 ^ i))) = (lN 0) := lg_cmp_f c_25
          have c_25 := bs_ask_t (by omega) (by omega) c_25
          refine lv_iconst (v := nI 1) hx hb dX4_agesFit_28 (by decide) ?_
          refine lv_goto (tgt := 33) hx hb dX4_agesFit_29 (by decide) ?_
          refine lv_istore (lv' := [(5, .int (nI 1)), (0, .ref (a 2)), (1, .int (nI t)), (2, .int (nI u)), (3, .ref (a 1)), (4, .int (nI i))]) hx hb dX4_agesFit_33 hl (by decide) rfl (fun ls hl => ?_)
          refine lv_iload hx hb dX4_agesFit_35 (lv_at hl 0 rfl) ?_
          refine lv_if_eq (tgt := 63) hx hb dX4_agesFit_37 (by decide) (fun c_37 => ?_) (fun c_37 => ?_)
          · exact absurd c_37 (by decide)
          · skip
            refine lv_aload_n hx hb dX4_agesFit_40 rfl (lv_at hl 4 rfl) ?_
            refine va_get (D := (dC, dI)) (ci := 3) (v := .ref (a 7)) (C := RX3) (T := TX3) (N := 8) hx hb hts i_X3 hown hK hP 1 rfl rfl 3 (by decide) f_2 (fun _ h9 => h9) rfl dX4_agesFit_41 ?_
            refine lv_iload hx hb dX4_agesFit_44 (lv_at hl 5 rfl) ?_
            refine cb_iald hx hb hK hP 7 1 (f := c_age S) rfl rfl (j := i) (by omega) (Nat.le_of_ble_eq_true rfl) dX4_agesFit_46 ?_
            refine lv_aload_n hx hb dX4_agesFit_47 rfl (lv_at hl 4 rfl) ?_
            refine va_get (D := (dC, dI)) (ci := 3) (v := .ref (a 7)) (C := RX3) (T := TX3) (N := 8) hx hb hts i_X3 hown hK hP 1 rfl rfl 3 (by decide) f_2 (fun _ h9 => h9) rfl dX4_agesFit_48 ?_
            refine lv_iload_n hx hb dX4_agesFit_51 rfl (lv_at hl 3 rfl) ?_
            refine cb_iald hx hb hK hP 7 1 (f := c_age S) rfl rfl (j := u) (by omega) (Nat.le_of_ble_eq_true rfl) dX4_agesFit_52 ?_
            refine lv_isub hx hb dX4_agesFit_53 ?_
            refine va_mabs hx hb (hml.trans hl.1.symm) hown f_3 f_4 f_5 f_6 (Nat.le_of_ble_eq_true rfl) (Nat.le_of_ble_eq_true rfl) (Nat.le_of_ble_eq_true rfl) (Nat.le_of_ble_eq_true rfl) dX4_agesFit_54 ?_
            refine cb_topi (z := cAbs ((c_age S i) - (c_age S u))) rfl ?_
            refine lv_iconst (v := nI 3) hx hb dX4_agesFit_57 (by decide) ?_
            refine lv_icmp_le (tgt := 63) hx hb dX4_agesFit_58 (by decide) (fun c_58 => ?_) (fun c_58 => ?_)
            · skip
              refine lv_iinc (v := nI (i + 1)) (lv' := [(4, .int (nI (i + 1))), (5, .int (nI 1)), (0, .ref (a 2)), (1, .int (nI t)), (2, .int (nI u)), (3, .ref (a 1))]) hx hb dX4_agesFit_63 hl (k := 5) rfl (nI_1 _) (by decide) rfl (fun ls hl => ?_)
              refine lv_goto (tgt := 3) hx hb dX4_agesFit_66 (by decide) ?_
              exact ih_3 (i + 1) (by omega) (by omega) (by simp only [al, hno, Bool.true_and]; simp only [agF]; first | (rw [c_25]; rfl) | (rw [decide_eq_true c_58, Bool.or_true])) ls (lv_sub hl [2, 3, 4, 5, 0] rfl)
            · skip
              refine lv_iconst (v := nI 0) hx hb dX4_agesFit_61 (by decide) ?_
              rw [hQ]
              exact W.zret (v := nI 0) hx hb hr rfl (fun t9 ht9 hW9 => ⟨nI 0, rfl, (bI_eq0 (al_f (j := i) (by omega) (by simp only [agF, c_25, decide_eq_false c_58]; rfl))), ht9⟩) (fun q h => absurd h List.not_mem_nil) dX4_agesFit_62
  exact L_3 (c_ns S + 1) 0 (by omega) (by omega) rfl ls (lv_sub hl [1, 2, 3, 4, 0] rfl)
abbrev rm_X4_canTake : Room := { frames := 2, cells := 0, slots := 0, locals := 46 }
set_option maxHeartbeats 4000000 in
set_option maxRecDepth 100000 in
theorem c_X4_canTake (l : Launch) (dC : Nat → ClassId) (dI : Nat → Nat → Nat) (a : Nat → Nat) (k : Nat → ClassId) (S : cs_S) (t : Nat) (u : Nat) (ht : t < 10) (hu : u < c_ns S) (hI : Inv S) : Met l yX4_canTake wsX4_canTake rm_X4_canTake (va_Pc [.ref (a 2), .int (nI t), .int (nI u), .ref (a 1)] (cR dC dI (cb_w a k S) (cb_ty k))) (vp_Si (fun r => r = bI (canT S u t))) 0 0 (fun _ => False) := by
  refine Met.ofW (cc := cX4_canTake) (maxL := 4) (ret := (some .boolean)) (by decide) rfl ?_
  intro p e s m args below meth c s₁ B hml hv
  obtain ⟨rfl, hP, hK⟩ := hv
  have hx := B.exec
  have hb := B.bytes
  have hr := B.returns
  have hts := atoms_spec (ws := wsX4_canTake) B.pre
  have hown : s.vm.findClass RX4 = some m.cls := findClass_of_methodNamed B.named
  have hlocks := B.notSynchronized
  obtain ⟨Q, hQ⟩ : ∃ Q, Q = MQ below (vp_Si (fun r => r = bI (canT S u t))) ([.ref (a 2), .int (nI t), .int (nI u), .ref (a 1)] : List Value).toArray s 0 0 (fun _ => False) := ⟨_, rfl⟩
  show W p l e rm_X4_canTake s m _ below meth c s.heap [] 0 0 (MQ below _ _ _ _ _ _) _
  rw [← hQ]
  have i_X4 : ∀ w ∈ wsX40, w ∈ wsX4_canTake := fun w h => List.mem_cons_of_mem _ (List.mem_append_left _ (List.mem_append_right _ h))
  obtain ⟨⟨hday, hnp, hns, hnt, hnf, hnm, hnb, hme⟩, hpat, hage, hten, hcnt, hplc, heat, hned, hhld, hbad, hbad0, hbag⟩ := id hI
  have f_0 := hts (.fieldLink RX4 15 "CampBook$Tents" "sleepers" "[J") (by decide +kernel)
  have f_1 := hts (.fieldLink RX4 9 "CampBook$Tents" "places" "[I") (by decide +kernel)
  have hl := lv_entry ([.ref (a 2), .int (nI t), .int (nI u), .ref (a 1)]) (n := 4) (Nat.le_of_ble_eq_true rfl)
  rw [lg_entry_eq]
  generalize (lg_sl ([.ref (a 2), .int (nI t), .int (nI u), .ref (a 1)]) ++ List.replicate (4 - (lg_sl ([.ref (a 2), .int (nI t), .int (nI u), .ref (a 1)])).length) Slot.unset).toArray = ls at hl ⊢
  have hl : lv_has ls 4 [(0, .ref (a 2)), (1, .int (nI t)), (2, .int (nI u)), (3, .ref (a 1))] := hl
  refine lv_aload_n hx hb dX4_canTake_0 rfl (lv_at hl 0 rfl) ?_
  refine va_get (D := (dC, dI)) (ci := 4) (v := .ref (a 13)) (C := RX4) (T := TX4) (N := 3) hx hb hts i_X4 hown hK hP 2 rfl rfl 2 (by decide) f_0 (fun _ h9 => h9) rfl dX4_canTake_1 ?_
  refine lv_iload_n hx hb dX4_canTake_4 rfl (lv_at hl 1 rfl) ?_
  refine cb_lald hx hb hK hP 13 7 (f := c_sl S) rfl rfl (j := t) (by omega) (Nat.le_of_ble_eq_true rfl) dX4_canTake_5 ?_
  refine cb_topl (z := lN (bs (inT S t) (c_ns S))) (c_sl_at (by omega)) ?_
  refine vp_callSi (W.runS (As := [.long (lN (bs (inT S t) (c_ns S)))]) (rest := []) ⟨hx, hb, hml, hown, hts⟩ (c_J13_bitCount_95d88 l (bs (inT S t) (c_ns S)) (bs_lt32 (by omega))) (va_cwS 1 hts gX4_canTake_J13_bitCount_95d88 rfl rfl rfl (by decide +kernel) ⟨(Nat.le_of_ble_eq_true rfl), (Nat.le_of_ble_eq_true rfl)⟩) ⟨cN_blind, fun U hU hW => ⟨rfl, trivial⟩⟩ rfl rfl hl.1 rfl (lv_room (Nat.le_of_ble_eq_true rfl)) dX4_canTake_6 ⟨(Nat.le_of_ble_eq_true rfl), (Nat.le_of_ble_eq_true rfl)⟩) (fun r er => ?_)
  subst er
  refine cb_topi (z := nI (cntT S t)) (congrArg nI (popc_bs (by omega))) ?_
  refine lv_aload_n hx hb dX4_canTake_9 rfl (lv_at hl 0 rfl) ?_
  refine va_get (D := (dC, dI)) (ci := 4) (v := .ref (a 12)) (C := RX4) (T := TX4) (N := 3) hx hb hts i_X4 hown hK hP 2 rfl rfl 1 (by decide) f_1 (fun _ h9 => h9) rfl dX4_canTake_10 ?_
  refine lv_iload_n hx hb dX4_canTake_13 rfl (lv_at hl 1 rfl) ?_
  refine cb_iald hx hb hK hP 12 6 (f := c_plc S) rfl rfl (j := t) (by omega) (Nat.le_of_ble_eq_true rfl) dX4_canTake_14 ?_
  refine lv_icmp_ge (tgt := 32) hx hb dX4_canTake_15 (by decide) (fun c_15 => ?_) (fun c_15 => ?_)
  · skip
    refine lv_iconst (v := nI 0) hx hb dX4_canTake_32 (by decide) ?_
    rw [hQ]
    exact W.zret (v := nI 0) hx hb hr rfl (fun t9 ht9 hW9 => ⟨nI 0, rfl, (bI_eq0 (by rw [canT, cb_dlt_f c_15, Bool.false_and])), ht9⟩) (fun q h => absurd h List.not_mem_nil) dX4_canTake_33
  · skip
    refine lv_aload_n hx hb dX4_canTake_18 rfl (lv_at hl 0 rfl) ?_
    refine lv_iload_n hx hb dX4_canTake_19 rfl (lv_at hl 1 rfl) ?_
    refine lv_iload_n hx hb dX4_canTake_20 rfl (lv_at hl 2 rfl) ?_
    refine lv_aload_n hx hb dX4_canTake_21 rfl (lv_at hl 3 rfl) ?_
    refine vp_callSi (W.runV (As := [.int (nI t), .int (nI u), .ref (a 1)]) (rest := []) ⟨hx, hb, hml, hown, hts⟩ (c_X4_agesFit l dC dI a k S t u (by omega) (by omega) hI) (cwV 3 hts gX4_canTake_X4_agesFit rfl rfl rfl (by decide +kernel) ⟨(Nat.le_of_ble_eq_true rfl), (Nat.le_of_ble_eq_true rfl)⟩) ⟨cR_blind, va_recv hK hP (ci := 4) (q0 := 2) rfl rfl, fun U hU hW => ⟨rfl, cR_of hK hP hU hW⟩⟩ rfl rfl hl.1 rfl (lv_room (Nat.le_of_ble_eq_true rfl)) dX4_canTake_22 ⟨(Nat.le_of_ble_eq_true rfl), (Nat.le_of_ble_eq_true rfl)⟩) (fun r er => ?_)
    subst er
    refine lv_if_eq (tgt := 32) hx hb dX4_canTake_25 (by decide) (fun c_25 => ?_) (fun c_25 => ?_)
    · have c_25 : (al (agF S u t) (c_ns S)) = false := bI_0 c_25
      refine lv_iconst (v := nI 0) hx hb dX4_canTake_32 (by decide) ?_
      rw [hQ]
      exact W.zret (v := nI 0) hx hb hr rfl (fun t9 ht9 hW9 => ⟨nI 0, rfl, (bI_eq0 (by rw [canT, c_25, Bool.and_false])), ht9⟩) (fun q h => absurd h List.not_mem_nil) dX4_canTake_33
    · have c_25 : (al (agF S u t) (c_ns S)) = true := bI_n c_25
      refine lv_iconst (v := nI 1) hx hb dX4_canTake_28 (by decide) ?_
      refine lv_goto (tgt := 33) hx hb dX4_canTake_29 (by decide) ?_
      rw [hQ]
      exact W.zret (v := nI 1) hx hb hr rfl (fun t9 ht9 hW9 => ⟨nI 1, rfl, (bI_eq1 (by rw [canT, cb_dlt_t c_15, c_25]; rfl)), ht9⟩) (fun q h => absurd h List.not_mem_nil) dX4_canTake_33
abbrev rm_X4_rankOf : Room := { frames := 1, cells := 0, slots := 0, locals := 21 }
set_option maxHeartbeats 4000000 in
set_option maxRecDepth 100000 in
theorem c_X4_rankOf (l : Launch) (dC : Nat → ClassId) (dI : Nat → Nat → Nat) (a : Nat → Nat) (k : Nat → ClassId) (S : cs_S) (t : Nat) (q : Nat → Bool) (ht : t < 10) (hI : Inv S) : Met l yX4_rankOf wsX4_rankOf rm_X4_rankOf (va_Pc [.ref (a 2), .int (nI t), .long (lN (bs q (c_ns S)))] (cR dC dI (cb_w a k S) (cb_ty k))) (vp_Si (fun r => r = nI (fb_ct (fun s => inT S t s && q s) (c_ns S) * 9 + cntT S t))) 0 0 (fun _ => False) := by
  refine Met.ofW (cc := cX4_rankOf) (maxL := 4) (ret := (some .int)) (by decide) rfl ?_
  intro p e s m args below meth c s₁ B hml hv
  obtain ⟨rfl, hP, hK⟩ := hv
  have hx := B.exec
  have hb := B.bytes
  have hr := B.returns
  have hts := atoms_spec (ws := wsX4_rankOf) B.pre
  have hown : s.vm.findClass RX4 = some m.cls := findClass_of_methodNamed B.named
  have hlocks := B.notSynchronized
  obtain ⟨Q, hQ⟩ : ∃ Q, Q = MQ below (vp_Si (fun r => r = nI (fb_ct (fun s => inT S t s && q s) (c_ns S) * 9 + cntT S t))) ([.ref (a 2), .int (nI t), .long (lN (bs q (c_ns S)))] : List Value).toArray s 0 0 (fun _ => False) := ⟨_, rfl⟩
  show W p l e rm_X4_rankOf s m _ below meth c s.heap [] 0 0 (MQ below _ _ _ _ _ _) _
  rw [← hQ]
  have i_X4 : ∀ w ∈ wsX40, w ∈ wsX4_rankOf := fun w h => List.mem_cons_of_mem _ (List.mem_append_right _ h)
  obtain ⟨⟨hday, hnp, hns, hnt, hnf, hnm, hnb, hme⟩, hpat, hage, hten, hcnt, hplc, heat, hned, hhld, hbad, hbad0, hbag⟩ := id hI
  have f_0 := hts (.fieldLink RX4 15 "CampBook$Tents" "sleepers" "[J") (by decide +kernel)
  have hl := lv_entry ([.ref (a 2), .int (nI t), .long (lN (bs q (c_ns S)))]) (n := 4) (Nat.le_of_ble_eq_true rfl)
  rw [lg_entry_eq]
  generalize (lg_sl ([.ref (a 2), .int (nI t), .long (lN (bs q (c_ns S)))]) ++ List.replicate (4 - (lg_sl ([.ref (a 2), .int (nI t), .long (lN (bs q (c_ns S)))])).length) Slot.unset).toArray = ls at hl ⊢
  have hl : lv_has ls 4 [(0, .ref (a 2)), (1, .int (nI t)), (2, .long (lN (bs q (c_ns S))))] := hl
  refine lv_aload_n hx hb dX4_rankOf_0 rfl (lv_at hl 0 rfl) ?_
  refine va_get (D := (dC, dI)) (ci := 4) (v := .ref (a 13)) (C := RX4) (T := TX4) (N := 3) hx hb hts i_X4 hown hK hP 2 rfl rfl 2 (by decide) f_0 (fun _ h9 => h9) rfl dX4_rankOf_1 ?_
  refine lv_iload_n hx hb dX4_rankOf_4 rfl (lv_at hl 1 rfl) ?_
  refine cb_lald hx hb hK hP 13 7 (f := c_sl S) rfl rfl (j := t) (by omega) (Nat.le_of_ble_eq_true rfl) dX4_rankOf_5 ?_
  refine cb_topl (z := lN (bs (inT S t) (c_ns S))) (c_sl_at (by omega)) ?_
  refine lv_lload_n hx hb dX4_rankOf_6 rfl (lv_at hl 2 rfl) ?_
  refine lv_land hx hb dX4_rankOf_7 ?_
  refine cb_topl (z := lN (bs (fun s => inT S t s && q s) (c_ns S))) (by rw [fb_andL, bs_and]) ?_
  refine vp_callSi (W.runS (As := [.long (lN (bs (fun s => inT S t s && q s) (c_ns S)))]) (rest := []) ⟨hx, hb, hml, hown, hts⟩ (c_J13_bitCount_95d88 l (bs (fun s => inT S t s && q s) (c_ns S)) (bs_lt32 (by omega))) (va_cwS 1 hts gX4_rankOf_J13_bitCount_95d88 rfl rfl rfl (by decide +kernel) ⟨(Nat.le_of_ble_eq_true rfl), (Nat.le_of_ble_eq_true rfl)⟩) ⟨cN_blind, fun U hU hW => ⟨rfl, trivial⟩⟩ rfl rfl hl.1 rfl (lv_room (Nat.le_of_ble_eq_true rfl)) dX4_rankOf_8 ⟨(Nat.le_of_ble_eq_true rfl), (Nat.le_of_ble_eq_true rfl)⟩) (fun r er => ?_)
  subst er
  refine cb_topi (z := nI (fb_ct (fun s => inT S t s && q s) (c_ns S))) (congrArg nI (popc_bs (by omega))) ?_
  refine lv_bipush (v := nI 9) hx hb dX4_rankOf_11 (by decide) ?_
  refine lv_imul hx hb dX4_rankOf_13 ?_
  refine cb_topi (pk_mul _ _) ?_
  refine lv_aload_n hx hb dX4_rankOf_14 rfl (lv_at hl 0 rfl) ?_
  refine va_get (D := (dC, dI)) (ci := 4) (v := .ref (a 13)) (C := RX4) (T := TX4) (N := 3) hx hb hts i_X4 hown hK hP 2 rfl rfl 2 (by decide) f_0 (fun _ h9 => h9) rfl dX4_rankOf_15 ?_
  refine lv_iload_n hx hb dX4_rankOf_18 rfl (lv_at hl 1 rfl) ?_
  refine cb_lald hx hb hK hP 13 7 (f := c_sl S) rfl rfl (j := t) (by omega) (Nat.le_of_ble_eq_true rfl) dX4_rankOf_19 ?_
  refine cb_topl (z := lN (bs (inT S t) (c_ns S))) (c_sl_at (by omega)) ?_
  refine vp_callSi (W.runS (As := [.long (lN (bs (inT S t) (c_ns S)))]) (rest := [.int (nI ((fb_ct (fun s => inT S t s && q s) (c_ns S)) * 9))]) ⟨hx, hb, hml, hown, hts⟩ (c_J13_bitCount_95d88 l (bs (inT S t) (c_ns S)) (bs_lt32 (by omega))) (va_cwS 1 hts gX4_rankOf_J13_bitCount_95d88 rfl rfl rfl (by decide +kernel) ⟨(Nat.le_of_ble_eq_true rfl), (Nat.le_of_ble_eq_true rfl)⟩) ⟨cN_blind, fun U hU hW => ⟨rfl, trivial⟩⟩ rfl rfl hl.1 rfl (lv_room (Nat.le_of_ble_eq_true rfl)) dX4_rankOf_20 ⟨(Nat.le_of_ble_eq_true rfl), (Nat.le_of_ble_eq_true rfl)⟩) (fun r er => ?_)
  subst er
  refine cb_topi (z := nI (cntT S t)) (congrArg nI (popc_bs (by omega))) ?_
  refine lv_iadd hx hb dX4_rankOf_23 ?_
  refine cb_topi (nI_add _ _) ?_
  rw [hQ]
  exact W.iret (v := nI (((fb_ct (fun s => inT S t s && q s) (c_ns S)) * 9) + (cntT S t))) hx hb hr (fun t9 ht9 hW9 => ⟨nI (((fb_ct (fun s => inT S t s && q s) (c_ns S)) * 9) + (cntT S t)), rfl, rfl, ht9⟩) (fun q h => absurd h List.not_mem_nil) dX4_rankOf_24
abbrev rm_X4_bestFor : Room := { frames := 3, cells := 0, slots := 0, locals := 69 }
set_option maxHeartbeats 4000000 in
set_option maxRecDepth 100000 in
theorem c_X4_bestFor (l : Launch) (dC : Nat → ClassId) (dI : Nat → Nat → Nat) (a : Nat → Nat) (k : Nat → ClassId) (S : cs_S) (u : Nat) (hu : u < c_ns S) (hI : Inv S) : Met l yX4_bestFor wsX4_bestFor rm_X4_bestFor (va_Pc [.ref (a 2), .int (nI u), .ref (a 1)] (cR dC dI (cb_w a k S) (cb_ty k))) (vp_Si (fun r => r = oI (bT S u (c_nt S)))) 0 0 (fun _ => False) := by
  refine Met.ofW (cc := cX4_bestFor) (maxL := 9) (ret := (some .int)) (by decide) rfl ?_
  intro p e s m args below meth c s₁ B hml hv
  obtain ⟨rfl, hP, hK⟩ := hv
  have hx := B.exec
  have hb := B.bytes
  have hr := B.returns
  have hts := atoms_spec (ws := wsX4_bestFor) B.pre
  have hown : s.vm.findClass RX4 = some m.cls := findClass_of_methodNamed B.named
  have hlocks := B.notSynchronized
  obtain ⟨Q, hQ⟩ : ∃ Q, Q = MQ below (vp_Si (fun r => r = oI (bT S u (c_nt S)))) ([.ref (a 2), .int (nI u), .ref (a 1)] : List Value).toArray s 0 0 (fun _ => False) := ⟨_, rfl⟩
  show W p l e rm_X4_bestFor s m _ below meth c s.heap [] 0 0 (MQ below _ _ _ _ _ _) _
  rw [← hQ]
  have i_X3 : ∀ w ∈ wsX30, w ∈ wsX4_bestFor := fun w h => List.mem_cons_of_mem _ (List.mem_append_left _ (List.mem_append_right _ h))
  have i_X4 : ∀ w ∈ wsX40, w ∈ wsX4_bestFor := fun w h => List.mem_cons_of_mem _ (List.mem_append_right _ h)
  obtain ⟨⟨hday, hnp, hns, hnt, hnf, hnm, hnb, hme⟩, hpat, hage, hten, hcnt, hplc, heat, hned, hhld, hbad, hbad0, hbag⟩ := id hI
  have f_0 := hts (.fieldLink RX4 49 "CampBook$People" "patrol" "[I") (by decide +kernel)
  have f_1 := hts (.fieldLink RX4 19 "CampBook$Tents" "size" "I") (by decide +kernel)
  have hl := lv_entry ([.ref (a 2), .int (nI u), .ref (a 1)]) (n := 9) (Nat.le_of_ble_eq_true rfl)
  rw [lg_entry_eq]
  generalize (lg_sl ([.ref (a 2), .int (nI u), .ref (a 1)]) ++ List.replicate (9 - (lg_sl ([.ref (a 2), .int (nI u), .ref (a 1)])).length) Slot.unset).toArray = ls at hl ⊢
  have hl : lv_has ls 9 [(0, .ref (a 2)), (1, .int (nI u)), (2, .ref (a 1))] := hl
  obtain ⟨pp, hpp, epat⟩ := hpat u hu
  refine lv_aload_n hx hb dX4_bestFor_0 rfl (lv_at hl 2 rfl) ?_
  refine lv_aload_n hx hb dX4_bestFor_1 rfl (lv_at hl 2 rfl) ?_
  refine va_get (D := (dC, dI)) (ci := 3) (v := .ref (a 6)) (C := RX3) (T := TX3) (N := 8) hx hb hts i_X3 hown hK hP 1 rfl rfl 2 (by decide) f_0 (fun _ h9 => h9) rfl dX4_bestFor_2 ?_
  refine lv_iload_n hx hb dX4_bestFor_5 rfl (lv_at hl 1 rfl) ?_
  refine cb_iald hx hb hK hP 6 0 (f := c_pat S) rfl rfl (j := u) (by omega) (Nat.le_of_ble_eq_true rfl) dX4_bestFor_6 ?_
  refine cb_topi (z := nI pp) epat ?_
  refine vp_callSl (W.runV (As := [.int (nI pp)]) (rest := []) ⟨hx, hb, hml, hown, hts⟩ (c_X3_membersOf l dC dI a k S pp (by omega)) (cwV 1 hts gX4_bestFor_X3_membersOf rfl rfl rfl (by decide +kernel) ⟨(Nat.le_of_ble_eq_true rfl), (Nat.le_of_ble_eq_true rfl)⟩) ⟨cR_blind, va_recv hK hP (ci := 3) (q0 := 1) rfl rfl, fun U hU hW => ⟨rfl, cR_of hK hP hU hW⟩⟩ rfl rfl hl.1 rfl (lv_room (Nat.le_of_ble_eq_true rfl)) dX4_bestFor_7 ⟨(Nat.le_of_ble_eq_true rfl), (Nat.le_of_ble_eq_true rfl)⟩) (fun r er => ?_)
  subst er
  refine lv_lstore_n (lv' := [(3, .long (lN (bs (inP S pp) (c_ns S)))), (0, .ref (a 2)), (1, .int (nI u)), (2, .ref (a 1))]) hx hb dX4_bestFor_10 rfl hl (by decide) rfl (fun ls hl => ?_)
  refine lv_iconst (v := (-1)) hx hb dX4_bestFor_11 (by decide) ?_
  refine lv_istore (lv' := [(5, .int (-1)), (3, .long (lN (bs (inP S pp) (c_ns S)))), (0, .ref (a 2)), (1, .int (nI u)), (2, .ref (a 1))]) hx hb dX4_bestFor_12 hl (by decide) rfl (fun ls hl => ?_)
  refine lv_iconst (v := (-1)) hx hb dX4_bestFor_14 (by decide) ?_
  refine lv_istore (lv' := [(6, .int (-1)), (5, .int (-1)), (3, .long (lN (bs (inP S pp) (c_ns S)))), (0, .ref (a 2)), (1, .int (nI u)), (2, .ref (a 1))]) hx hb dX4_bestFor_15 hl (by decide) rfl (fun ls hl => ?_)
  refine lv_iconst (v := nI 0) hx hb dX4_bestFor_17 (by decide) ?_
  refine lv_istore (lv' := [(7, .int (nI 0)), (6, .int (-1)), (5, .int (-1)), (3, .long (lN (bs (inP S pp) (c_ns S)))), (0, .ref (a 2)), (1, .int (nI u)), (2, .ref (a 1))]) hx hb dX4_bestFor_18 hl (by decide) rfl (fun ls hl => ?_)
  have L_20 : ∀ (n i : Nat), i ≤ c_nt S → c_nt S + 1 ≤ i + n → ∀ (ls : Array Slot), lv_has ls 9 [(0, .ref (a 2)), (1, .int (nI u)), (2, .ref (a 1)), (3, .long (lN (bs (inP S pp) (c_ns S)))), (5, .int (oI (bT S u i))), (6, .int (rkO S u (bT S u i))), (7, .int (nI i))] → W p l e rm_X4_bestFor s m ([.ref (a 2), .int (nI u), .ref (a 1)] : List Value).toArray below meth c s.heap [] 0 0 Q (F0 m 20 ls []) := by
    intro n
    induction n with
    | zero => intro i h1 h2; exact absurd h2 (by omega)
    | succ n ih_20 =>
      intro i hle_20 hfu_20 ls hl
      refine lv_iload hx hb dX4_bestFor_20 (lv_at hl 6 rfl) ?_
      refine lv_aload_n hx hb dX4_bestFor_22 rfl (lv_at hl 0 rfl) ?_
      refine va_get (D := (dC, dI)) (ci := 4) (v := .int (nI (c_nt S))) (C := RX4) (T := TX4) (N := 3) hx hb hts i_X4 hown hK hP 2 rfl rfl 0 (by decide) f_1 (fun _ h9 => h9) rfl dX4_bestFor_23 ?_
      refine lv_icmp_ge (tgt := 70) hx hb dX4_bestFor_26 (by decide) (fun c_26 => ?_) (fun c_26 => ?_)
      · have c_26 : (c_nt S) ≤ i := cb_ge (by omega) (by omega) c_26
        refine lv_iload hx hb dX4_bestFor_70 (lv_at hl 4 rfl) ?_
        rw [hQ]
        exact W.iret (v := oI (bT S u i)) hx hb hr (fun t9 ht9 hW9 => ⟨oI (bT S u i), rfl, (by rw [show i = c_nt S by omega]), ht9⟩) (fun q h => absurd h List.not_mem_nil) dX4_bestFor_72
      · have c_26 : i < (c_nt S) := cb_nge (by omega) (by omega) c_26
        refine lv_aload_n hx hb dX4_bestFor_29 rfl (lv_at hl 0 rfl) ?_
        refine lv_iload hx hb dX4_bestFor_30 (lv_at hl 6 rfl) ?_
        refine lv_lload_n hx hb dX4_bestFor_32 rfl (lv_at hl 3 rfl) ?_
        refine vp_callSi (W.runV (As := [.int (nI i), .long (lN (bs (inP S pp) (c_ns S)))]) (rest := []) ⟨hx, hb, hml, hown, hts⟩ (c_X4_rankOf l dC dI a k S i (inP S pp) (by omega) hI) (cwV 2 hts gX4_bestFor_X4_rankOf rfl rfl rfl (by decide +kernel) ⟨(Nat.le_of_ble_eq_true rfl), (Nat.le_of_ble_eq_true rfl)⟩) ⟨cR_blind, va_recv hK hP (ci := 4) (q0 := 2) rfl rfl, fun U hU hW => ⟨rfl, cR_of hK hP hU hW⟩⟩ rfl rfl hl.1 rfl (lv_room (Nat.le_of_ble_eq_true rfl)) dX4_bestFor_33 ⟨(Nat.le_of_ble_eq_true rfl), (Nat.le_of_ble_eq_true rfl)⟩) (fun r er => ?_)
        subst er
        refine cb_topi (z := nI (rank S u i)) (congrArg nI (by simp only [rank, matesU, inP, epat])) ?_
        refine lv_istore (lv' := [(8, .int (nI (rank S u i))), (0, .ref (a 2)), (1, .int (nI u)), (2, .ref (a 1)), (3, .long (lN (bs (inP S pp) (c_ns S)))), (5, .int (oI (bT S u i))), (6, .int (rkO S u (bT S u i))), (7, .int (nI i))]) hx hb dX4_bestFor_36 hl (by decide) rfl (fun ls hl => ?_)
        refine lv_iload hx hb dX4_bestFor_38 (lv_at hl 0 rfl) ?_
        refine lv_iload hx hb dX4_bestFor_40 (lv_at hl 6 rfl) ?_
        refine lv_icmp_le (tgt := 64) hx hb dX4_bestFor_42 (by decide) (fun c_42 => ?_) (fun c_42 => ?_)
        · skip
          refine lv_iinc (v := nI (i + 1)) (lv' := [(7, .int (nI (i + 1))), (8, .int (nI (rank S u i))), (0, .ref (a 2)), (1, .int (nI u)), (2, .ref (a 1)), (3, .long (lN (bs (inP S pp) (c_ns S)))), (5, .int (oI (bT S u i))), (6, .int (rkO S u (bT S u i)))]) hx hb dX4_bestFor_64 hl (k := 7) rfl (nI_1 _) (by decide) rfl (fun ls hl => ?_)
          refine lv_goto (tgt := 20) hx hb dX4_bestFor_67 (by decide) ?_
          have hl : lv_has ls 9 [(7, .int (nI (i + 1))), (8, .int (nI (rank S u i))), (0, .ref (a 2)), (1, .int (nI u)), (2, .ref (a 1)), (3, .long (lN (bs (inP S pp) (c_ns S)))), (5, .int (oI (bT S u (i + 1)))), (6, .int (rkO S u (bT S u i)))] := cb_loc hl (e := Value.int (oI (bT S u (i + 1)))) 6 rfl (congrArg Value.int (show oI (bT S u i) = oI (bT S u (i + 1)) from (by rw [bT, if_neg (fun q => q.1 c_42)]; first | done | rfl)))
          have hl : lv_has ls 9 [(7, .int (nI (i + 1))), (8, .int (nI (rank S u i))), (0, .ref (a 2)), (1, .int (nI u)), (2, .ref (a 1)), (3, .long (lN (bs (inP S pp) (c_ns S)))), (5, .int (oI (bT S u (i + 1)))), (6, .int (rkO S u (bT S u (i + 1))))] := cb_loc hl (e := Value.int (rkO S u (bT S u (i + 1)))) 7 rfl (congrArg Value.int (show rkO S u (bT S u i) = rkO S u (bT S u (i + 1)) from (by rw [bT, if_neg (fun q => q.1 c_42)]; first | done | rfl)))
          exact ih_20 (i + 1) (by omega) (by omega) ls (lv_sub hl [2, 3, 4, 5, 6, 7, 0] rfl)
        · skip
          refine lv_aload_n hx hb dX4_bestFor_45 rfl (lv_at hl 1 rfl) ?_
          refine lv_iload hx hb dX4_bestFor_46 (lv_at hl 7 rfl) ?_
          refine lv_iload_n hx hb dX4_bestFor_48 rfl (lv_at hl 2 rfl) ?_
          refine lv_aload_n hx hb dX4_bestFor_49 rfl (lv_at hl 3 rfl) ?_
          refine vp_callSi (W.runV (As := [.int (nI i), .int (nI u), .ref (a 1)]) (rest := []) ⟨hx, hb, hml, hown, hts⟩ (c_X4_canTake l dC dI a k S i u (by omega) (by omega) hI) (cwV 3 hts gX4_bestFor_X4_canTake rfl rfl rfl (by decide +kernel) ⟨(Nat.le_of_ble_eq_true rfl), (Nat.le_of_ble_eq_true rfl)⟩) ⟨cR_blind, va_recv hK hP (ci := 4) (q0 := 2) rfl rfl, fun U hU hW => ⟨rfl, cR_of hK hP hU hW⟩⟩ rfl rfl hl.1 rfl (lv_room (Nat.le_of_ble_eq_true rfl)) dX4_bestFor_50 ⟨(Nat.le_of_ble_eq_true rfl), (Nat.le_of_ble_eq_true rfl)⟩) (fun r er => ?_)
          subst er
          refine lv_if_eq (tgt := 64) hx hb dX4_bestFor_53 (by decide) (fun c_53 => ?_) (fun c_53 => ?_)
          · have c_53 : (canT S u i) = false := bI_0 c_53
            refine lv_iinc (v := nI (i + 1)) (lv' := [(7, .int (nI (i + 1))), (8, .int (nI (rank S u i))), (0, .ref (a 2)), (1, .int (nI u)), (2, .ref (a 1)), (3, .long (lN (bs (inP S pp) (c_ns S)))), (5, .int (oI (bT S u i))), (6, .int (rkO S u (bT S u i)))]) hx hb dX4_bestFor_64 hl (k := 7) rfl (nI_1 _) (by decide) rfl (fun ls hl => ?_)
            refine lv_goto (tgt := 20) hx hb dX4_bestFor_67 (by decide) ?_
            have hl : lv_has ls 9 [(7, .int (nI (i + 1))), (8, .int (nI (rank S u i))), (0, .ref (a 2)), (1, .int (nI u)), (2, .ref (a 1)), (3, .long (lN (bs (inP S pp) (c_ns S)))), (5, .int (oI (bT S u (i + 1)))), (6, .int (rkO S u (bT S u i)))] := cb_loc hl (e := Value.int (oI (bT S u (i + 1)))) 6 rfl (congrArg Value.int (show oI (bT S u i) = oI (bT S u (i + 1)) from (by rw [bT, if_neg (fun q => by rw [c_53] at q; exact absurd q.2 (by decide))]; first | done | rfl)))
            have hl : lv_has ls 9 [(7, .int (nI (i + 1))), (8, .int (nI (rank S u i))), (0, .ref (a 2)), (1, .int (nI u)), (2, .ref (a 1)), (3, .long (lN (bs (inP S pp) (c_ns S)))), (5, .int (oI (bT S u (i + 1)))), (6, .int (rkO S u (bT S u (i + 1))))] := cb_loc hl (e := Value.int (rkO S u (bT S u (i + 1)))) 7 rfl (congrArg Value.int (show rkO S u (bT S u i) = rkO S u (bT S u (i + 1)) from (by rw [bT, if_neg (fun q => by rw [c_53] at q; exact absurd q.2 (by decide))]; first | done | rfl)))
            exact ih_20 (i + 1) (by omega) (by omega) ls (lv_sub hl [2, 3, 4, 5, 6, 7, 0] rfl)
          · have c_53 : (canT S u i) = true := bI_n c_53
            refine lv_iload hx hb dX4_bestFor_56 (lv_at hl 7 rfl) ?_
            refine lv_istore (lv' := [(5, .int (nI i)), (8, .int (nI (rank S u i))), (0, .ref (a 2)), (1, .int (nI u)), (2, .ref (a 1)), (3, .long (lN (bs (inP S pp) (c_ns S)))), (6, .int (rkO S u (bT S u i))), (7, .int (nI i))]) hx hb dX4_bestFor_58 hl (by decide) rfl (fun ls hl => ?_)
            refine lv_iload hx hb dX4_bestFor_60 (lv_at hl 1 rfl) ?_
            refine lv_istore (lv' := [(6, .int (nI (rank S u i))), (5, .int (nI i)), (8, .int (nI (rank S u i))), (0, .ref (a 2)), (1, .int (nI u)), (2, .ref (a 1)), (3, .long (lN (bs (inP S pp) (c_ns S)))), (7, .int (nI i))]) hx hb dX4_bestFor_62 hl (by decide) rfl (fun ls hl => ?_)
            refine lv_iinc (v := nI (i + 1)) (lv' := [(7, .int (nI (i + 1))), (6, .int (nI (rank S u i))), (5, .int (nI i)), (8, .int (nI (rank S u i))), (0, .ref (a 2)), (1, .int (nI u)), (2, .ref (a 1)), (3, .long (lN (bs (inP S pp) (c_ns S))))]) hx hb dX4_bestFor_64 hl (k := 7) rfl (nI_1 _) (by decide) rfl (fun ls hl => ?_)
            refine lv_goto (tgt := 20) hx hb dX4_bestFor_67 (by decide) ?_
            have hl : lv_has ls 9 [(7, .int (nI (i + 1))), (6, .int (nI (rank S u i))), (5, .int (oI (bT S u (i + 1)))), (8, .int (nI (rank S u i))), (0, .ref (a 2)), (1, .int (nI u)), (2, .ref (a 1)), (3, .long (lN (bs (inP S pp) (c_ns S))))] := cb_loc hl (e := Value.int (oI (bT S u (i + 1)))) 2 rfl (congrArg Value.int (show nI i = oI (bT S u (i + 1)) from (by rw [bT, if_pos ⟨c_42, c_53⟩]; first | done | rfl)))
            have hl : lv_has ls 9 [(7, .int (nI (i + 1))), (6, .int (rkO S u (bT S u (i + 1)))), (5, .int (oI (bT S u (i + 1)))), (8, .int (nI (rank S u i))), (0, .ref (a 2)), (1, .int (nI u)), (2, .ref (a 1)), (3, .long (lN (bs (inP S pp) (c_ns S))))] := cb_loc hl (e := Value.int (rkO S u (bT S u (i + 1)))) 1 rfl (congrArg Value.int (show nI (rank S u i) = rkO S u (bT S u (i + 1)) from (by rw [bT, if_pos ⟨c_42, c_53⟩]; first | done | rfl)))
            exact ih_20 (i + 1) (by omega) (by omega) ls (lv_sub hl [4, 5, 6, 7, 2, 1, 0] rfl)
  have hl : lv_has ls 9 [(7, .int (nI 0)), (6, .int (-1)), (5, .int (oI (bT S u 0))), (3, .long (lN (bs (inP S pp) (c_ns S)))), (0, .ref (a 2)), (1, .int (nI u)), (2, .ref (a 1))] := cb_loc hl (e := Value.int (oI (bT S u 0))) 2 rfl (congrArg Value.int (show (-1) = oI (bT S u 0) from rfl))
  have hl : lv_has ls 9 [(7, .int (nI 0)), (6, .int (rkO S u (bT S u 0))), (5, .int (oI (bT S u 0))), (3, .long (lN (bs (inP S pp) (c_ns S)))), (0, .ref (a 2)), (1, .int (nI u)), (2, .ref (a 1))] := cb_loc hl (e := Value.int (rkO S u (bT S u 0))) 1 rfl (congrArg Value.int (show (-1) = rkO S u (bT S u 0) from rfl))
  exact L_20 (c_nt S + 1) 0 (by omega) (by omega) ls (lv_sub hl [4, 5, 6, 3, 2, 1, 0] rfl)
end CBM
