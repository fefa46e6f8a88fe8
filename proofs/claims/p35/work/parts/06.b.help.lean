section CBM
abbrev rm_X5_checkNumber : Room := { frames := 6, cells := 1, slots := 6, locals := 90 }
set_option maxHeartbeats 4000000 in
set_option maxRecDepth 100000 in
theorem c_X5_checkNumber (l : Launch) (hl9 : l.stackTraces = false) (dC : Nat → ClassId) (dI : Nat → Nat → Nat) (a : Nat → Nat) (k : Nat → ClassId) (S : cs_S) (sz : Nat) (x0 : Int32) (z : Nat) (hz : z < 2 ^ 31) : vx_Met l yX5_checkNumber wsX5_checkNumber rm_X5_checkNumber (va_Pc [.int x0, .int (nI z)] (cU dC dI sz ([] : va_W) ([] : List (ClassId × FieldType)))) (va_Qv (fun (_ : Unit) => ix x0 z = true) (fun _ t => cB dC dI (va_A ([] : va_W) sz) ([] : va_W) ([] : List (ClassId × FieldType)) t) (va_A ([] : va_W) sz)) (cX dC dI ([] : va_W) ([] : List (ClassId × FieldType)) (va_A ([] : va_W) sz) (fun E => E = xE_I ∧ ix x0 z = false)) 1 6 (va_A ([] : va_W) sz) := by
  refine vx_ofW (cc := cX5_checkNumber) (maxL := 2) (ret := none) (by decide) rfl ?_
  intro p e s m args below meth c s₁ B hml htab hv
  obtain ⟨rfl, ⟨hsz, hP, hK, hD0⟩, hE⟩ := hv
  have hx := B.exec
  have hb := B.bytes
  have hr := B.returns
  have hts := atoms_spec (ws := wsX5_checkNumber) B.pre
  have hown : s.vm.findClass RX5 = some m.cls := findClass_of_methodNamed B.named
  have hlocks := B.notSynchronized
  subst hsz
  have hD := hD0.self (sz := s.heap.size)
  generalize hAe : va_A ([] : va_W) s.heap.size = A at hD hE ⊢
  have hA : ∀ q : Nat, s.heap.size ≤ q → A q := fun q h => by rw [← hAe]; exact Or.inr h
  have hS : va_S A s.heap s.heap [] := va_S.rf
  obtain ⟨Q, hQ⟩ : ∃ Q, Q = vx_MQ below (va_Qv (fun (_ : Unit) => ix x0 z = true) (fun _ t => cB dC dI A ([] : va_W) ([] : List (ClassId × FieldType)) t) A) (cX dC dI ([] : va_W) ([] : List (ClassId × FieldType)) A (fun E => E = xE_I ∧ ix x0 z = false)) ([.int x0, .int (nI z)] : List Value).toArray s 1 6 A := ⟨_, rfl⟩
  show W p l e rm_X5_checkNumber s m _ below meth c s.heap [] 0 0 (vx_MQ below _ _ _ _ _ _ _) _
  rw [← hQ]
  have f_0 := hts (.classLink RX5 273 "java/lang/IndexOutOfBoundsException") (by decide +kernel)
  have f_1 := hts (.initialized "java/lang/IndexOutOfBoundsException") (by decide +kernel)
  have hl := lv_entry ([.int x0, .int (nI z)]) (n := 2) (Nat.le_of_ble_eq_true rfl)
  rw [lg_entry_eq]
  generalize (lg_sl ([.int x0, .int (nI z)]) ++ List.replicate (2 - (lg_sl ([.int x0, .int (nI z)])).length) Slot.unset).toArray = ls at hl ⊢
  have hl : lv_has ls 2 [(0, .int x0), (1, .int (nI z))] := hl
  refine lv_iload_n hx hb dX5_checkNumber_0 rfl (lv_at hl 0 rfl) ?_
  refine lv_if_lt (tgt := 9) hx hb dX5_checkNumber_1 (by decide) (fun c_1 => ?_) (fun c_1 => ?_)
  · skip
    obtain ⟨sa, hstr⟩ := hE.2.2.2.1 (275, "there is no such number") (by decide +kernel)
    have hpx : "java/lang/IndexOutOfBoundsException" = xE_I ∧ ix x0 z = false := ⟨rfl, ix_no1 c_1⟩
    rw [hQ]
    exact vx_throwSW (own := RX5) (cls := "java/lang/IndexOutOfBoundsException") (names := ["java/lang/RuntimeException", "java/lang/Exception"]) (ik := 273) (is := 275) (ic := 277) hx hb hl9 hown (by decide) (by decide) f_0 f_1 hstr (cb_atI (fun w h => hts w (List.mem_cons_of_mem _ (List.mem_append_right _ h))) hE.2.2.1) cb_gdI hE.1 hE.2.1 hS (hl.1.trans hml.symm) dX5_checkNumber_9 dX5_checkNumber_12 dX5_checkNumber_13 dX5_checkNumber_16 dX5_checkNumber_19 (fun x hx => (htab x hx).elim) (Nat.le_of_ble_eq_true rfl) (Nat.le_of_ble_eq_true rfl) (by decide) (by decide) hlocks (fun t ha hz hk => cX_of hP hK hD hS ha hz hk hpx) hS.2.2 (by decide) (by decide)
  · skip
    refine lv_iload_n hx hb dX5_checkNumber_4 rfl (lv_at hl 0 rfl) ?_
    refine lv_iload_n hx hb dX5_checkNumber_5 rfl (lv_at hl 1 rfl) ?_
    refine lv_icmp_lt (tgt := 20) hx hb dX5_checkNumber_6 (by decide) (fun c_6 => ?_) (fun c_6 => ?_)
    · skip
      rw [hQ]
      refine vx_ret ?_
      refine W.widen (k := 1) (n := 6) (by omega) (by omega) ?_
      exact W.vret hx hb hr (fun t9 ht9 hW9 => ⟨⟨(), rfl, (ix_ok hz c_1 c_6), cB_of hP hK hD ht9 hW9⟩, hS.F ht9⟩) hS.2.2 dX5_checkNumber_20
    · skip
      obtain ⟨sa, hstr⟩ := hE.2.2.2.1 (275, "there is no such number") (by decide +kernel)
      have hpx : "java/lang/IndexOutOfBoundsException" = xE_I ∧ ix x0 z = false := ⟨rfl, ix_no2 hz c_6⟩
      rw [hQ]
      exact vx_throwSW (own := RX5) (cls := "java/lang/IndexOutOfBoundsException") (names := ["java/lang/RuntimeException", "java/lang/Exception"]) (ik := 273) (is := 275) (ic := 277) hx hb hl9 hown (by decide) (by decide) f_0 f_1 hstr (cb_atI (fun w h => hts w (List.mem_cons_of_mem _ (List.mem_append_right _ h))) hE.2.2.1) cb_gdI hE.1 hE.2.1 hS (hl.1.trans hml.symm) dX5_checkNumber_9 dX5_checkNumber_12 dX5_checkNumber_13 dX5_checkNumber_16 dX5_checkNumber_19 (fun x hx => (htab x hx).elim) (Nat.le_of_ble_eq_true rfl) (Nat.le_of_ble_eq_true rfl) (by decide) (by decide) hlocks (fun t ha hz hk => cX_of hP hK hD hS ha hz hk hpx) hS.2.2 (by decide) (by decide)
abbrev rm_X5_checkNumberOrNone : Room := { frames := 7, cells := 1, slots := 6, locals := 111 }
set_option maxHeartbeats 4000000 in
set_option maxRecDepth 100000 in
theorem c_X5_checkNumberOrNone (l : Launch) (hl9 : l.stackTraces = false) (dC : Nat → ClassId) (dI : Nat → Nat → Nat) (a : Nat → Nat) (k : Nat → ClassId) (S : cs_S) (sz : Nat) (x0 : Int32) (z : Nat) (hz : z < 2 ^ 31) : vx_Met l yX5_checkNumberOrNone wsX5_checkNumberOrNone rm_X5_checkNumberOrNone (va_Pc [.int x0, .int (nI z)] (cU dC dI sz ([] : va_W) ([] : List (ClassId × FieldType)))) (va_Qv (fun (_ : Unit) => (x0 = -1 ∨ ix x0 z = true)) (fun _ t => cB dC dI (va_A ([] : va_W) sz) ([] : va_W) ([] : List (ClassId × FieldType)) t) (va_A ([] : va_W) sz)) (cX dC dI ([] : va_W) ([] : List (ClassId × FieldType)) (va_A ([] : va_W) sz) (fun E => E = xE_I ∧ x0 ≠ -1 ∧ ix x0 z = false)) 1 6 (va_A ([] : va_W) sz) := by
  refine vx_ofW (cc := cX5_checkNumberOrNone) (maxL := 2) (ret := none) (by decide) rfl ?_
  intro p e s m args below meth c s₁ B hml htab hv
  obtain ⟨rfl, ⟨hsz, hP, hK, hD0⟩, hE⟩ := hv
  have hx := B.exec
  have hb := B.bytes
  have hr := B.returns
  have hts := atoms_spec (ws := wsX5_checkNumberOrNone) B.pre
  have hown : s.vm.findClass RX5 = some m.cls := findClass_of_methodNamed B.named
  have hlocks := B.notSynchronized
  subst hsz
  have hD := hD0.self (sz := s.heap.size)
  generalize hAe : va_A ([] : va_W) s.heap.size = A at hD hE ⊢
  have hA : ∀ q : Nat, s.heap.size ≤ q → A q := fun q h => by rw [← hAe]; exact Or.inr h
  have hS : va_S A s.heap s.heap [] := va_S.rf
  obtain ⟨Q, hQ⟩ : ∃ Q, Q = vx_MQ below (va_Qv (fun (_ : Unit) => (x0 = -1 ∨ ix x0 z = true)) (fun _ t => cB dC dI A ([] : va_W) ([] : List (ClassId × FieldType)) t) A) (cX dC dI ([] : va_W) ([] : List (ClassId × FieldType)) A (fun E => E = xE_I ∧ x0 ≠ -1 ∧ ix x0 z = false)) ([.int x0, .int (nI z)] : List Value).toArray s 1 6 A := ⟨_, rfl⟩
  show W p l e rm_X5_checkNumberOrNone s m _ below meth c s.heap [] 0 0 (vx_MQ below _ _ _ _ _ _ _) _
  rw [← hQ]
  have hl := lv_entry ([.int x0, .int (nI z)]) (n := 2) (Nat.le_of_ble_eq_true rfl)
  rw [lg_entry_eq]
  generalize (lg_sl ([.int x0, .int (nI z)]) ++ List.replicate (2 - (lg_sl ([.int x0, .int (nI z)])).length) Slot.unset).toArray = ls at hl ⊢
  have hl : lv_has ls 2 [(0, .int x0), (1, .int (nI z))] := hl
  refine lv_iload_n hx hb dX5_checkNumberOrNone_0 rfl (lv_at hl 0 rfl) ?_
  refine lv_iconst (v := (-1)) hx hb dX5_checkNumberOrNone_1 (by decide) ?_
  refine lv_icmp_eq (tgt := 10) hx hb dX5_checkNumberOrNone_2 (by decide) (fun c_2 => ?_) (fun c_2 => ?_)
  · skip
    rw [hQ]
    refine vx_ret ?_
    refine W.widen (k := 1) (n := 6) (by omega) (by omega) ?_
    exact W.vret hx hb hr (fun t9 ht9 hW9 => ⟨⟨(), rfl, (Or.inl c_2), cB_of hP hK hD ht9 hW9⟩, hS.F ht9⟩) hS.2.2 dX5_checkNumberOrNone_10
  · skip
    refine lv_iload_n hx hb dX5_checkNumberOrNone_5 rfl (lv_at hl 0 rfl) ?_
    refine lv_iload_n hx hb dX5_checkNumberOrNone_6 rfl (lv_at hl 1 rfl) ?_
    have hF_7 : ∀ q, va_A ([] : va_W) s.heap.size q → A q := fun q h => hA q (Nat.le_trans hS.1 (va_A_nil h))
    refine vx_callv (vx_runS (As := [.int x0, .int (nI z)]) (rest := []) ⟨hx, hb, hml, hown, hts⟩ (c_X5_checkNumber l hl9 dC dI a k S s.heap.size x0 z (by omega)) (va_cwS 2 hts gX5_checkNumberOrNone_X5_checkNumber rfl rfl rfl (by decide +kernel) ⟨(Nat.le_of_ble_eq_true rfl), (Nat.le_of_ble_eq_true rfl)⟩) ⟨cU_blind, fun U hU hW => ⟨rfl, cU_of hK hP hD hE hS hU hW hF_7⟩⟩ rfl rfl hl.1 rfl (lv_room (Nat.le_of_ble_eq_true rfl)) dX5_checkNumberOrNone_7 ⟨(by show 0 + 1 ≤ 1; omega), (by show 0 + 6 ≤ 6; omega)⟩) hS (fun q _ h => hF_7 q h) hF_7 (fun q _ h => hF_7 q h) (fun E ce q9 u8 t8 H_7 L_7_ ht hvm _ hB hz1 hk1 hS hce hcv hcl => ?_) (fun u8 t8 H_7 L_7_ ht hvm hw hB hz1 hk1 hS => ?_)
    · obtain ⟨hpx9, hB9⟩ := hB
      have hP := cW_keep hP hk1
      rw [hQ]
      exact vx_out (fun x hx => (htab x hx).elim) hlocks hce hcv hcl (fun t9 h9 ha9 => cX_out hP hK hD hS h9 ha9 (⟨hpx9.1, c_2, hpx9.2⟩)) hS.2.2 (by omega) (by omega)
    · skip
      have hP := cW_keep hP hk1
      have hw_7 := hw
      rw [hQ]
      refine vx_ret ?_
      refine W.widen (k := 1) (n := 6) (by omega) (by omega) ?_
      exact W.vret hx hb hr (fun t9 ht9 hW9 => ⟨⟨(), rfl, (Or.inr hw_7), cB_of hP hK hD ht9 hW9⟩, hS.F ht9⟩) hS.2.2 dX5_checkNumberOrNone_10
abbrev rm_X5_checkArgument : Room := { frames := 6, cells := 1, slots := 6, locals := 90 }
set_option maxHeartbeats 4000000 in
set_option maxRecDepth 100000 in
theorem c_X5_checkArgument (l : Launch) (hl9 : l.stackTraces = false) (dC : Nat → ClassId) (dI : Nat → Nat → Nat) (a : Nat → Nat) (k : Nat → ClassId) (S : cs_S) (sz : Nat) (x0 : Int32) (x1 : Int32) (x2 : Int32) : vx_Met l yX5_checkArgument wsX5_checkArgument rm_X5_checkArgument (va_Pc [.int x0, .int x1, .int x2] (cU dC dI sz ([] : va_W) ([] : List (ClassId × FieldType)))) (va_Qv (fun (_ : Unit) => inR x0 x1 x2 = true) (fun _ t => cB dC dI (va_A ([] : va_W) sz) ([] : va_W) ([] : List (ClassId × FieldType)) t) (va_A ([] : va_W) sz)) (cX dC dI ([] : va_W) ([] : List (ClassId × FieldType)) (va_A ([] : va_W) sz) (fun E => E = xE_A ∧ inR x0 x1 x2 = false)) 1 6 (va_A ([] : va_W) sz) := by
  refine vx_ofW (cc := cX5_checkArgument) (maxL := 3) (ret := none) (by decide) rfl ?_
  intro p e s m args below meth c s₁ B hml htab hv
  obtain ⟨rfl, ⟨hsz, hP, hK, hD0⟩, hE⟩ := hv
  have hx := B.exec
  have hb := B.bytes
  have hr := B.returns
  have hts := atoms_spec (ws := wsX5_checkArgument) B.pre
  have hown : s.vm.findClass RX5 = some m.cls := findClass_of_methodNamed B.named
  have hlocks := B.notSynchronized
  subst hsz
  have hD := hD0.self (sz := s.heap.size)
  generalize hAe : va_A ([] : va_W) s.heap.size = A at hD hE ⊢
  have hA : ∀ q : Nat, s.heap.size ≤ q → A q := fun q h => by rw [← hAe]; exact Or.inr h
  have hS : va_S A s.heap s.heap [] := va_S.rf
  obtain ⟨Q, hQ⟩ : ∃ Q, Q = vx_MQ below (va_Qv (fun (_ : Unit) => inR x0 x1 x2 = true) (fun _ t => cB dC dI A ([] : va_W) ([] : List (ClassId × FieldType)) t) A) (cX dC dI ([] : va_W) ([] : List (ClassId × FieldType)) A (fun E => E = xE_A ∧ inR x0 x1 x2 = false)) ([.int x0, .int x1, .int x2] : List Value).toArray s 1 6 A := ⟨_, rfl⟩
  show W p l e rm_X5_checkArgument s m _ below meth c s.heap [] 0 0 (vx_MQ below _ _ _ _ _ _ _) _
  rw [← hQ]
  have f_0 := hts (.classLink RX5 238 "java/lang/IllegalArgumentException") (by decide +kernel)
  have f_1 := hts (.initialized "java/lang/IllegalArgumentException") (by decide +kernel)
  have hl := lv_entry ([.int x0, .int x1, .int x2]) (n := 3) (Nat.le_of_ble_eq_true rfl)
  rw [lg_entry_eq]
  generalize (lg_sl ([.int x0, .int x1, .int x2]) ++ List.replicate (3 - (lg_sl ([.int x0, .int x1, .int x2])).length) Slot.unset).toArray = ls at hl ⊢
  have hl : lv_has ls 3 [(0, .int x0), (1, .int x1), (2, .int x2)] := hl
  refine lv_iload_n hx hb dX5_checkArgument_0 rfl (lv_at hl 0 rfl) ?_
  refine lv_iload_n hx hb dX5_checkArgument_1 rfl (lv_at hl 1 rfl) ?_
  refine lv_icmp_lt (tgt := 10) hx hb dX5_checkArgument_2 (by decide) (fun c_2 => ?_) (fun c_2 => ?_)
  · skip
    obtain ⟨sa, hstr⟩ := hE.2.2.2.1 (278, "the argument is outside its range") (by decide +kernel)
    have hpx : "java/lang/IllegalArgumentException" = xE_A ∧ inR x0 x1 x2 = false := ⟨rfl, inR_no1 c_2⟩
    rw [hQ]
    exact vx_throwSW (own := RX5) (cls := "java/lang/IllegalArgumentException") (names := ["java/lang/RuntimeException", "java/lang/Exception"]) (ik := 238) (is := 278) (ic := 242) hx hb hl9 hown (by decide) (by decide) f_0 f_1 hstr (cb_atA (fun w h => hts w (List.mem_cons_of_mem _ (List.mem_append_right _ h))) hE.2.2.1) cb_gdA hE.1 hE.2.1 hS (hl.1.trans hml.symm) dX5_checkArgument_10 dX5_checkArgument_13 dX5_checkArgument_14 dX5_checkArgument_17 dX5_checkArgument_20 (fun x hx => (htab x hx).elim) (Nat.le_of_ble_eq_true rfl) (Nat.le_of_ble_eq_true rfl) (by decide) (by decide) hlocks (fun t ha hz hk => cX_of hP hK hD hS ha hz hk hpx) hS.2.2 (by decide) (by decide)
  · skip
    refine lv_iload_n hx hb dX5_checkArgument_5 rfl (lv_at hl 0 rfl) ?_
    refine lv_iload_n hx hb dX5_checkArgument_6 rfl (lv_at hl 2 rfl) ?_
    refine lv_icmp_le (tgt := 21) hx hb dX5_checkArgument_7 (by decide) (fun c_7 => ?_) (fun c_7 => ?_)
    · skip
      rw [hQ]
      refine vx_ret ?_
      refine W.widen (k := 1) (n := 6) (by omega) (by omega) ?_
      exact W.vret hx hb hr (fun t9 ht9 hW9 => ⟨⟨(), rfl, (inR_ok c_2 c_7), cB_of hP hK hD ht9 hW9⟩, hS.F ht9⟩) hS.2.2 dX5_checkArgument_21
    · skip
      obtain ⟨sa, hstr⟩ := hE.2.2.2.1 (278, "the argument is outside its range") (by decide +kernel)
      have hpx : "java/lang/IllegalArgumentException" = xE_A ∧ inR x0 x1 x2 = false := ⟨rfl, inR_no2 c_7⟩
      rw [hQ]
      exact vx_throwSW (own := RX5) (cls := "java/lang/IllegalArgumentException") (names := ["java/lang/RuntimeException", "java/lang/Exception"]) (ik := 238) (is := 278) (ic := 242) hx hb hl9 hown (by decide) (by decide) f_0 f_1 hstr (cb_atA (fun w h => hts w (List.mem_cons_of_mem _ (List.mem_append_right _ h))) hE.2.2.1) cb_gdA hE.1 hE.2.1 hS (hl.1.trans hml.symm) dX5_checkArgument_10 dX5_checkArgument_13 dX5_checkArgument_14 dX5_checkArgument_17 dX5_checkArgument_20 (fun x hx => (htab x hx).elim) (Nat.le_of_ble_eq_true rfl) (Nat.le_of_ble_eq_true rfl) (by decide) (by decide) hlocks (fun t ha hz hk => cX_of hP hK hD hS ha hz hk hpx) hS.2.2 (by decide) (by decide)
abbrev rm_X5_scoutsWithoutTent : Room := { frames := 2, cells := 0, slots := 0, locals := 43 }
set_option maxHeartbeats 4000000 in
set_option maxRecDepth 100000 in
theorem c_X5_scoutsWithoutTent (l : Launch) (dC : Nat → ClassId) (dI : Nat → Nat → Nat) (a : Nat → Nat) (k : Nat → ClassId) (S : cs_S) (hI : Inv S) : Met l yX5_scoutsWithoutTent wsX5_scoutsWithoutTent rm_X5_scoutsWithoutTent (va_Pc [.ref (a 0)] (cR dC dI (cb_w a k S) (cb_ty k))) (vp_Si (fun r => r = nI (c_out S))) 0 0 (fun _ => False) := by
  refine Met.ofW (cc := cX5_scoutsWithoutTent) (maxL := 1) (ret := (some .int)) (by decide) rfl ?_
  intro p e s m args below meth c s₁ B hml hv
  obtain ⟨rfl, hP, hK⟩ := hv
  have hx := B.exec
  have hb := B.bytes
  have hr := B.returns
  have hts := atoms_spec (ws := wsX5_scoutsWithoutTent) B.pre
  have hown : s.vm.findClass RX5 = some m.cls := findClass_of_methodNamed B.named
  have hlocks := B.notSynchronized
  obtain ⟨Q, hQ⟩ : ∃ Q, Q = MQ below (vp_Si (fun r => r = nI (c_out S))) ([.ref (a 0)] : List Value).toArray s 0 0 (fun _ => False) := ⟨_, rfl⟩
  show W p l e rm_X5_scoutsWithoutTent s m _ below meth c s.heap [] 0 0 (MQ below _ _ _ _ _ _) _
  rw [← hQ]
  have i_X3 : ∀ w ∈ wsX30, w ∈ wsX5_scoutsWithoutTent := fun w h => List.mem_cons_of_mem _ (List.mem_append_left _ (List.mem_append_right _ h))
  have i_X5 : ∀ w ∈ wsX50, w ∈ wsX5_scoutsWithoutTent := fun w h => List.mem_cons_of_mem _ (List.mem_append_left _ (List.mem_append_left _ (List.mem_append_right _ h)))
  obtain ⟨⟨hday, hnp, hns, hnt, hnf, hnm, hnb, hme⟩, hpat, hage, hten, hcnt, hplc, heat, hned, hhld, hbad, hbad0, hbag⟩ := id hI
  have f_0 := hts (.fieldLink RX5 10 "CampBook" "people" "LCampBook$People;") (by decide +kernel)
  have f_1 := hts (.fieldLink RX5 66 "CampBook$People" "scouts" "I") (by decide +kernel)
  have f_2 := hts (.fieldLink RX5 19 "CampBook" "tents" "LCampBook$Tents;") (by decide +kernel)
  have hl := lv_entry ([.ref (a 0)]) (n := 1) (Nat.le_of_ble_eq_true rfl)
  rw [lg_entry_eq]
  generalize (lg_sl ([.ref (a 0)]) ++ List.replicate (1 - (lg_sl ([.ref (a 0)])).length) Slot.unset).toArray = ls at hl ⊢
  have hl : lv_has ls 1 [(0, .ref (a 0))] := hl
  refine lv_aload_n hx hb dX5_scoutsWithoutTent_0 rfl (lv_at hl 0 rfl) ?_
  refine va_get (D := (dC, dI)) (ci := 5) (v := .ref (a 1)) (C := RX5) (T := TX5) (N := 6) hx hb hts i_X5 hown hK hP 0 rfl rfl 0 (by decide) f_0 (fun _ h9 => h9) rfl dX5_scoutsWithoutTent_1 ?_
  refine va_get (D := (dC, dI)) (ci := 3) (v := .int (nI (c_ns S))) (C := RX3) (T := TX3) (N := 8) hx hb hts i_X3 hown hK hP 1 rfl rfl 1 (by decide) f_1 (fun _ h9 => h9) rfl dX5_scoutsWithoutTent_4 ?_
  refine lv_aload_n hx hb dX5_scoutsWithoutTent_7 rfl (lv_at hl 0 rfl) ?_
  refine va_get (D := (dC, dI)) (ci := 5) (v := .ref (a 2)) (C := RX5) (T := TX5) (N := 6) hx hb hts i_X5 hown hK hP 0 rfl rfl 1 (by decide) f_2 (fun _ h9 => h9) rfl dX5_scoutsWithoutTent_8 ?_
  refine vp_callSi (W.runV (As := []) (rest := [.int (nI (c_ns S))]) ⟨hx, hb, hml, hown, hts⟩ (c_X4_allSleepers l dC dI a k S hI) (cwV 0 hts gX5_scoutsWithoutTent_X4_allSleepers rfl rfl rfl (by decide +kernel) ⟨(Nat.le_of_ble_eq_true rfl), (Nat.le_of_ble_eq_true rfl)⟩) ⟨cR_blind, va_recv hK hP (ci := 4) (q0 := 2) rfl rfl, fun U hU hW => ⟨rfl, cR_of hK hP hU hW⟩⟩ rfl rfl hl.1 rfl (lv_room (Nat.le_of_ble_eq_true rfl)) dX5_scoutsWithoutTent_11 ⟨(Nat.le_of_ble_eq_true rfl), (Nat.le_of_ble_eq_true rfl)⟩) (fun r er => ?_)
  subst er
  refine lv_isub hx hb dX5_scoutsWithoutTent_14 ?_
  rw [hQ]
  exact W.iret (v := (nI (c_ns S)) - (nI (fb_sm (cntT S) (c_nt S)))) hx hb hr (fun t9 ht9 hW9 => ⟨(nI (c_ns S)) - (nI (fb_sm (cntT S) (c_nt S))), rfl, (out_eq hI), ht9⟩) (fun q h => absurd h List.not_mem_nil) dX5_scoutsWithoutTent_15
abbrev rm_X5_hungryScouts : Room := { frames := 1, cells := 0, slots := 0, locals := 21 }
set_option maxHeartbeats 4000000 in
set_option maxRecDepth 100000 in
theorem c_X5_hungryScouts (l : Launch) (dC : Nat → ClassId) (dI : Nat → Nat → Nat) (a : Nat → Nat) (k : Nat → ClassId) (S : cs_S) (hI : Inv S) : Met l yX5_hungryScouts wsX5_hungryScouts rm_X5_hungryScouts (va_Pc [.ref (a 0)] (cR dC dI (cb_w a k S) (cb_ty k))) (vp_Si (fun r => r = nI (c_hung S))) 0 0 (fun _ => False) := by
  refine Met.ofW (cc := cX5_hungryScouts) (maxL := 1) (ret := (some .int)) (by decide) rfl ?_
  intro p e s m args below meth c s₁ B hml hv
  obtain ⟨rfl, hP, hK⟩ := hv
  have hx := B.exec
  have hb := B.bytes
  have hr := B.returns
  have hts := atoms_spec (ws := wsX5_hungryScouts) B.pre
  have hown : s.vm.findClass RX5 = some m.cls := findClass_of_methodNamed B.named
  have hlocks := B.notSynchronized
  obtain ⟨Q, hQ⟩ : ∃ Q, Q = MQ below (vp_Si (fun r => r = nI (c_hung S))) ([.ref (a 0)] : List Value).toArray s 0 0 (fun _ => False) := ⟨_, rfl⟩
  show W p l e rm_X5_hungryScouts s m _ below meth c s.heap [] 0 0 (MQ below _ _ _ _ _ _) _
  rw [← hQ]
  have i_X2 : ∀ w ∈ wsX20, w ∈ wsX5_hungryScouts := fun w h => List.mem_cons_of_mem _ (List.mem_append_right _ h)
  have i_X3 : ∀ w ∈ wsX30, w ∈ wsX5_hungryScouts := fun w h => List.mem_cons_of_mem _ (List.mem_append_left _ (List.mem_append_right _ h))
  have i_X5 : ∀ w ∈ wsX50, w ∈ wsX5_hungryScouts := fun w h => List.mem_cons_of_mem _ (List.mem_append_left _ (List.mem_append_left _ (List.mem_append_right _ h)))
  obtain ⟨⟨hday, hnp, hns, hnt, hnf, hnm, hnb, hme⟩, hpat, hage, hten, hcnt, hplc, heat, hned, hhld, hbad, hbad0, hbag⟩ := id hI
  have f_0 := hts (.fieldLink RX5 10 "CampBook" "people" "LCampBook$People;") (by decide +kernel)
  have f_1 := hts (.fieldLink RX5 66 "CampBook$People" "scouts" "I") (by decide +kernel)
  have f_2 := hts (.fieldLink RX5 33 "CampBook" "kitchen" "LCampBook$Kitchen;") (by decide +kernel)
  have f_3 := hts (.fieldLink RX5 292 "CampBook$Kitchen" "ateToday" "J") (by decide +kernel)
  have hl := lv_entry ([.ref (a 0)]) (n := 1) (Nat.le_of_ble_eq_true rfl)
  rw [lg_entry_eq]
  generalize (lg_sl ([.ref (a 0)]) ++ List.replicate (1 - (lg_sl ([.ref (a 0)])).length) Slot.unset).toArray = ls at hl ⊢
  have hl : lv_has ls 1 [(0, .ref (a 0))] := hl
  refine lv_aload_n hx hb dX5_hungryScouts_0 rfl (lv_at hl 0 rfl) ?_
  refine va_get (D := (dC, dI)) (ci := 5) (v := .ref (a 1)) (C := RX5) (T := TX5) (N := 6) hx hb hts i_X5 hown hK hP 0 rfl rfl 0 (by decide) f_0 (fun _ h9 => h9) rfl dX5_hungryScouts_1 ?_
  refine va_get (D := (dC, dI)) (ci := 3) (v := .int (nI (c_ns S))) (C := RX3) (T := TX3) (N := 8) hx hb hts i_X3 hown hK hP 1 rfl rfl 1 (by decide) f_1 (fun _ h9 => h9) rfl dX5_hungryScouts_4 ?_
  refine lv_aload_n hx hb dX5_hungryScouts_7 rfl (lv_at hl 0 rfl) ?_
  refine va_get (D := (dC, dI)) (ci := 5) (v := .ref (a 4)) (C := RX5) (T := TX5) (N := 6) hx hb hts i_X5 hown hK hP 0 rfl rfl 3 (by decide) f_2 (fun _ h9 => h9) rfl dX5_hungryScouts_8 ?_
  refine va_get (D := (dC, dI)) (ci := 2) (v := .long (c_at S)) (C := RX2) (T := TX2) (N := 6) hx hb hts i_X2 hown hK hP 4 rfl rfl 3 (by decide) f_3 (fun _ h9 => h9) rfl dX5_hungryScouts_11 ?_
  refine cb_topl (z := lN (bs (c_eat S) (c_ns S))) rfl ?_
  refine vp_callSi (W.runS (As := [.long (lN (bs (c_eat S) (c_ns S)))]) (rest := [.int (nI (c_ns S))]) ⟨hx, hb, hml, hown, hts⟩ (c_J13_bitCount_95d88 l (bs (c_eat S) (c_ns S)) (bs_lt32 (by omega))) (va_cwS 1 hts gX5_hungryScouts_J13_bitCount_95d88 rfl rfl rfl (by decide +kernel) ⟨(Nat.le_of_ble_eq_true rfl), (Nat.le_of_ble_eq_true rfl)⟩) ⟨cN_blind, fun U hU hW => ⟨rfl, trivial⟩⟩ rfl rfl hl.1 rfl (lv_room (Nat.le_of_ble_eq_true rfl)) dX5_hungryScouts_14 ⟨(Nat.le_of_ble_eq_true rfl), (Nat.le_of_ble_eq_true rfl)⟩) (fun r er => ?_)
  subst er
  refine lv_isub hx hb dX5_hungryScouts_17 ?_
  rw [hQ]
  exact W.iret (v := (nI (c_ns S)) - (nI (popc (bs (c_eat S) (c_ns S))))) hx hb hr (fun t9 ht9 hW9 => ⟨(nI (c_ns S)) - (nI (popc (bs (c_eat S) (c_ns S)))), rfl, (hung_eq hns), ht9⟩) (fun q h => absurd h List.not_mem_nil) dX5_hungryScouts_18
abbrev rm_X5_factOf : Room := { frames := 2, cells := 0, slots := 0, locals := 45 }
set_option maxHeartbeats 4000000 in
set_option maxRecDepth 100000 in
theorem c_X5_factOf (l : Launch) (dC : Nat → ClassId) (dI : Nat → Nat → Nat) (a : Nat → Nat) (k : Nat → ClassId) (S : cs_S) (u : Nat) (w9 : Nat) (hu : u < c_ns S) (hw9 : w9 < 7) (hI : Inv S) : Met l yX5_factOf wsX5_factOf rm_X5_factOf (va_Pc [.ref (a 0), .int (nI u), .int (nI w9)] (cR dC dI (cb_w a k S) (cb_ty k))) (vp_Si (fun r => r = fct S u w9)) 0 0 (fun _ => False) := by
  refine Met.ofW (cc := cX5_factOf) (maxL := 3) (ret := (some .int)) (by decide) rfl ?_
  intro p e s m args below meth c s₁ B hml hv
  obtain ⟨rfl, hP, hK⟩ := hv
  have hx := B.exec
  have hb := B.bytes
  have hr := B.returns
  have hts := atoms_spec (ws := wsX5_factOf) B.pre
  have hown : s.vm.findClass RX5 = some m.cls := findClass_of_methodNamed B.named
  have hlocks := B.notSynchronized
  obtain ⟨Q, hQ⟩ : ∃ Q, Q = MQ below (vp_Si (fun r => r = fct S u w9)) ([.ref (a 0), .int (nI u), .int (nI w9)] : List Value).toArray s 0 0 (fun _ => False) := ⟨_, rfl⟩
  show W p l e rm_X5_factOf s m _ below meth c s.heap [] 0 0 (MQ below _ _ _ _ _ _) _
  rw [← hQ]
  have i_X3 : ∀ w ∈ wsX30, w ∈ wsX5_factOf := fun w h => List.mem_cons_of_mem _ (List.mem_append_left _ (List.mem_append_right _ h))
  have i_X5 : ∀ w ∈ wsX50, w ∈ wsX5_factOf := fun w h => List.mem_cons_of_mem _ (List.mem_append_left _ (List.mem_append_left _ (List.mem_append_right _ h)))
  obtain ⟨⟨hday, hnp, hns, hnt, hnf, hnm, hnb, hme⟩, hpat, hage, hten, hcnt, hplc, heat, hned, hhld, hbad, hbad0, hbag⟩ := id hI
  have f_0 := hts (.fieldLink RX5 10 "CampBook" "people" "LCampBook$People;") (by decide +kernel)
  have f_1 := hts (.fieldLink RX5 280 "CampBook$People" "patrol" "[I") (by decide +kernel)
  have f_2 := hts (.fieldLink RX5 112 "CampBook$People" "age" "[I") (by decide +kernel)
  have f_3 := hts (.fieldLink RX5 283 "CampBook$People" "skills" "[I") (by decide +kernel)
  have f_4 := hts (.fieldLink RX5 161 "CampBook$People" "refused" "[I") (by decide +kernel)
  have f_5 := hts (.fieldLink RX5 19 "CampBook" "tents" "LCampBook$Tents;") (by decide +kernel)
  have f_6 := hts (.fieldLink RX5 226 "CampBook$People" "badges" "[I") (by decide +kernel)
  have hl := lv_entry ([.ref (a 0), .int (nI u), .int (nI w9)]) (n := 3) (Nat.le_of_ble_eq_true rfl)
  rw [lg_entry_eq]
  generalize (lg_sl ([.ref (a 0), .int (nI u), .int (nI w9)]) ++ List.replicate (3 - (lg_sl ([.ref (a 0), .int (nI u), .int (nI w9)])).length) Slot.unset).toArray = ls at hl ⊢
  have hl : lv_has ls 3 [(0, .ref (a 0)), (1, .int (nI u)), (2, .int (nI w9))] := hl
  refine lv_iload_n hx hb dX5_factOf_0 rfl (lv_at hl 2 rfl) ?_
  rcases (show w9 = 0 ∨ w9 = 1 ∨ w9 = 2 ∨ w9 = 3 ∨ w9 = 4 ∨ w9 = 5 ∨ w9 = 6 by omega) with rfl | rfl | rfl | rfl | rfl | rfl | rfl
  · refine lv_tableIn (tgt := 40) hx hb dX5_factOf_1 (by decide) (by decide) rfl (by decide) ?_
    refine lv_aload_n hx hb dX5_factOf_40 rfl (lv_at hl 0 rfl) ?_
    refine va_get (D := (dC, dI)) (ci := 5) (v := .ref (a 1)) (C := RX5) (T := TX5) (N := 6) hx hb hts i_X5 hown hK hP 0 rfl rfl 0 (by decide) f_0 (fun _ h9 => h9) rfl dX5_factOf_41 ?_
    refine va_get (D := (dC, dI)) (ci := 3) (v := .ref (a 6)) (C := RX3) (T := TX3) (N := 8) hx hb hts i_X3 hown hK hP 1 rfl rfl 2 (by decide) f_1 (fun _ h9 => h9) rfl dX5_factOf_44 ?_
    refine lv_iload_n hx hb dX5_factOf_47 rfl (lv_at hl 1 rfl) ?_
    refine cb_iald hx hb hK hP 6 0 (f := c_pat S) rfl rfl (j := u) (by omega) (Nat.le_of_ble_eq_true rfl) dX5_factOf_48 ?_
    rw [hQ]
    exact W.iret (v := c_pat S u) hx hb hr (fun t9 ht9 hW9 => ⟨c_pat S u, rfl, rfl, ht9⟩) (fun q h => absurd h List.not_mem_nil) dX5_factOf_49
  · refine lv_tableIn (tgt := 50) hx hb dX5_factOf_1 (by decide) (by decide) rfl (by decide) ?_
    refine lv_aload_n hx hb dX5_factOf_50 rfl (lv_at hl 0 rfl) ?_
    refine va_get (D := (dC, dI)) (ci := 5) (v := .ref (a 1)) (C := RX5) (T := TX5) (N := 6) hx hb hts i_X5 hown hK hP 0 rfl rfl 0 (by decide) f_0 (fun _ h9 => h9) rfl dX5_factOf_51 ?_
    refine va_get (D := (dC, dI)) (ci := 3) (v := .ref (a 7)) (C := RX3) (T := TX3) (N := 8) hx hb hts i_X3 hown hK hP 1 rfl rfl 3 (by decide) f_2 (fun _ h9 => h9) rfl dX5_factOf_54 ?_
    refine lv_iload_n hx hb dX5_factOf_57 rfl (lv_at hl 1 rfl) ?_
    refine cb_iald hx hb hK hP 7 1 (f := c_age S) rfl rfl (j := u) (by omega) (Nat.le_of_ble_eq_true rfl) dX5_factOf_58 ?_
    rw [hQ]
    exact W.iret (v := c_age S u) hx hb hr (fun t9 ht9 hW9 => ⟨c_age S u, rfl, rfl, ht9⟩) (fun q h => absurd h List.not_mem_nil) dX5_factOf_59
  · refine lv_tableIn (tgt := 60) hx hb dX5_factOf_1 (by decide) (by decide) rfl (by decide) ?_
    refine lv_aload_n hx hb dX5_factOf_60 rfl (lv_at hl 0 rfl) ?_
    refine va_get (D := (dC, dI)) (ci := 5) (v := .ref (a 1)) (C := RX5) (T := TX5) (N := 6) hx hb hts i_X5 hown hK hP 0 rfl rfl 0 (by decide) f_0 (fun _ h9 => h9) rfl dX5_factOf_61 ?_
    refine va_get (D := (dC, dI)) (ci := 3) (v := .ref (a 8)) (C := RX3) (T := TX3) (N := 8) hx hb hts i_X3 hown hK hP 1 rfl rfl 4 (by decide) f_3 (fun _ h9 => h9) rfl dX5_factOf_64 ?_
    refine lv_iload_n hx hb dX5_factOf_67 rfl (lv_at hl 1 rfl) ?_
    refine cb_iald hx hb hK hP 8 2 (f := c_skl S) rfl rfl (j := u) (by omega) (Nat.le_of_ble_eq_true rfl) dX5_factOf_68 ?_
    rw [hQ]
    exact W.iret (v := c_skl S u) hx hb hr (fun t9 ht9 hW9 => ⟨c_skl S u, rfl, rfl, ht9⟩) (fun q h => absurd h List.not_mem_nil) dX5_factOf_69
  · refine lv_tableIn (tgt := 70) hx hb dX5_factOf_1 (by decide) (by decide) rfl (by decide) ?_
    refine lv_aload_n hx hb dX5_factOf_70 rfl (lv_at hl 0 rfl) ?_
    refine va_get (D := (dC, dI)) (ci := 5) (v := .ref (a 1)) (C := RX5) (T := TX5) (N := 6) hx hb hts i_X5 hown hK hP 0 rfl rfl 0 (by decide) f_0 (fun _ h9 => h9) rfl dX5_factOf_71 ?_
    refine va_get (D := (dC, dI)) (ci := 3) (v := .ref (a 9)) (C := RX3) (T := TX3) (N := 8) hx hb hts i_X3 hown hK hP 1 rfl rfl 5 (by decide) f_4 (fun _ h9 => h9) rfl dX5_factOf_74 ?_
    refine lv_iload_n hx hb dX5_factOf_77 rfl (lv_at hl 1 rfl) ?_
    refine cb_iald hx hb hK hP 9 3 (f := c_ref S) rfl rfl (j := u) (by omega) (Nat.le_of_ble_eq_true rfl) dX5_factOf_78 ?_
    rw [hQ]
    exact W.iret (v := c_ref S u) hx hb hr (fun t9 ht9 hW9 => ⟨c_ref S u, rfl, rfl, ht9⟩) (fun q h => absurd h List.not_mem_nil) dX5_factOf_79
  · refine lv_tableIn (tgt := 80) hx hb dX5_factOf_1 (by decide) (by decide) rfl (by decide) ?_
    refine lv_aload_n hx hb dX5_factOf_80 rfl (lv_at hl 0 rfl) ?_
    refine va_get (D := (dC, dI)) (ci := 5) (v := .ref (a 2)) (C := RX5) (T := TX5) (N := 6) hx hb hts i_X5 hown hK hP 0 rfl rfl 1 (by decide) f_5 (fun _ h9 => h9) rfl dX5_factOf_81 ?_
    refine lv_iload_n hx hb dX5_factOf_84 rfl (lv_at hl 1 rfl) ?_
    refine vp_callSi (W.runV (As := [.int (nI u)]) (rest := []) ⟨hx, hb, hml, hown, hts⟩ (c_X4_tentOf l dC dI a k S u (by omega) hI) (cwV 1 hts gX5_factOf_X4_tentOf rfl rfl rfl (by decide +kernel) ⟨(Nat.le_of_ble_eq_true rfl), (Nat.le_of_ble_eq_true rfl)⟩) ⟨cR_blind, va_recv hK hP (ci := 4) (q0 := 2) rfl rfl, fun U hU hW => ⟨rfl, cR_of hK hP hU hW⟩⟩ rfl rfl hl.1 rfl (lv_room (Nat.le_of_ble_eq_true rfl)) dX5_factOf_85 ⟨(Nat.le_of_ble_eq_true rfl), (Nat.le_of_ble_eq_true rfl)⟩) (fun r er => ?_)
    subst er
    rw [hQ]
    exact W.iret (v := c_ten S u) hx hb hr (fun t9 ht9 hW9 => ⟨c_ten S u, rfl, rfl, ht9⟩) (fun q h => absurd h List.not_mem_nil) dX5_factOf_88
  · refine lv_tableIn (tgt := 89) hx hb dX5_factOf_1 (by decide) (by decide) rfl (by decide) ?_
    refine lv_aload_n hx hb dX5_factOf_89 rfl (lv_at hl 0 rfl) ?_
    refine va_get (D := (dC, dI)) (ci := 5) (v := .ref (a 1)) (C := RX5) (T := TX5) (N := 6) hx hb hts i_X5 hown hK hP 0 rfl rfl 0 (by decide) f_0 (fun _ h9 => h9) rfl dX5_factOf_90 ?_
    refine va_get (D := (dC, dI)) (ci := 3) (v := .ref (a 10)) (C := RX3) (T := TX3) (N := 8) hx hb hts i_X3 hown hK hP 1 rfl rfl 6 (by decide) f_6 (fun _ h9 => h9) rfl dX5_factOf_93 ?_
    refine lv_iload_n hx hb dX5_factOf_96 rfl (lv_at hl 1 rfl) ?_
    refine cb_iald hx hb hK hP 10 4 (f := c_bad S) rfl rfl (j := u) (by omega) (Nat.le_of_ble_eq_true rfl) dX5_factOf_97 ?_
    rw [hQ]
    exact W.iret (v := c_bad S u) hx hb hr (fun t9 ht9 hW9 => ⟨c_bad S u, rfl, rfl, ht9⟩) (fun q h => absurd h List.not_mem_nil) dX5_factOf_98
  · refine lv_tableOut (tgt := 99) hx hb dX5_factOf_1 (by decide) (by decide) ?_
    refine lv_aload_n hx hb dX5_factOf_99 rfl (lv_at hl 0 rfl) ?_
    refine va_get (D := (dC, dI)) (ci := 5) (v := .ref (a 1)) (C := RX5) (T := TX5) (N := 6) hx hb hts i_X5 hown hK hP 0 rfl rfl 0 (by decide) f_0 (fun _ h9 => h9) rfl dX5_factOf_100 ?_
    refine lv_iload_n hx hb dX5_factOf_103 rfl (lv_at hl 1 rfl) ?_
    refine vp_callSi (W.runV (As := [.int (nI u)]) (rest := []) ⟨hx, hb, hml, hown, hts⟩ (c_X3_allHours l dC dI a k S u (by omega)) (cwV 1 hts gX5_factOf_X3_allHours rfl rfl rfl (by decide +kernel) ⟨(Nat.le_of_ble_eq_true rfl), (Nat.le_of_ble_eq_true rfl)⟩) ⟨cR_blind, va_recv hK hP (ci := 3) (q0 := 1) rfl rfl, fun U hU hW => ⟨rfl, cR_of hK hP hU hW⟩⟩ rfl rfl hl.1 rfl (lv_room (Nat.le_of_ble_eq_true rfl)) dX5_factOf_104 ⟨(Nat.le_of_ble_eq_true rfl), (Nat.le_of_ble_eq_true rfl)⟩) (fun r er => ?_)
    subst er
    rw [hQ]
    exact W.iret (v := allH S u) hx hb hr (fun t9 ht9 hW9 => ⟨allH S u, rfl, rfl, ht9⟩) (fun q h => absurd h List.not_mem_nil) dX5_factOf_107
abbrev rm_X5_countOf : Room := { frames := 3, cells := 0, slots := 0, locals := 63 }
abbrev rm_X5_mixed : Room := { frames := 0, cells := 0, slots := 0, locals := 0 }
abbrev rm_X5_withPeople : Room := { frames := 3, cells := 0, slots := 0, locals := 67 }
abbrev rm_X5_withKitchen : Room := { frames := 3, cells := 0, slots := 0, locals := 71 }
end CBM
