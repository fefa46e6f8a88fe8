section CBM
abbrev rm_X5_checkNumber : Room := { frames := 6, cells := 1, slots := 6, locals := 90 }
set_option maxHeartbeats 4000000 in
set_option maxRecDepth 100000 in
theorem c_X5_checkNumber (l : Launch) (hl9 : l.stackTraces = false) (dC : Nat → ClassId) (dI : Nat → Nat → Nat) (a : Nat → Nat) (k : Nat → ClassId) (S : cs_S) (sz : Nat) (x0 : Int32) (z : Nat) (hz : z < 2 ^ 31) : vx_Met l yX5_checkNumber wsX5_checkNumber rm_X5_checkNumber (va_Pc [.int x0, .int (nI z)] (cU dC dI sz ([] : va_W) ([] : List (ClassId × FieldType)))) (va_Qv (fun (_ : Unit) => ix x0 z = true) (fun _ t => cB dC dI (va_A ([] : va_W) sz) ([] : va_W) ([] : List (ClassId × FieldType)) t) (va_A ([] : va_W) sz)) (cX dC dI ([] : va_W) ([] : List (ClassId × FieldType)) (va_A ([] : va_W) sz) (fun E => E = xE_I ∧ ix x0 z = false)) 1 6 (va_A ([] : va_W) sz) := by
  refine vx_ofW (cc := cX5_checkNumber) (maxL := 2) (ret := none) (by decide) rfl ?_
  intro p e s m args below meth c s₁ B hml htab hv
  obtain ⟨rfl, ⟨hsz, hP, hK, hD0⟩, hE⟩ := hv
  have hx := B.exec
  have hb := B.bytes
  have hr := B.returns
  have hts := atoms_spec (ws := wsX5_checkNumber) B.pre
  have hown : s.vm.findClass RX5 = some m.cls := findClass_of_methodNamed B.named
  have hlocks := B.notSynchronized
  subst hsz
  have hD := hD0.self (sz := s.heap.size)
  generalize hAe : va_A ([] : va_W) s.heap.size = A at hD hE ⊢
  have hA : ∀ q : Nat, s.heap.size ≤ q → A q := fun q h => by rw [← hAe]; exact Or.inr h
  have hS : va_S A s.heap s.heap [] := va_S.rf
  obtain ⟨Q, hQ⟩ : ∃ Q, Q = vx_MQ below (va_Qv (fun (_ : Unit) => ix x0 z = true) (fun _ t => cB dC dI A ([] : va_W) ([] : List (ClassId × FieldType)) t) A) (cX dC dI ([] : va_W) ([] : List (ClassId × FieldType)) A (fun E => E = xE_I ∧ ix x0 z = false)) ([.int x0, .int (nI z)] : List Value).toArray s 1 6 A := ⟨_, rfl⟩
  show W p l e rm_X5_checkNumber s m _ below meth c s.heap [] 0 0 (vx_MQ below _ _ _ _ _ _ _) _
  rw [← hQ]
  have f_0 := hts (.classLink RX5 273 "java/lang/IndexOutOfBoundsException") (by decide +kernel)
  have f_1 := hts (.initialized "java/lang/IndexOutOfBoundsException") (by decide +kernel)
  have hl := lv_entry ([.int x0, .int (nI z)]) (n := 2) (Nat.le_of_ble_eq_true rfl)
  rw [lg_entry_eq]
  generalize (lg_sl ([.int x0, .int (nI z)]) ++ List.replicate (2 - (lg_sl ([.int x0, .int (nI z)])).length) Slot.unset).toArray = ls at hl ⊢
  have hl : lv_has ls 2 [(0, .int x0), (1, .int (nI z))] := hl
  refine lv_iload_n hx hb dX5_checkNumber_0 rfl (lv_at hl 0 rfl) ?_
  refine lv_if_lt (tgt := 9) hx hb dX5_checkNumber_1 (by decide) (fun c_1 => ?_) (fun c_1 => ?_)
  · skip
    obtain ⟨sa, hstr⟩ := hE.2.2.2.1 (275, "there is no such number") (by decide +kernel)
    have hpx : "java/lang/IndexOutOfBoundsException" = xE_I ∧ ix x0 z = false := ⟨rfl, ix_no1 c_1⟩
    rw [hQ]
    exact vx_throwSW (own := RX5) (cls := "java/lang/IndexOutOfBoundsException") (names := ["java/lang/RuntimeException", "java/lang/Exception"]) (ik := 273) (is := 275) (ic := 277) hx hb hl9 hown (by decide) (by decide) f_0 f_1 hstr (cb_atI (fun w h => hts w (List.mem_cons_of_mem _ (List.mem_append_right _ h))) hE.2.2.1) cb_gdI hE.1 hE.2.1 hS (hl.1.trans hml.symm) dX5_checkNumber_9 dX5_checkNumber_12 dX5_checkNumber_13 dX5_checkNumber_16 dX5_checkNumber_19 (fun x hx => (htab x hx).elim) (Nat.le_of_ble_eq_true rfl) (Nat.le_of_ble_eq_true rfl) (by decide) (by decide) hlocks (fun t ha hz hk => cX_of hP hK hD hS ha hz hk hpx) hS.2.2 (by decide) (by decide)
  · skip
    refine lv_iload_n hx hb dX5_checkNumber_4 rfl (lv_at hl 0 rfl) ?_
    refine lv_iload_n hx hb dX5_checkNumber_5 rfl (lv_at hl 1 rfl) ?_
    refine lv_icmp_lt (tgt := 20) hx hb dX5_checkNumber_6 (by decide) (fun c_6 => ?_) (fun c_6 => ?_)
    · skip
      rw [hQ]
      refine vx_ret ?_
      refine W.widen (k := 1) (n := 6) (by omega) (by omega) ?_
      exact W.vret hx hb hr (fun t9 ht9 hW9 => ⟨⟨(), rfl, (ix_ok hz c_1 c_6), cB_of hP hK hD ht9 hW9⟩, hS.F ht9⟩) hS.2.2 dX5_checkNumber_20
    · skip
      obtain ⟨sa, hstr⟩ := hE.2.2.2.1 (275, "there is no such number") (by decide +kernel)
      have hpx : "java/lang/IndexOutOfBoundsException" = xE_I ∧ ix x0 z = false := ⟨rfl, ix_no2 hz c_6⟩
      rw [hQ]
      exact vx_throwSW (own := RX5) (cls := "java/lang/IndexOutOfBoundsException") (names := ["java/lang/RuntimeException", "java/lang/Exception"]) (ik := 273) (is := 275) (ic := 277) hx hb hl9 hown (by decide) (by decide) f_0 f_1 hstr (cb_atI (fun w h => hts w (List.mem_cons_of_mem _ (List.mem_append_right _ h))) hE.2.2.1) cb_gdI hE.1 hE.2.1 hS (hl.1.trans hml.symm) dX5_checkNumber_9 dX5_checkNumber_12 dX5_checkNumber_13 dX5_checkNumber_16 dX5_checkNumber_19 (fun x hx => (htab x hx).elim) (Nat.le_of_ble_eq_true rfl) (Nat.le_of_ble_eq_true rfl) (by decide) (by decide) hlocks (fun t ha hz hk => cX_of hP hK hD hS ha hz hk hpx) hS.2.2 (by decide) (by decide)
abbrev rm_X5_checkNumberOrNone : Room := { frames := 7, cells := 1, slots := 6, locals := 111 }
set_option maxHeartbeats 4000000 in
set_option maxRecDepth 100000 in
theorem c_X5_checkNumberOrNone (l : Launch) (hl9 : l.stackTraces = false) (dC : Nat → ClassId) (dI : Nat → Nat → Nat) (a : Nat → Nat) (k : Nat → ClassId) (S : cs_S) (sz : Nat) (x0 : Int32) (z : Nat) (hz : z < 2 ^ 31) : vx_Met l yX5_checkNumberOrNone wsX5_checkNumberOrNone rm_X5_checkNumberOrNone (va_Pc [.int x0, .int (nI z)] (cU dC dI sz ([] : va_W) ([] : List (ClassId × FieldType)))) (va_Qv (fun (_ : Unit) => (x0 = -1 ∨ ix x0 z = true)) (fun _ t => cB dC dI (va_A ([] : va_W) sz) ([] : va_W) ([] : List (ClassId × FieldType)) t) (va_A ([] : va_W) sz)) (cX dC dI ([] : va_W) ([] : List (ClassId × FieldType)) (va_A ([] : va_W) sz) (fun E => E = xE_I ∧ x0 ≠ -1 ∧ ix x0 z = false)) 1 6 (va_A ([] : va_W) sz) := by
  refine vx_ofW (cc := cX5_checkNumberOrNone) (maxL := 2) (ret := none) (by decide) rfl ?_
  intro p e s m args below meth c s₁ B hml htab hv
  obtain ⟨rfl, ⟨hsz, hP, hK, hD0⟩, hE⟩ := hv
  have hx := B.exec
  have hb := B.bytes
  have hr := B.returns
  have hts := atoms_spec (ws := wsX5_checkNumberOrNone) B.pre
  have hown : s.vm.findClass RX5 = some m.cls := findClass_of_methodNamed B.named
  have hlocks := B.notSynchronized
  subst hsz
  have hD := hD0.self (sz := s.heap.size)
  generalize hAe : va_A ([] : va_W) s.heap.size = A at hD hE ⊢
  have hA : ∀ q : Nat, s.heap.size ≤ q → A q := fun q h => by rw [← hAe]; exact Or.inr h
  have hS : va_S A s.heap s.heap [] := va_S.rf
  obtain ⟨Q, hQ⟩ : ∃ Q, Q = vx_MQ below (va_Qv (fun (_ : Unit) => (x0 = -1 ∨ ix x0 z = true)) (fun _ t => cB dC dI A ([] : va_W) ([] : List (ClassId × FieldType)) t) A) (cX dC dI ([] : va_W) ([] : List (ClassId × FieldType)) A (fun E => E = xE_I ∧ x0 ≠ -1 ∧ ix x0 z = false)) ([.int x0, .int (nI z)] : List Value).toArray s 1 6 A := ⟨_, rfl⟩
  show W p l e rm_X5_checkNumberOrNone s m _ below meth c s.heap [] 0 0 (vx_MQ below _ _ _ _ _ _ _) _
  rw [← hQ]
  have hl := lv_entry ([.int x0, .int (nI z)]) (n := 2) (Nat.le_of_ble_eq_true rfl)
  rw [lg_entry_eq]
  generalize (lg_sl ([.int x0, .int (nI z)]) ++ List.replicate (2 - (lg_sl ([.int x0, .int (nI z)])).length) Slot.unset).toArray = ls at hl ⊢
  have hl : lv_has ls 2 [(0, .int x0), (1, .int (nI z))] := hl
  refine lv_iload_n hx hb dX5_checkNumberOrNone_0 rfl (lv_at hl 0 rfl) ?_
  refine lv_iconst (v := (-1)) hx hb dX5_checkNumberOrNone_1 (by decide) ?_
  refine lv_icmp_eq (tgt := 10) hx hb dX5_checkNumberOrNone_2 (by decide) (fun c_2 => ?_) (fun c_2 => ?_)
  · skip
    rw [hQ]
    refine vx_ret ?_
    refine W.widen (k := 1) (n := 6) (by omega) (by omega) ?_
    exact W.vret hx hb hr (fun t9 ht9 hW9 => ⟨⟨(), rfl, (Or.inl c_2), cB_of hP hK hD ht9 hW9⟩, hS.F ht9⟩) hS.2.2 dX5_checkNumberOrNone_10
  · skip
    refine lv_iload_n hx hb dX5_checkNumberOrNone_5 rfl (lv_at hl 0 rfl) ?_
    refine lv_iload_n hx hb dX5_checkNumberOrNone_6 rfl (lv_at hl 1 rfl) ?_
    have hF_7 : ∀ q, va_A ([] : va_W) s.heap.size q → A q := fun q h => hA q (Nat.le_trans hS.1 (va_A_nil h))
    refine vx_callv (vx_runS (As := [.int x0, .int (nI z)]) (rest := []) ⟨hx, hb, hml, hown, hts⟩ (c_X5_checkNumber l hl9 dC dI a k S s.heap.size x0 z (by omega)) (va_cwS 2 hts gX5_checkNumberOrNone_X5_checkNumber rfl rfl rfl (by decide +kernel) ⟨(Nat.le_of_ble_eq_true rfl), (Nat.le_of_ble_eq_true rfl)⟩) ⟨cU_blind, fun U hU hW => ⟨rfl, cU_of hK hP hD hE hS hU hW hF_7⟩⟩ rfl rfl hl.1 rfl (lv_room (Nat.le_of_ble_eq_true rfl)) dX5_checkNumberOrNone_7 ⟨(by show 0 + 1 ≤ 1; omega), (by show 0 + 6 ≤ 6; omega)⟩) hS (fun q _ h => hF_7 q h) hF_7 (fun q _ h => hF_7 q h) (fun E ce q9 u8 t8 H_7 L_7_ ht hvm _ hB hz1 hk1 hS hce hcv hcl => ?_) (fun u8 t8 H_7 L_7_ ht hvm hw hB hz1 hk1 hS => ?_)
    · obtain ⟨hpx9, hB9⟩ := hB
      have hP := cW_keep hP hk1
      rw [hQ]
      exact vx_out (fun x hx => (htab x hx).elim) hlocks hce hcv hcl (fun t9 h9 ha9 => cX_out hP hK hD hS h9 ha9 (⟨hpx9.1, c_2, hpx9.2⟩)) hS.2.2 (by omega) (by omega)
    · skip
      have hP := cW_keep hP hk1
      have hw_7 := hw
      rw [hQ]
      refine vx_ret ?_
      refine W.widen (k := 1) (n := 6) (by omega) (by omega) ?_
      exact W.vret hx hb hr (fun t9 ht9 hW9 => ⟨⟨(), rfl, (Or.inr hw_7), cB_of hP hK hD ht9 hW9⟩, hS.F ht9⟩) hS.2.2 dX5_checkNumberOrNone_10
abbrev rm_X5_checkArgument : Room := { frames := 6, cells := 1, slots := 6, locals := 90 }
set_option maxHeartbeats 4000000 in
set_option maxRecDepth 100000 in
theorem c_X5_checkArgument (l : Launch) (hl9 : l.stackTraces = false) (dC : Nat → ClassId) (dI : Nat → Nat → Nat) (a : Nat → Nat) (k : Nat → ClassId) (S : cs_S) (sz : Nat) (x0 : Int32) (x1 : Int32) (x2 : Int32) : vx_Met l yX5_checkArgument wsX5_checkArgument rm_X5_checkArgument (va_Pc [.int x0, .int x1, .int x2] (cU dC dI sz ([] : va_W) ([] : List (ClassId × FieldType)))) (va_Qv (fun (_ : Unit) => inR x0 x1 x2 = true) (fun _ t => cB dC dI (va_A ([] : va_W) sz) ([] : va_W) ([] : List (ClassId × FieldType)) t) (va_A ([] : va_W) sz)) (cX dC dI ([] : va_W) ([] : List (ClassId × FieldType)) (va_A ([] : va_W) sz) (fun E => E = xE_A ∧ inR x0 x1 x2 = false)) 1 6 (va_A ([] : va_W) sz) := by
  refine vx_ofW (cc := cX5_checkArgument) (maxL := 3) (ret := none) (by decide) rfl ?_
  intro p e s m args below meth c s₁ B hml htab hv
  obtain ⟨rfl, ⟨hsz, hP, hK, hD0⟩, hE⟩ := hv
  have hx := B.exec
  have hb := B.bytes
  have hr := B.returns
  have hts := atoms_spec (ws := wsX5_checkArgument) B.pre
  have hown : s.vm.findClass RX5 = some m.cls := findClass_of_methodNamed B.named
  have hlocks := B.notSynchronized
  subst hsz
  have hD := hD0.self (sz := s.heap.size)
  generalize hAe : va_A ([] : va_W) s.heap.size = A at hD hE ⊢
  have hA : ∀ q : Nat, s.heap.size ≤ q → A q := fun q h => by rw [← hAe]; exact Or.inr h
  have hS : va_S A s.heap s.heap [] := va_S.rf
  obtain ⟨Q, hQ⟩ : ∃ Q, Q = vx_MQ below (va_Qv (fun (_ : Unit) => inR x0 x1 x2 = true) (fun _ t => cB dC dI A ([] : va_W) ([] : List (ClassId × FieldType)) t) A) (cX dC dI ([] : va_W) ([] : List (ClassId × FieldType)) A (fun E => E = xE_A ∧ inR x0 x1 x2 = false)) ([.int x0, .int x1, .int x2] : List Value).toArray s 1 6 A := ⟨_, rfl⟩
  show W p l e rm_X5_checkArgument s m _ below meth c s.heap [] 0 0 (vx_MQ below _ _ _ _ _ _ _) _
  rw [← hQ]
  have f_0 := hts (.classLink RX5 238 "java/lang/IllegalArgumentException") (by decide +kernel)
  have f_1 := hts (.initialized "java/lang/IllegalArgumentException") (by decide +kernel)
  have hl := lv_entry ([.int x0, .int x1, .int x2]) (n := 3) (Nat.le_of_ble_eq_true rfl)
  rw [lg_entry_eq]
  generalize (lg_sl ([.int x0, .int x1, .int x2]) ++ List.replicate (3 - (lg_sl ([.int x0, .int x1, .int x2])).length) Slot.unset).toArray = ls at hl ⊢
  have hl : lv_has ls 3 [(0, .int x0), (1, .int x1), (2, .int x2)] := hl
  refine lv_iload_n hx hb dX5_checkArgument_0 rfl (lv_at hl 0 rfl) ?_
  refine lv_iload_n hx hb dX5_checkArgument_1 rfl (lv_at hl 1 rfl) ?_
  refine lv_icmp_lt (tgt := 10) hx hb dX5_checkArgument_2 (by decide) (fun c_2 => ?_) (fun c_2 => ?_)
  · skip
    obtain ⟨sa, hstr⟩ := hE.2.2.2.1 (278, "the argument is outside its range") (by decide +kernel)
    have hpx : "java/lang/IllegalArgumentException" = xE_A ∧ inR x0 x1 x2 = false := ⟨rfl, inR_no1 c_2⟩
    rw [hQ]
    exact vx_throwSW (own := RX5) (cls := "java/lang/IllegalArgumentException") (names := ["java/lang/RuntimeException", "java/lang/Exception"]) (ik := 238) (is := 278) (ic := 242) hx hb hl9 hown (by decide) (by decide) f_0 f_1 hstr (cb_atA (fun w h => hts w (List.mem_cons_of_mem _ (List.mem_append_right _ h))) hE.2.2.1) cb_gdA hE.1 hE.2.1 hS (hl.1.trans hml.symm) dX5_checkArgument_10 dX5_checkArgument_13 dX5_checkArgument_14 dX5_checkArgument_17 dX5_checkArgument_20 (fun x hx => (htab x hx).elim) (Nat.le_of_ble_eq_true rfl) (Nat.le_of_ble_eq_true rfl) (by decide) (by decide) hlocks (fun t ha hz hk => cX_of hP hK hD hS ha hz hk hpx) hS.2.2 (by decide) (by decide)
  · skip
    refine lv_iload_n hx hb dX5_checkArgument_5 rfl (lv_at hl 0 rfl) ?_
    refine lv_iload_n hx hb dX5_checkArgument_6 rfl (lv_at hl 2 rfl) ?_
    refine lv_icmp_le (tgt := 21) hx hb dX5_checkArgument_7 (by decide) (fun c_7 => ?_) (fun c_7 => ?_)
    · skip
      rw [hQ]
      refine vx_ret ?_
      refine W.widen (k := 1) (n := 6) (by omega) (by omega) ?_
      exact W.vret hx hb hr (fun t9 ht9 hW9 => ⟨⟨(), rfl, (inR_ok c_2 c_7), cB_of hP hK hD ht9 hW9⟩, hS.F ht9⟩) hS.2.2 dX5_checkArgument_21
    · skip
      obtain ⟨sa, hstr⟩ := hE.2.2.2.1 (278, "the argument is outside its range") (by decide +kernel)
      have hpx : "java/lang/IllegalArgumentException" = xE_A ∧ inR x0 x1 x2 = false := ⟨rfl, inR_no2 c_7⟩
      rw [hQ]
      exact vx_throwSW (own := RX5) (cls := "java/lang/IllegalArgumentException") (names := ["java/lang/RuntimeException", "java/lang/Exception"]) (ik := 238) (is := 278) (ic := 242) hx hb hl9 hown (by decide) (by decide) f_0 f_1 hstr (cb_atA (fun w h => hts w (List.mem_cons_of_mem _ (List.mem_append_right _ h))) hE.2.2.1) cb_gdA hE.1 hE.2.1 hS (hl.1.trans hml.symm) dX5_checkArgument_10 dX5_checkArgument_13 dX5_checkArgument_14 dX5_checkArgument_17 dX5_checkArgument_20 (fun x hx => (htab x hx).elim) (Nat.le_of_ble_eq_true rfl) (Nat.le_of_ble_eq_true rfl) (by decide) (by decide) hlocks (fun t ha hz hk => cX_of hP hK hD hS ha hz hk hpx) hS.2.2 (by decide) (by decide)
abbrev rm_X5_scoutsWithoutTent : Room := { frames := 2, cells := 0, slots := 0, locals := 43 }
set_option maxHeartbeats 4000000 in
set_option maxRecDepth 100000 in
theorem c_X5_scoutsWithoutTent (l : Launch) (dC : Nat → ClassId) (dI : Nat → Nat → Nat) (a : Nat → Nat) (k : Nat → ClassId) (S : cs_S) (hI : Inv S) : Met l yX5_scoutsWithoutTent wsX5_scoutsWithoutTent rm_X5_scoutsWithoutTent (va_Pc [.ref (a 0)] (cR dC dI (cb_w a k S) (cb_ty k))) (vp_Si (fun r => r = nI (c_out S))) 0 0 (fun _ => False) := by
  refine Met.ofW (cc := cX5_scoutsWithoutTent) (maxL := 1) (ret := (some .int)) (by decide) rfl ?_
  intro p e s m args below meth c s₁ B hml hv
  obtain ⟨rfl, hP, hK⟩ := hv
  have hx := B.exec
  have hb := B.bytes
  have hr := B.returns
  have hts := atoms_spec (ws := wsX5_scoutsWithoutTent) B.pre
  have hown : s.vm.findClass RX5 = some m.cls := findClass_of_methodNamed B.named
  have hlocks := B.notSynchronized
  obtain ⟨Q, hQ⟩ : ∃ Q, Q = MQ below (vp_Si (fun r => r = nI (c_out S))) ([.ref (a 0)] : List Value).toArray s 0 0 (fun _ => False) := ⟨_, rfl⟩
  show W p l e rm_X5_scoutsWithoutTent s m _ below meth c s.heap [] 0 0 (MQ below _ _ _ _ _ _) _
  rw [← hQ]
  have i_X3 : ∀ w ∈ wsX30, w ∈ wsX5_scoutsWithoutTent := fun w h => List.mem_cons_of_mem _ (List.mem_append_left _ (List.mem_append_right _ h))
  have i_X5 : ∀ w ∈ wsX50, w ∈ wsX5_scoutsWithoutTent := fun w h => List.mem_cons_of_mem _ (List.mem_append_left _ (List.mem_append_left _ (List.mem_append_right _ h)))
  obtain ⟨⟨hday, hnp, hns, hnt, hnf, hnm, hnb, hme⟩, hpat, hage, hten, hcnt, hplc, heat, hned, hhld, hbad, hbad0, hbag⟩ := id hI
  have f_0 := hts (.fieldLink RX5 10 "CampBook" "people" "LCampBook$People;") (by decide +kernel)
  have f_1 := hts (.fieldLink RX5 66 "CampBook$People" "scouts" "I") (by decide +kernel)
  have f_2 := hts (.fieldLink RX5 19 "CampBook" "tents" "LCampBook$Tents;") (by decide +kernel)
  have hl := lv_entry ([.ref (a 0)]) (n := 1) (Nat.le_of_ble_eq_true rfl)
  rw [lg_entry_eq]
  generalize (lg_sl ([.ref (a 0)]) ++ List.replicate (1 - (lg_sl ([.ref (a 0)])).length) Slot.unset).toArray = ls at hl ⊢
  have hl : lv_has ls 1 [(0, .ref (a 0))] := hl
  refine lv_aload_n hx hb dX5_scoutsWithoutTent_0 rfl (lv_at hl 0 rfl) ?_
  refine va_get (D := (dC, dI)) (ci := 5) (v := .ref (a 1)) (C := RX5) (T := TX5) (N := 6) hx hb hts i_X5 hown hK hP 0 rfl rfl 0 (by decide) f_0 (fun _ h9 => h9) rfl dX5_scoutsWithoutTent_1 ?_
  refine va_get (D := (dC, dI)) (ci := 3) (v := .int (nI (c_ns S))) (C := RX3) (T := TX3) (N := 8) hx hb hts i_X3 hown hK hP 1 rfl rfl 1 (by decide) f_1 (fun _ h9 => h9) rfl dX5_scoutsWithoutTent_4 ?_
  refine lv_aload_n hx hb dX5_scoutsWithoutTent_7 rfl (lv_at hl 0 rfl) ?_
  refine va_get (D := (dC, dI)) (ci := 5) (v := .ref (a 2)) (C := RX5) (T := TX5) (N := 6) hx hb hts i_X5 hown hK hP 0 rfl rfl 1 (by decide) f_2 (fun _ h9 => h9) rfl dX5_scoutsWithoutTent_8 ?_
  refine vp_callSi (W.runV (As := []) (rest := [.int (nI (c_ns S))]) ⟨hx, hb, hml, hown, hts⟩ (c_X4_allSleepers l dC dI a k S hI) (cwV 0 hts gX5_scoutsWithoutTent_X4_allSleepers rfl rfl rfl (by decide +kernel) ⟨(Nat.le_of_ble_eq_true rfl), (Nat.le_of_ble_eq_true rfl)⟩) ⟨cR_blind, va_recv hK hP (ci := 4) (q0 := 2) rfl rfl, fun U hU hW => ⟨rfl, cR_of hK hP hU hW⟩⟩ rfl rfl hl.1 rfl (lv_room (Nat.le_of_ble_eq_true rfl)) dX5_scoutsWithoutTent_11 ⟨(Nat.le_of_ble_eq_true rfl), (Nat.le_of_ble_eq_true rfl)⟩) (fun r er => ?_)
  subst er
  refine lv_isub hx hb dX5_scoutsWithoutTent_14 ?_
  rw [hQ]
  exact W.iret (v := (nI (c_ns S)) - (nI (fb_sm (cntT S) (c_nt S)))) hx hb hr (fun t9 ht9 hW9 => ⟨(nI (c_ns S)) - (nI (fb_sm (cntT S) (c_nt S))), rfl, (out_eq hI), ht9⟩) (fun q h => absurd h List.not_mem_nil) dX5_scoutsWithoutTent_15
abbrev rm_X5_hungryScouts : Room := { frames := 1, cells := 0, slots := 0, locals := 21 }
set_option maxHeartbeats 4000000 in
set_option maxRecDepth 100000 in
theorem c_X5_hungryScouts (l : Launch) (dC : Nat → ClassId) (dI : Nat → Nat → Nat) (a : Nat → Nat) (k : Nat → ClassId) (S : cs_S) (hI : Inv S) : Met l yX5_hungryScouts wsX5_hungryScouts rm_X5_hungryScouts (va_Pc [.ref (a 0)] (cR dC dI (cb_w a k S) (cb_ty k))) (vp_Si (fun r => r = nI (c_hung S))) 0 0 (fun _ => False) := by
  refine Met.ofW (cc := cX5_hungryScouts) (maxL := 1) (ret := (some .int)) (by decide) rfl ?_
  intro p e s m args below meth c s₁ B hml hv
  obtain ⟨rfl, hP, hK⟩ := hv
  have hx := B.exec
  have hb := B.bytes
  have hr := B.returns
  have hts := atoms_spec (ws := wsX5_hungryScouts) B.pre
  have hown : s.vm.findClass RX5 = some m.cls := findClass_of_methodNamed B.named
  have hlocks := B.notSynchronized
  obtain ⟨Q, hQ⟩ : ∃ Q, Q = MQ below (vp_Si (fun r => r = nI (c_hung S))) ([.ref (a 0)] : List Value).toArray s 0 0 (fun _ => False) := ⟨_, rfl⟩
  show W p l e rm_X5_hungryScouts s m _ below meth c s.heap [] 0 0 (MQ below _ _ _ _ _ _) _
  rw [← hQ]
  have i_X2 : ∀ w ∈ wsX20, w ∈ wsX5_hungryScouts := fun w h => List.mem_cons_of_mem _ (List.mem_append_right _ h)
  have i_X3 : ∀ w ∈ wsX30, w ∈ wsX5_hungryScouts := fun w h => List.mem_cons_of_mem _ (List.mem_append_left _ (List.mem_append_right _ h))
  have i_X5 : ∀ w ∈ wsX50, w ∈ wsX5_hungryScouts := fun w h => List.mem_cons_of_mem _ (List.mem_append_left _ (List.mem_append_left _ (List.mem_append_right _ h)))
  obtain ⟨⟨hday, hnp, hns, hnt, hnf, hnm, hnb, hme⟩, hpat, hage, hten, hcnt, hplc, heat, hned, hhld, hbad, hbad0, hbag⟩ := id hI
  have f_0 := hts (.fieldLink RX5 10 "CampBook" "people" "LCampBook$People;") (by decide +kernel)
  have f_1 := hts (.fieldLink RX5 66 "CampBook$People" "scouts" "I") (by decide +kernel)
  have f_2 := hts (.fieldLink RX5 33 "CampBook" "kitchen" "LCampBook$Kitchen;") (by decide +kernel)
  have f_3 := hts (.fieldLink RX5 292 "CampBook$Kitchen" "ateToday" "J") (by decide +kernel)
  have hl := lv_entry ([.ref (a 0)]) (n := 1) (Nat.le_of_ble_eq_true rfl)
  rw [lg_entry_eq]
  generalize (lg_sl ([.ref (a 0)]) ++ List.replicate (1 - (lg_sl ([.ref (a 0)])).length) Slot.unset).toArray = ls at hl ⊢
  have hl : lv_has ls 1 [(0, .ref (a 0))] := hl
  refine lv_aload_n hx hb dX5_hungryScouts_0 rfl (lv_at hl 0 rfl) ?_
  refine va_get (D := (dC, dI)) (ci := 5) (v := .ref (a 1)) (C := RX5) (T := TX5) (N := 6) hx hb hts i_X5 hown hK hP 0 rfl rfl 0 (by decide) f_0 (fun _ h9 => h9) rfl dX5_hungryScouts_1 ?_
  refine va_get (D := (dC, dI)) (ci := 3) (v := .int (nI (c_ns S))) (C := RX3) (T := TX3) (N := 8) hx hb hts i_X3 hown hK hP 1 rfl rfl 1 (by decide) f_1 (fun _ h9 => h9) rfl dX5_hungryScouts_4 ?_
  refine lv_aload_n hx hb dX5_hungryScouts_7 rfl (lv_at hl 0 rfl) ?_
  refine va_get (D := (dC, dI)) (ci := 5) (v := .ref (a 4)) (C := RX5) (T := TX5) (N := 6) hx hb hts i_X5 hown hK hP 0 rfl rfl 3 (by decide) f_2 (fun _ h9 => h9) rfl dX5_hungryScouts_8 ?_
  refine va_get (D := (dC, dI)) (ci := 2) (v := .long (c_at S)) (C := RX2) (T := TX2) (N := 6) hx hb hts i_X2 hown hK hP 4 rfl rfl 3 (by decide) f_3 (fun _ h9 => h9) rfl dX5_hungryScouts_11 ?_
  refine cb_topl (z := lN (bs (c_eat S) (c_ns S))) rfl ?_
  refine vp_callSi (W.runS (As := [.long (lN (bs (c_eat S) (c_ns S)))]) (rest := [.int (nI (c_ns S))]) ⟨hx, hb, hml, hown, hts⟩ (c_J13_bitCount_95d88 l (bs (c_eat S) (c_ns S)) (bs_lt32 (by omega))) (va_cwS 1 hts gX5_hungryScouts_J13_bitCount_95d88 rfl rfl rfl (by decide +kernel) ⟨(Nat.le_of_ble_eq_true rfl), (Nat.le_of_ble_eq_true rfl)⟩) ⟨cN_blind, fun U hU hW => ⟨rfl, trivial⟩⟩ rfl rfl hl.1 rfl (lv_room (Nat.le_of_ble_eq_true rfl)) dX5_hungryScouts_14 ⟨(Nat.le_of_ble_eq_true rfl), (Nat.le_of_ble_eq_true rfl)⟩) (fun r er => ?_)
  subst er
  refine lv_isub hx hb dX5_hungryScouts_17 ?_
  rw [hQ]
  exact W.iret (v := (nI (c_ns S)) - (nI (popc (bs (c_eat S) (c_ns S))))) hx hb hr (fun t9 ht9 hW9 => ⟨(nI (c_ns S)) - (nI (popc (bs (c_eat S) (c_ns S)))), rfl, (hung_eq hns), ht9⟩) (fun q h => absurd h List.not_mem_nil) dX5_hungryScouts_18
abbrev rm_X5_factOf : Room := { frames := 2, cells := 0, slots := 0, locals := 45 }
set_option maxHeartbeats 4000000 in
set_option maxRecDepth 100000 in
theorem c_X5_factOf (l : Launch) (dC : Nat → ClassId) (dI : Nat → Nat → Nat) (a : Nat → Nat) (k : Nat → ClassId) (S : cs_S) (u : Nat) (w9 : Nat) (hu : u < c_ns S) (hw9 : w9 < 7) (hI : Inv S) : Met l yX5_factOf wsX5_factOf rm_X5_factOf (va_Pc [.ref (a 0), .int (nI u), .int (nI w9)] (cR dC dI (cb_w a k S) (cb_ty k))) (vp_Si (fun r => r = fct S u w9)) 0 0 (fun _ => False) := by
  refine Met.ofW (cc := cX5_factOf) (maxL := 3) (ret := (some .int)) (by decide) rfl ?_
  intro p e s m args below meth c s₁ B hml hv
  obtain ⟨rfl, hP, hK⟩ := hv
  have hx := B.exec
  have hb := B.bytes
  have hr := B.returns
  have hts := atoms_spec (ws := wsX5_factOf) B.pre
  have hown : s.vm.findClass RX5 = some m.cls := findClass_of_methodNamed B.named
  have hlocks := B.notSynchronized
  obtain ⟨Q, hQ⟩ : ∃ Q, Q = MQ below (vp_Si (fun r => r = fct S u w9)) ([.ref (a 0), .int (nI u), .int (nI w9)] : List Value).toArray s 0 0 (fun _ => False) := ⟨_, rfl⟩
  show W p l e rm_X5_factOf s m _ below meth c s.heap [] 0 0 (MQ below _ _ _ _ _ _) _
  rw [← hQ]
  have i_X3 : ∀ w ∈ wsX30, w ∈ wsX5_factOf := fun w h => List.mem_cons_of_mem _ (List.mem_append_left _ (List.mem_append_right _ h))
  have i_X5 : ∀ w ∈ wsX50, w ∈ wsX5_factOf := fun w h => List.mem_cons_of_mem _ (List.mem_append_left _ (List.mem_append_left _ (List.mem_append_right _ h)))
  obtain ⟨⟨hday, hnp, hns, hnt, hnf, hnm, hnb, hme⟩, hpat, hage, hten, hcnt, hplc, heat, hned, hhld, hbad, hbad0, hbag⟩ := id hI
  have f_0 := hts (.fieldLink RX5 10 "CampBook" "people" "LCampBook$People;") (by decide +kernel)
  have f_1 := hts (.fieldLink RX5 280 "CampBook$People" "patrol" "[I") (by decide +kernel)
  have f_2 := hts (.fieldLink RX5 112 "CampBook$People" "age" "[I") (by decide +kernel)
  have f_3 := hts (.fieldLink RX5 283 "CampBook$People" "skills" "[I") (by decide +kernel)
  have f_4 := hts (.fieldLink RX5 161 "CampBook$People" "refused" "[I") (by decide +kernel)
  have f_5 := hts (.fieldLink RX5 19 "CampBook" "tents" "LCampBook$Tents;") (by decide +kernel)
  have f_6 := hts (.fieldLink RX5 226 "CampBook$People" "badges" "[I") (by decide +kernel)
  have hl := lv_entry ([.ref (a 0), .int (nI u), .int (nI w9)]) (n := 3) (Nat.le_of_ble_eq_true rfl)
  rw [lg_entry_eq]
  generalize (lg_sl ([.ref (a 0), .int (nI u), .int (nI w9)]) ++ List.replicate (3 - (lg_sl ([.ref (a 0), .int (nI u), .int (nI w9)])).length) Slot.unset).toArray = ls at hl ⊢
  have hl : lv_has ls 3 [(0, .ref (a 0)), (1, .int (nI u)), (2, .int (nI w9))] := hl
  refine lv_iload_n hx hb dX5_factOf_0 rfl (lv_at hl 2 rfl) ?_
  rcases (show w9 = 0 ∨ w9 = 1 ∨ w9 = 2 ∨ w9 = 3 ∨ w9 = 4 ∨ w9 = 5 ∨ w9 = 6 by omega) with rfl | rfl | rfl | rfl | rfl | rfl | rfl
  · refine lv_tableIn (tgt := 40) hx hb dX5_factOf_1 (by decide) (by decide) rfl (by decide) ?_
    refine lv_aload_n hx hb dX5_factOf_40 rfl (lv_at hl 0 rfl) ?_
    refine va_get (D := (dC, dI)) (ci := 5) (v := .ref (a 1)) (C := RX5) (T := TX5) (N := 6) hx hb hts i_X5 hown hK hP 0 rfl rfl 0 (by decide) f_0 (fun _ h9 => h9) rfl dX5_factOf_41 ?_
    refine va_get (D := (dC, dI)) (ci := 3) (v := .ref (a 6)) (C := RX3) (T := TX3) (N := 8) hx hb hts i_X3 hown hK hP 1 rfl rfl 2 (by decide) f_1 (fun _ h9 => h9) rfl dX5_factOf_44 ?_
    refine lv_iload_n hx hb dX5_factOf_47 rfl (lv_at hl 1 rfl) ?_
    refine cb_iald hx hb hK hP 6 0 (f := c_pat S) rfl rfl (j := u) (by omega) (Nat.le_of_ble_eq_true rfl) dX5_factOf_48 ?_
    rw [hQ]
    exact W.iret (v := c_pat S u) hx hb hr (fun t9 ht9 hW9 => ⟨c_pat S u, rfl, rfl, ht9⟩) (fun q h => absurd h List.not_mem_nil) dX5_factOf_49
  · refine lv_tableIn (tgt := 50) hx hb dX5_factOf_1 (by decide) (by decide) rfl (by decide) ?_
    refine lv_aload_n hx hb dX5_factOf_50 rfl (lv_at hl 0 rfl) ?_
    refine va_get (D := (dC, dI)) (ci := 5) (v := .ref (a 1)) (C := RX5) (T := TX5) (N := 6) hx hb hts i_X5 hown hK hP 0 rfl rfl 0 (by decide) f_0 (fun _ h9 => h9) rfl dX5_factOf_51 ?_
    refine va_get (D := (dC, dI)) (ci := 3) (v := .ref (a 7)) (C := RX3) (T := TX3) (N := 8) hx hb hts i_X3 hown hK hP 1 rfl rfl 3 (by decide) f_2 (fun _ h9 => h9) rfl dX5_factOf_54 ?_
    refine lv_iload_n hx hb dX5_factOf_57 rfl (lv_at hl 1 rfl) ?_
    refine cb_iald hx hb hK hP 7 1 (f := c_age S) rfl rfl (j := u) (by omega) (Nat.le_of_ble_eq_true rfl) dX5_factOf_58 ?_
    rw [hQ]
    exact W.iret (v := c_age S u) hx hb hr (fun t9 ht9 hW9 => ⟨c_age S u, rfl, rfl, ht9⟩) (fun q h => absurd h List.not_mem_nil) dX5_factOf_59
  · refine lv_tableIn (tgt := 60) hx hb dX5_factOf_1 (by decide) (by decide) rfl (by decide) ?_
    refine lv_aload_n hx hb dX5_factOf_60 rfl (lv_at hl 0 rfl) ?_
    refine va_get (D := (dC, dI)) (ci := 5) (v := .ref (a 1)) (C := RX5) (T := TX5) (N := 6) hx hb hts i_X5 hown hK hP 0 rfl rfl 0 (by decide) f_0 (fun _ h9 => h9) rfl dX5_factOf_61 ?_
    refine va_get (D := (dC, dI)) (ci := 3) (v := .ref (a 8)) (C := RX3) (T := TX3) (N := 8) hx hb hts i_X3 hown hK hP 1 rfl rfl 4 (by decide) f_3 (fun _ h9 => h9) rfl dX5_factOf_64 ?_
    refine lv_iload_n hx hb dX5_factOf_67 rfl (lv_at hl 1 rfl) ?_
    refine cb_iald hx hb hK hP 8 2 (f := c_skl S) rfl rfl (j := u) (by omega) (Nat.le_of_ble_eq_true rfl) dX5_factOf_68 ?_
    rw [hQ]
    exact W.iret (v := c_skl S u) hx hb hr (fun t9 ht9 hW9 => ⟨c_skl S u, rfl, rfl, ht9⟩) (fun q h => absurd h List.not_mem_nil) dX5_factOf_69
  · refine lv_tableIn (tgt := 70) hx hb dX5_factOf_1 (by decide) (by decide) rfl (by decide) ?_
    refine lv_aload_n hx hb dX5_factOf_70 rfl (lv_at hl 0 rfl) ?_
    refine va_get (D := (dC, dI)) (ci := 5) (v := .ref (a 1)) (C := RX5) (T := TX5) (N := 6) hx hb hts i_X5 hown hK hP 0 rfl rfl 0 (by decide) f_0 (fun _ h9 => h9) rfl dX5_factOf_71 ?_
    refine va_get (D := (dC, dI)) (ci := 3) (v := .ref (a 9)) (C := RX3) (T := TX3) (N := 8) hx hb hts i_X3 hown hK hP 1 rfl rfl 5 (by decide) f_4 (fun _ h9 => h9) rfl dX5_factOf_74 ?_
    refine lv_iload_n hx hb dX5_factOf_77 rfl (lv_at hl 1 rfl) ?_
    refine cb_iald hx hb hK hP 9 3 (f := c_ref S) rfl rfl (j := u) (by omega) (Nat.le_of_ble_eq_true rfl) dX5_factOf_78 ?_
    rw [hQ]
    exact W.iret (v := c_ref S u) hx hb hr (fun t9 ht9 hW9 => ⟨c_ref S u, rfl, rfl, ht9⟩) (fun q h => absurd h List.not_mem_nil) dX5_factOf_79
  · refine lv_tableIn (tgt := 80) hx hb dX5_factOf_1 (by decide) (by decide) rfl (by decide) ?_
    refine lv_aload_n hx hb dX5_factOf_80 rfl (lv_at hl 0 rfl) ?_
    refine va_get (D := (dC, dI)) (ci := 5) (v := .ref (a 2)) (C := RX5) (T := TX5) (N := 6) hx hb hts i_X5 hown hK hP 0 rfl rfl 1 (by decide) f_5 (fun _ h9 => h9) rfl dX5_factOf_81 ?_
    refine lv_iload_n hx hb dX5_factOf_84 rfl (lv_at hl 1 rfl) ?_
    refine vp_callSi (W.runV (As := [.int (nI u)]) (rest := []) ⟨hx, hb, hml, hown, hts⟩ (c_X4_tentOf l dC dI a k S u (by omega) hI) (cwV 1 hts gX5_factOf_X4_tentOf rfl rfl rfl (by decide +kernel) ⟨(Nat.le_of_ble_eq_true rfl), (Nat.le_of_ble_eq_true rfl)⟩) ⟨cR_blind, va_recv hK hP (ci := 4) (q0 := 2) rfl rfl, fun U hU hW => ⟨rfl, cR_of hK hP hU hW⟩⟩ rfl rfl hl.1 rfl (lv_room (Nat.le_of_ble_eq_true rfl)) dX5_factOf_85 ⟨(Nat.le_of_ble_eq_true rfl), (Nat.le_of_ble_eq_true rfl)⟩) (fun r er => ?_)
    subst er
    rw [hQ]
    exact W.iret (v := c_ten S u) hx hb hr (fun t9 ht9 hW9 => ⟨c_ten S u, rfl, rfl, ht9⟩) (fun q h => absurd h List.not_mem_nil) dX5_factOf_88
  · refine lv_tableIn (tgt := 89) hx hb dX5_factOf_1 (by decide) (by decide) rfl (by decide) ?_
    refine lv_aload_n hx hb dX5_factOf_89 rfl (lv_at hl 0 rfl) ?_
    refine va_get (D := (dC, dI)) (ci := 5) (v := .ref (a 1)) (C := RX5) (T := TX5) (N := 6) hx hb hts i_X5 hown hK hP 0 rfl rfl 0 (by decide) f_0 (fun _ h9 => h9) rfl dX5_factOf_90 ?_
    refine va_get (D := (dC, dI)) (ci := 3) (v := .ref (a 10)) (C := RX3) (T := TX3) (N := 8) hx hb hts i_X3 hown hK hP 1 rfl rfl 6 (by decide) f_6 (fun _ h9 => h9) rfl dX5_factOf_93 ?_
    refine lv_iload_n hx hb dX5_factOf_96 rfl (lv_at hl 1 rfl) ?_
    refine cb_iald hx hb hK hP 10 4 (f := c_bad S) rfl rfl (j := u) (by omega) (Nat.le_of_ble_eq_true rfl) dX5_factOf_97 ?_
    rw [hQ]
    exact W.iret (v := c_bad S u) hx hb hr (fun t9 ht9 hW9 => ⟨c_bad S u, rfl, rfl, ht9⟩) (fun q h => absurd h List.not_mem_nil) dX5_factOf_98
  · refine lv_tableOut (tgt := 99) hx hb dX5_factOf_1 (by decide) (by decide) ?_
    refine lv_aload_n hx hb dX5_factOf_99 rfl (lv_at hl 0 rfl) ?_
    refine va_get (D := (dC, dI)) (ci := 5) (v := .ref (a 1)) (C := RX5) (T := TX5) (N := 6) hx hb hts i_X5 hown hK hP 0 rfl rfl 0 (by decide) f_0 (fun _ h9 => h9) rfl dX5_factOf_100 ?_
    refine lv_iload_n hx hb dX5_factOf_103 rfl (lv_at hl 1 rfl) ?_
    refine vp_callSi (W.runV (As := [.int (nI u)]) (rest := []) ⟨hx, hb, hml, hown, hts⟩ (c_X3_allHours l dC dI a k S u (by omega)) (cwV 1 hts gX5_factOf_X3_allHours rfl rfl rfl (by decide +kernel) ⟨(Nat.le_of_ble_eq_true rfl), (Nat.le_of_ble_eq_true rfl)⟩) ⟨cR_blind, va_recv hK hP (ci := 3) (q0 := 1) rfl rfl, fun U hU hW => ⟨rfl, cR_of hK hP hU hW⟩⟩ rfl rfl hl.1 rfl (lv_room (Nat.le_of_ble_eq_true rfl)) dX5_factOf_104 ⟨(Nat.le_of_ble_eq_true rfl), (Nat.le_of_ble_eq_true rfl)⟩) (fun r er => ?_)
    subst er
    rw [hQ]
    exact W.iret (v := allH S u) hx hb hr (fun t9 ht9 hW9 => ⟨allH S u, rfl, rfl, ht9⟩) (fun q h => absurd h List.not_mem_nil) dX5_factOf_107
abbrev rm_X5_countOf : Room := { frames := 3, cells := 0, slots := 0, locals := 63 }
set_option maxHeartbeats 4000000 in
set_option maxRecDepth 100000 in
theorem c_X5_countOf (l : Launch) (dC : Nat → ClassId) (dI : Nat → Nat → Nat) (a : Nat → Nat) (k : Nat → ClassId) (S : cs_S) (w9 : Nat) (hw9 : w9 < 7) (hI : Inv S) : Met l yX5_countOf wsX5_countOf rm_X5_countOf (va_Pc [.ref (a 0), .int (nI w9)] (cR dC dI (cb_w a k S) (cb_ty k))) (vp_Si (fun r => r = cnts S w9)) 0 0 (fun _ => False) := by
  refine Met.ofW (cc := cX5_countOf) (maxL := 2) (ret := (some .int)) (by decide) rfl ?_
  intro p e s m args below meth c s₁ B hml hv
  obtain ⟨rfl, hP, hK⟩ := hv
  have hx := B.exec
  have hb := B.bytes
  have hr := B.returns
  have hts := atoms_spec (ws := wsX5_countOf) B.pre
  have hown : s.vm.findClass RX5 = some m.cls := findClass_of_methodNamed B.named
  have hlocks := B.notSynchronized
  obtain ⟨Q, hQ⟩ : ∃ Q, Q = MQ below (vp_Si (fun r => r = cnts S w9)) ([.ref (a 0), .int (nI w9)] : List Value).toArray s 0 0 (fun _ => False) := ⟨_, rfl⟩
  show W p l e rm_X5_countOf s m _ below meth c s.heap [] 0 0 (MQ below _ _ _ _ _ _) _
  rw [← hQ]
  have i_X0 : ∀ w ∈ wsX00, w ∈ wsX5_countOf := fun w h => List.mem_cons_of_mem _ (List.mem_append_right _ h)
  have i_X2 : ∀ w ∈ wsX20, w ∈ wsX5_countOf := fun w h => List.mem_cons_of_mem _ (List.mem_append_left _ (List.mem_append_right _ h))
  have i_X3 : ∀ w ∈ wsX30, w ∈ wsX5_countOf := fun w h => List.mem_cons_of_mem _ (List.mem_append_left _ (List.mem_append_left _ (List.mem_append_left _ (List.mem_append_right _ h))))
  have i_X4 : ∀ w ∈ wsX40, w ∈ wsX5_countOf := fun w h => List.mem_cons_of_mem _ (List.mem_append_left _ (List.mem_append_left _ (List.mem_append_right _ h)))
  have i_X5 : ∀ w ∈ wsX50, w ∈ wsX5_countOf := fun w h => List.mem_cons_of_mem _ (List.mem_append_left _ (List.mem_append_left _ (List.mem_append_left _ (List.mem_append_left _ (List.mem_append_right _ h)))))
  obtain ⟨⟨hday, hnp, hns, hnt, hnf, hnm, hnb, hme⟩, hpat, hage, hten, hcnt, hplc, heat, hned, hhld, hbad, hbad0, hbag⟩ := id hI
  have f_0 := hts (.fieldLink RX5 10 "CampBook" "people" "LCampBook$People;") (by decide +kernel)
  have f_1 := hts (.fieldLink RX5 48 "CampBook$People" "patrols" "I") (by decide +kernel)
  have f_2 := hts (.fieldLink RX5 66 "CampBook$People" "scouts" "I") (by decide +kernel)
  have f_3 := hts (.fieldLink RX5 19 "CampBook" "tents" "LCampBook$Tents;") (by decide +kernel)
  have f_4 := hts (.fieldLink RX5 79 "CampBook$Tents" "size" "I") (by decide +kernel)
  have f_5 := hts (.fieldLink RX5 33 "CampBook" "kitchen" "LCampBook$Kitchen;") (by decide +kernel)
  have f_6 := hts (.fieldLink RX5 151 "CampBook$Kitchen" "foods" "I") (by decide +kernel)
  have f_7 := hts (.fieldLink RX5 164 "CampBook$Kitchen" "meals" "I") (by decide +kernel)
  have f_8 := hts (.fieldLink RX5 40 "CampBook" "badges" "LCampBook$Badges;") (by decide +kernel)
  have f_9 := hts (.fieldLink RX5 209 "CampBook$Badges" "size" "I") (by decide +kernel)
  have hl := lv_entry ([.ref (a 0), .int (nI w9)]) (n := 2) (Nat.le_of_ble_eq_true rfl)
  rw [lg_entry_eq]
  generalize (lg_sl ([.ref (a 0), .int (nI w9)]) ++ List.replicate (2 - (lg_sl ([.ref (a 0), .int (nI w9)])).length) Slot.unset).toArray = ls at hl ⊢
  have hl : lv_has ls 2 [(0, .ref (a 0)), (1, .int (nI w9))] := hl
  refine lv_iload_n hx hb dX5_countOf_0 rfl (lv_at hl 1 rfl) ?_
  rcases (show w9 = 0 ∨ w9 = 1 ∨ w9 = 2 ∨ w9 = 3 ∨ w9 = 4 ∨ w9 = 5 ∨ w9 = 6 by omega) with rfl | rfl | rfl | rfl | rfl | rfl | rfl
  · refine lv_tableIn (tgt := 40) hx hb dX5_countOf_1 (by decide) (by decide) rfl (by decide) ?_
    refine lv_aload_n hx hb dX5_countOf_40 rfl (lv_at hl 0 rfl) ?_
    refine va_get (D := (dC, dI)) (ci := 5) (v := .ref (a 1)) (C := RX5) (T := TX5) (N := 6) hx hb hts i_X5 hown hK hP 0 rfl rfl 0 (by decide) f_0 (fun _ h9 => h9) rfl dX5_countOf_41 ?_
    refine va_get (D := (dC, dI)) (ci := 3) (v := .int (nI (c_np S))) (C := RX3) (T := TX3) (N := 8) hx hb hts i_X3 hown hK hP 1 rfl rfl 0 (by decide) f_1 (fun _ h9 => h9) rfl dX5_countOf_44 ?_
    rw [hQ]
    exact W.iret (v := nI (c_np S)) hx hb hr (fun t9 ht9 hW9 => ⟨nI (c_np S), rfl, rfl, ht9⟩) (fun q h => absurd h List.not_mem_nil) dX5_countOf_47
  · refine lv_tableIn (tgt := 48) hx hb dX5_countOf_1 (by decide) (by decide) rfl (by decide) ?_
    refine lv_aload_n hx hb dX5_countOf_48 rfl (lv_at hl 0 rfl) ?_
    refine va_get (D := (dC, dI)) (ci := 5) (v := .ref (a 1)) (C := RX5) (T := TX5) (N := 6) hx hb hts i_X5 hown hK hP 0 rfl rfl 0 (by decide) f_0 (fun _ h9 => h9) rfl dX5_countOf_49 ?_
    refine va_get (D := (dC, dI)) (ci := 3) (v := .int (nI (c_ns S))) (C := RX3) (T := TX3) (N := 8) hx hb hts i_X3 hown hK hP 1 rfl rfl 1 (by decide) f_2 (fun _ h9 => h9) rfl dX5_countOf_52 ?_
    rw [hQ]
    exact W.iret (v := nI (c_ns S)) hx hb hr (fun t9 ht9 hW9 => ⟨nI (c_ns S), rfl, rfl, ht9⟩) (fun q h => absurd h List.not_mem_nil) dX5_countOf_55
  · refine lv_tableIn (tgt := 56) hx hb dX5_countOf_1 (by decide) (by decide) rfl (by decide) ?_
    refine lv_aload_n hx hb dX5_countOf_56 rfl (lv_at hl 0 rfl) ?_
    refine va_get (D := (dC, dI)) (ci := 5) (v := .ref (a 2)) (C := RX5) (T := TX5) (N := 6) hx hb hts i_X5 hown hK hP 0 rfl rfl 1 (by decide) f_3 (fun _ h9 => h9) rfl dX5_countOf_57 ?_
    refine va_get (D := (dC, dI)) (ci := 4) (v := .int (nI (c_nt S))) (C := RX4) (T := TX4) (N := 3) hx hb hts i_X4 hown hK hP 2 rfl rfl 0 (by decide) f_4 (fun _ h9 => h9) rfl dX5_countOf_60 ?_
    rw [hQ]
    exact W.iret (v := nI (c_nt S)) hx hb hr (fun t9 ht9 hW9 => ⟨nI (c_nt S), rfl, rfl, ht9⟩) (fun q h => absurd h List.not_mem_nil) dX5_countOf_63
  · refine lv_tableIn (tgt := 64) hx hb dX5_countOf_1 (by decide) (by decide) rfl (by decide) ?_
    refine lv_aload_n hx hb dX5_countOf_64 rfl (lv_at hl 0 rfl) ?_
    refine vp_callSi (W.runV (As := []) (rest := []) ⟨hx, hb, hml, hown, hts⟩ (c_X5_scoutsWithoutTent l dC dI a k S hI) (cwV 0 hts gX5_countOf_X5_scoutsWithoutTent rfl rfl rfl (by decide +kernel) ⟨(Nat.le_of_ble_eq_true rfl), (Nat.le_of_ble_eq_true rfl)⟩) ⟨cR_blind, va_recv hK hP (ci := 5) (q0 := 0) rfl rfl, fun U hU hW => ⟨rfl, cR_of hK hP hU hW⟩⟩ rfl rfl hl.1 rfl (lv_room (Nat.le_of_ble_eq_true rfl)) dX5_countOf_65 ⟨(Nat.le_of_ble_eq_true rfl), (Nat.le_of_ble_eq_true rfl)⟩) (fun r er => ?_)
    subst er
    rw [hQ]
    exact W.iret (v := nI (c_out S)) hx hb hr (fun t9 ht9 hW9 => ⟨nI (c_out S), rfl, rfl, ht9⟩) (fun q h => absurd h List.not_mem_nil) dX5_countOf_68
  · refine lv_tableIn (tgt := 69) hx hb dX5_countOf_1 (by decide) (by decide) rfl (by decide) ?_
    refine lv_aload_n hx hb dX5_countOf_69 rfl (lv_at hl 0 rfl) ?_
    refine va_get (D := (dC, dI)) (ci := 5) (v := .ref (a 4)) (C := RX5) (T := TX5) (N := 6) hx hb hts i_X5 hown hK hP 0 rfl rfl 3 (by decide) f_5 (fun _ h9 => h9) rfl dX5_countOf_70 ?_
    refine va_get (D := (dC, dI)) (ci := 2) (v := .int (nI (c_nf S))) (C := RX2) (T := TX2) (N := 6) hx hb hts i_X2 hown hK hP 4 rfl rfl 0 (by decide) f_6 (fun _ h9 => h9) rfl dX5_countOf_73 ?_
    rw [hQ]
    exact W.iret (v := nI (c_nf S)) hx hb hr (fun t9 ht9 hW9 => ⟨nI (c_nf S), rfl, rfl, ht9⟩) (fun q h => absurd h List.not_mem_nil) dX5_countOf_76
  · refine lv_tableIn (tgt := 77) hx hb dX5_countOf_1 (by decide) (by decide) rfl (by decide) ?_
    refine lv_aload_n hx hb dX5_countOf_77 rfl (lv_at hl 0 rfl) ?_
    refine va_get (D := (dC, dI)) (ci := 5) (v := .ref (a 4)) (C := RX5) (T := TX5) (N := 6) hx hb hts i_X5 hown hK hP 0 rfl rfl 3 (by decide) f_5 (fun _ h9 => h9) rfl dX5_countOf_78 ?_
    refine va_get (D := (dC, dI)) (ci := 2) (v := .int (nI (c_nm S))) (C := RX2) (T := TX2) (N := 6) hx hb hts i_X2 hown hK hP 4 rfl rfl 1 (by decide) f_7 (fun _ h9 => h9) rfl dX5_countOf_81 ?_
    rw [hQ]
    exact W.iret (v := nI (c_nm S)) hx hb hr (fun t9 ht9 hW9 => ⟨nI (c_nm S), rfl, rfl, ht9⟩) (fun q h => absurd h List.not_mem_nil) dX5_countOf_84
  · refine lv_tableOut (tgt := 85) hx hb dX5_countOf_1 (by decide) (by decide) ?_
    refine lv_aload_n hx hb dX5_countOf_85 rfl (lv_at hl 0 rfl) ?_
    refine va_get (D := (dC, dI)) (ci := 5) (v := .ref (a 5)) (C := RX5) (T := TX5) (N := 6) hx hb hts i_X5 hown hK hP 0 rfl rfl 4 (by decide) f_8 (fun _ h9 => h9) rfl dX5_countOf_86 ?_
    refine va_get (D := (dC, dI)) (ci := 0) (v := .int (nI (c_nb S))) (C := RX0) (T := TX0) (N := 3) hx hb hts i_X0 hown hK hP 5 rfl rfl 0 (by decide) f_9 (fun _ h9 => h9) rfl dX5_countOf_89 ?_
    rw [hQ]
    exact W.iret (v := nI (c_nb S)) hx hb hr (fun t9 ht9 hW9 => ⟨nI (c_nb S), rfl, rfl, ht9⟩) (fun q h => absurd h List.not_mem_nil) dX5_countOf_92
abbrev rm_X5_mixed : Room := { frames := 0, cells := 0, slots := 0, locals := 0 }
set_option maxHeartbeats 4000000 in
set_option maxRecDepth 100000 in
theorem c_X5_mixed (l : Launch) (d9 : Int64) (y9 : Int64) : Met l yX5_mixed wsX5_mixed rm_X5_mixed (va_Pc [.long d9, .long y9] (fun _ => True)) (vp_Sl (fun r => r = mix d9 y9)) 0 0 (fun _ => False) := by
  refine Met.ofW (cc := cX5_mixed) (maxL := 4) (ret := (some .long)) (by decide) rfl ?_
  intro p e s m args below meth c s₁ B hml hv
  obtain ⟨rfl, -⟩ := hv
  have hx := B.exec
  have hb := B.bytes
  have hr := B.returns
  have hts := atoms_spec (ws := wsX5_mixed) B.pre
  have hown : s.vm.findClass RX5 = some m.cls := findClass_of_methodNamed B.named
  have hlocks := B.notSynchronized
  obtain ⟨Q, hQ⟩ : ∃ Q, Q = MQ below (vp_Sl (fun r => r = mix d9 y9)) ([.long d9, .long y9] : List Value).toArray s 0 0 (fun _ => False) := ⟨_, rfl⟩
  show W p l e rm_X5_mixed s m _ below meth c s.heap [] 0 0 (MQ below _ _ _ _ _ _) _
  rw [← hQ]
  have f_0 := hts (.constantLong RX5 296 (31)) (by decide +kernel)
  have hl := lv_entry ([.long d9, .long y9]) (n := 4) (Nat.le_of_ble_eq_true rfl)
  rw [lg_entry_eq]
  generalize (lg_sl ([.long d9, .long y9]) ++ List.replicate (4 - (lg_sl ([.long d9, .long y9])).length) Slot.unset).toArray = ls at hl ⊢
  have hl : lv_has ls 4 [(0, .long d9), (2, .long y9)] := hl
  refine lv_lload_n hx hb dX5_mixed_0 rfl (lv_at hl 0 rfl) ?_
  refine lv_ldc2 hx hb hown f_0 dX5_mixed_1 ?_
  refine lv_lmul hx hb dX5_mixed_4 ?_
  refine lv_lload_n hx hb dX5_mixed_5 rfl (lv_at hl 1 rfl) ?_
  refine lv_ladd hx hb dX5_mixed_6 ?_
  rw [hQ]
  exact W.lret (v := (d9 * (31)) + y9) hx hb hr (fun t9 ht9 hW9 => ⟨(d9 * (31)) + y9, rfl, rfl, ht9⟩) (fun q h => absurd h List.not_mem_nil) dX5_mixed_7
abbrev rm_X5_withPeople : Room := { frames := 3, cells := 0, slots := 0, locals := 67 }
set_option maxHeartbeats 4000000 in
set_option maxRecDepth 100000 in
theorem c_X5_withPeople (l : Launch) (dC : Nat → ClassId) (dI : Nat → Nat → Nat) (a : Nat → Nat) (k : Nat → ClassId) (S : cs_S) (d9 : Int64) (hI : Inv S) : Met l yX5_withPeople wsX5_withPeople rm_X5_withPeople (va_Pc [.ref (a 0), .long d9] (cR dC dI (cb_w a k S) (cb_ty k))) (vp_Sl (fun r => r = mixS S (mixF (pts S) d9 (c_np S)) (c_ns S))) 0 0 (fun _ => False) := by
  refine Met.ofW (cc := cX5_withPeople) (maxL := 7) (ret := (some .long)) (by decide) rfl ?_
  intro p e s m args below meth c s₁ B hml hv
  obtain ⟨rfl, hP, hK⟩ := hv
  have hx := B.exec
  have hb := B.bytes
  have hr := B.returns
  have hts := atoms_spec (ws := wsX5_withPeople) B.pre
  have hown : s.vm.findClass RX5 = some m.cls := findClass_of_methodNamed B.named
  have hlocks := B.notSynchronized
  obtain ⟨Q, hQ⟩ : ∃ Q, Q = MQ below (vp_Sl (fun r => r = mixS S (mixF (pts S) d9 (c_np S)) (c_ns S))) ([.ref (a 0), .long d9] : List Value).toArray s 0 0 (fun _ => False) := ⟨_, rfl⟩
  show W p l e rm_X5_withPeople s m _ below meth c s.heap [] 0 0 (MQ below _ _ _ _ _ _) _
  rw [← hQ]
  have i_X1 : ∀ w ∈ wsX10, w ∈ wsX5_withPeople := fun w h => List.mem_cons_of_mem _ (List.mem_append_left _ (List.mem_append_right _ h))
  have i_X3 : ∀ w ∈ wsX30, w ∈ wsX5_withPeople := fun w h => List.mem_cons_of_mem _ (List.mem_append_left _ (List.mem_append_left _ (List.mem_append_right _ h)))
  have i_X5 : ∀ w ∈ wsX50, w ∈ wsX5_withPeople := fun w h => List.mem_cons_of_mem _ (List.mem_append_left _ (List.mem_append_left _ (List.mem_append_left _ (List.mem_append_right _ h))))
  obtain ⟨⟨hday, hnp, hns, hnt, hnf, hnm, hnb, hme⟩, hpat, hage, hten, hcnt, hplc, heat, hned, hhld, hbad, hbad0, hbag⟩ := id hI
  have f_0 := hts (.fieldLink RX5 10 "CampBook" "people" "LCampBook$People;") (by decide +kernel)
  have f_1 := hts (.fieldLink RX5 48 "CampBook$People" "patrols" "I") (by decide +kernel)
  have f_2 := hts (.fieldLink RX5 66 "CampBook$People" "scouts" "I") (by decide +kernel)
  have f_3 := hts (.fieldLink RX5 26 "CampBook" "duties" "LCampBook$Duties;") (by decide +kernel)
  have f_4 := hts (.fieldLink RX5 139 "CampBook$Duties" "points" "[I") (by decide +kernel)
  have hl := lv_entry ([.ref (a 0), .long d9]) (n := 7) (Nat.le_of_ble_eq_true rfl)
  rw [lg_entry_eq]
  generalize (lg_sl ([.ref (a 0), .long d9]) ++ List.replicate (7 - (lg_sl ([.ref (a 0), .long d9])).length) Slot.unset).toArray = ls at hl ⊢
  have hl : lv_has ls 7 [(0, .ref (a 0)), (1, .long d9)] := hl
  refine lv_lload_n hx hb dX5_withPeople_0 rfl (lv_at hl 1 rfl) ?_
  refine lv_lstore_n (lv' := [(3, .long d9), (0, .ref (a 0)), (1, .long d9)]) hx hb dX5_withPeople_1 rfl hl (by decide) rfl (fun ls hl => ?_)
  refine lv_iconst (v := nI 0) hx hb dX5_withPeople_2 (by decide) ?_
  refine lv_istore (lv' := [(5, .int (nI 0)), (3, .long d9), (0, .ref (a 0)), (1, .long d9)]) hx hb dX5_withPeople_3 hl (by decide) rfl (fun ls hl => ?_)
  have L_5 : ∀ (n i : Nat), i ≤ c_np S → c_np S + 1 ≤ i + n → ∀ (ls : Array Slot), lv_has ls 7 [(0, .ref (a 0)), (1, .long d9), (3, .long (mixF (pts S) d9 i)), (5, .int (nI i))] → W p l e rm_X5_withPeople s m ([.ref (a 0), .long d9] : List Value).toArray below meth c s.heap [] 0 0 Q (F0 m 5 ls []) := by
    intro n
    induction n with
    | zero => intro i h1 h2; exact absurd h2 (by omega)
    | succ n ih_5 =>
      intro i hle_5 hfu_5 ls hl
      refine lv_iload hx hb dX5_withPeople_5 (lv_at hl 3 rfl) ?_
      refine lv_aload_n hx hb dX5_withPeople_7 rfl (lv_at hl 0 rfl) ?_
      refine va_get (D := (dC, dI)) (ci := 5) (v := .ref (a 1)) (C := RX5) (T := TX5) (N := 6) hx hb hts i_X5 hown hK hP 0 rfl rfl 0 (by decide) f_0 (fun _ h9 => h9) rfl dX5_withPeople_8 ?_
      refine va_get (D := (dC, dI)) (ci := 3) (v := .int (nI (c_np S))) (C := RX3) (T := TX3) (N := 8) hx hb hts i_X3 hown hK hP 1 rfl rfl 0 (by decide) f_1 (fun _ h9 => h9) rfl dX5_withPeople_11 ?_
      refine lv_icmp_ge (tgt := 39) hx hb dX5_withPeople_14 (by decide) (fun c_14 => ?_) (fun c_14 => ?_)
      · have c_14 : (c_np S) ≤ i := cb_ge (by omega) (by omega) c_14
        have e_i : i = c_np S := by omega
        rw [e_i] at hl
        refine lv_iconst (v := nI 0) hx hb dX5_withPeople_39 (by decide) ?_
        refine lv_istore (lv' := [(5, .int (nI 0)), (0, .ref (a 0)), (1, .long d9), (3, .long (mixF (pts S) d9 (c_np S)))]) hx hb dX5_withPeople_40 hl (by decide) rfl (fun ls hl => ?_)
        have L_42 : ∀ (n u : Nat), u ≤ c_ns S → c_ns S + 1 ≤ u + n → ∀ (ls : Array Slot), lv_has ls 7 [(0, .ref (a 0)), (1, .long d9), (3, .long (mixS S (mixF (pts S) d9 (c_np S)) u)), (5, .int (nI u))] → W p l e rm_X5_withPeople s m ([.ref (a 0), .long d9] : List Value).toArray below meth c s.heap [] 0 0 Q (F0 m 42 ls []) := by
          intro n
          induction n with
          | zero => intro u h1 h2; exact absurd h2 (by omega)
          | succ n ih_42 =>
            intro u hle_42 hfu_42 ls hl
            refine lv_iload hx hb dX5_withPeople_42 (lv_at hl 3 rfl) ?_
            refine lv_aload_n hx hb dX5_withPeople_44 rfl (lv_at hl 0 rfl) ?_
            refine va_get (D := (dC, dI)) (ci := 5) (v := .ref (a 1)) (C := RX5) (T := TX5) (N := 6) hx hb hts i_X5 hown hK hP 0 rfl rfl 0 (by decide) f_0 (fun _ h9 => h9) rfl dX5_withPeople_45 ?_
            refine va_get (D := (dC, dI)) (ci := 3) (v := .int (nI (c_ns S))) (C := RX3) (T := TX3) (N := 8) hx hb hts i_X3 hown hK hP 1 rfl rfl 1 (by decide) f_2 (fun _ h9 => h9) rfl dX5_withPeople_48 ?_
            refine lv_icmp_ge (tgt := 90) hx hb dX5_withPeople_51 (by decide) (fun c_51 => ?_) (fun c_51 => ?_)
            · have c_51 : (c_ns S) ≤ u := cb_ge (by omega) (by omega) c_51
              refine lv_lload_n hx hb dX5_withPeople_90 rfl (lv_at hl 2 rfl) ?_
              rw [hQ]
              exact W.lret (v := mixS S (mixF (pts S) d9 (c_np S)) u) hx hb hr (fun t9 ht9 hW9 => ⟨mixS S (mixF (pts S) d9 (c_np S)) u, rfl, (by rw [show u = c_ns S by omega]), ht9⟩) (fun q h => absurd h List.not_mem_nil) dX5_withPeople_91
            · have c_51 : u < (c_ns S) := cb_nge (by omega) (by omega) c_51
              refine lv_iconst (v := nI 0) hx hb dX5_withPeople_54 (by decide) ?_
              refine lv_istore (lv' := [(6, .int (nI 0)), (0, .ref (a 0)), (1, .long d9), (3, .long (mixS S (mixF (pts S) d9 (c_np S)) u)), (5, .int (nI u))]) hx hb dX5_withPeople_55 hl (by decide) rfl (fun ls hl => ?_)
              have L_57 : ∀ (n j : Nat), j ≤ 7 → 7 + 1 ≤ j + n → ∀ (ls : Array Slot), lv_has ls 7 [(0, .ref (a 0)), (1, .long d9), (3, .long (mixF (fct S u) (mixS S (mixF (pts S) d9 (c_np S)) u) j)), (5, .int (nI u)), (6, .int (nI j))] → W p l e rm_X5_withPeople s m ([.ref (a 0), .long d9] : List Value).toArray below meth c s.heap [] 0 0 Q (F0 m 57 ls []) := by
                intro n
                induction n with
                | zero => intro j h1 h2; exact absurd h2 (by omega)
                | succ n ih_57 =>
                  intro j hle_57 hfu_57 ls hl
                  refine lv_iload hx hb dX5_withPeople_57 (lv_at hl 4 rfl) ?_
                  refine lv_bipush (v := nI 7) hx hb dX5_withPeople_59 (by decide) ?_
                  refine lv_icmp_ge (tgt := 84) hx hb dX5_withPeople_61 (by decide) (fun c_61 => ?_) (fun c_61 => ?_)
                  · have c_61 : 7 ≤ j := cb_ge (by omega) (by omega) c_61
                    have e_j : j = 7 := by omega
                    rw [e_j] at hl
                    refine lv_iinc (v := nI (u + 1)) (lv' := [(5, .int (nI (u + 1))), (0, .ref (a 0)), (1, .long d9), (3, .long (mixF (fct S u) (mixS S (mixF (pts S) d9 (c_np S)) u) 7)), (6, .int (nI 7))]) hx hb dX5_withPeople_84 hl (k := 3) rfl (nI_1 _) (by decide) rfl (fun ls hl => ?_)
                    refine lv_goto (tgt := 42) hx hb dX5_withPeople_87 (by decide) ?_
                    have hl : lv_has ls 7 [(5, .int (nI (u + 1))), (0, .ref (a 0)), (1, .long d9), (3, .long (mixS S (mixF (pts S) d9 (c_np S)) (u + 1))), (6, .int (nI 7))] := cb_loc hl (e := Value.long (mixS S (mixF (pts S) d9 (c_np S)) (u + 1))) 3 rfl (congrArg Value.long (show mixF (fct S u) (mixS S (mixF (pts S) d9 (c_np S)) u) 7 = mixS S (mixF (pts S) d9 (c_np S)) (u + 1) from mixS_s))
                    exact ih_42 (u + 1) (by omega) (by omega) ls (lv_sub hl [1, 2, 3, 0] rfl)
                  · have c_61 : j < 7 := cb_nge (by omega) (by omega) c_61
                    refine lv_lload_n hx hb dX5_withPeople_64 rfl (lv_at hl 2 rfl) ?_
                    refine lv_aload_n hx hb dX5_withPeople_65 rfl (lv_at hl 0 rfl) ?_
                    refine lv_iload hx hb dX5_withPeople_66 (lv_at hl 3 rfl) ?_
                    refine lv_iload hx hb dX5_withPeople_68 (lv_at hl 4 rfl) ?_
                    refine vp_callSi (W.runV (As := [.int (nI u), .int (nI j)]) (rest := [.long (mixF (fct S u) (mixS S (mixF (pts S) d9 (c_np S)) u) j)]) ⟨hx, hb, hml, hown, hts⟩ (c_X5_factOf l dC dI a k S u j (by omega) (by omega) hI) (cwV 2 hts gX5_withPeople_X5_factOf rfl rfl rfl (by decide +kernel) ⟨(Nat.le_of_ble_eq_true rfl), (Nat.le_of_ble_eq_true rfl)⟩) ⟨cR_blind, va_recv hK hP (ci := 5) (q0 := 0) rfl rfl, fun U hU hW => ⟨rfl, cR_of hK hP hU hW⟩⟩ rfl rfl hl.1 rfl (lv_room (Nat.le_of_ble_eq_true rfl)) dX5_withPeople_70 ⟨(Nat.le_of_ble_eq_true rfl), (Nat.le_of_ble_eq_true rfl)⟩) (fun r er => ?_)
                    subst er
                    refine lv_i2l hx hb dX5_withPeople_73 rfl ?_
                    refine vp_callSl (W.runS (As := [.long (mixF (fct S u) (mixS S (mixF (pts S) d9 (c_np S)) u) j), .long ((fct S u j).toInt64)]) (rest := []) ⟨hx, hb, hml, hown, hts⟩ (c_X5_mixed l (mixF (fct S u) (mixS S (mixF (pts S) d9 (c_np S)) u) j) ((fct S u j).toInt64)) (va_cwS 2 hts gX5_withPeople_X5_mixed rfl rfl rfl (by decide +kernel) ⟨(Nat.le_of_ble_eq_true rfl), (Nat.le_of_ble_eq_true rfl)⟩) ⟨cN_blind, fun U hU hW => ⟨rfl, trivial⟩⟩ rfl rfl hl.1 rfl (lv_room (Nat.le_of_ble_eq_true rfl)) dX5_withPeople_74 ⟨(Nat.le_of_ble_eq_true rfl), (Nat.le_of_ble_eq_true rfl)⟩) (fun r er => ?_)
                    subst er
                    refine lv_lstore_n (lv' := [(3, .long (mix (mixF (fct S u) (mixS S (mixF (pts S) d9 (c_np S)) u) j) ((fct S u j).toInt64))), (0, .ref (a 0)), (1, .long d9), (5, .int (nI u)), (6, .int (nI j))]) hx hb dX5_withPeople_77 rfl hl (by decide) rfl (fun ls hl => ?_)
                    refine lv_iinc (v := nI (j + 1)) (lv' := [(6, .int (nI (j + 1))), (3, .long (mix (mixF (fct S u) (mixS S (mixF (pts S) d9 (c_np S)) u) j) ((fct S u j).toInt64))), (0, .ref (a 0)), (1, .long d9), (5, .int (nI u))]) hx hb dX5_withPeople_78 hl (k := 4) rfl (nI_1 _) (by decide) rfl (fun ls hl => ?_)
                    refine lv_goto (tgt := 57) hx hb dX5_withPeople_81 (by decide) ?_
                    have hl : lv_has ls 7 [(6, .int (nI (j + 1))), (3, .long (mixF (fct S u) (mixS S (mixF (pts S) d9 (c_np S)) u) (j + 1))), (0, .ref (a 0)), (1, .long d9), (5, .int (nI u))] := cb_loc hl (e := Value.long (mixF (fct S u) (mixS S (mixF (pts S) d9 (c_np S)) u) (j + 1))) 1 rfl (congrArg Value.long (show mix (mixF (fct S u) (mixS S (mixF (pts S) d9 (c_np S)) u) j) ((fct S u j).toInt64) = mixF (fct S u) (mixS S (mixF (pts S) d9 (c_np S)) u) (j + 1) from rfl))
                    exact ih_57 (j + 1) (by omega) (by omega) ls (lv_sub hl [2, 3, 1, 4, 0] rfl)
              have hl : lv_has ls 7 [(6, .int (nI 0)), (0, .ref (a 0)), (1, .long d9), (3, .long (mixF (fct S u) (mixS S (mixF (pts S) d9 (c_np S)) u) 0)), (5, .int (nI u))] := cb_loc hl (e := Value.long (mixF (fct S u) (mixS S (mixF (pts S) d9 (c_np S)) u) 0)) 3 rfl (congrArg Value.long (show mixS S (mixF (pts S) d9 (c_np S)) u = mixF (fct S u) (mixS S (mixF (pts S) d9 (c_np S)) u) 0 from rfl))
              exact L_57 (7 + 1) 0 (by omega) (by omega) ls (lv_sub hl [1, 2, 3, 4, 0] rfl)
        have hl : lv_has ls 7 [(5, .int (nI 0)), (0, .ref (a 0)), (1, .long d9), (3, .long (mixS S (mixF (pts S) d9 (c_np S)) 0))] := cb_loc hl (e := Value.long (mixS S (mixF (pts S) d9 (c_np S)) 0)) 3 rfl (congrArg Value.long (show mixF (pts S) d9 (c_np S) = mixS S (mixF (pts S) d9 (c_np S)) 0 from rfl))
        exact L_42 (c_ns S + 1) 0 (by omega) (by omega) ls (lv_sub hl [1, 2, 3, 0] rfl)
      · have c_14 : i < (c_np S) := cb_nge (by omega) (by omega) c_14
        refine lv_lload_n hx hb dX5_withPeople_17 rfl (lv_at hl 2 rfl) ?_
        refine lv_aload_n hx hb dX5_withPeople_18 rfl (lv_at hl 0 rfl) ?_
        refine va_get (D := (dC, dI)) (ci := 5) (v := .ref (a 3)) (C := RX5) (T := TX5) (N := 6) hx hb hts i_X5 hown hK hP 0 rfl rfl 2 (by decide) f_3 (fun _ h9 => h9) rfl dX5_withPeople_19 ?_
        refine va_get (D := (dC, dI)) (ci := 1) (v := .ref (a 15)) (C := RX1) (T := TX1) (N := 2) hx hb hts i_X1 hown hK hP 3 rfl rfl 1 (by decide) f_4 (fun _ h9 => h9) rfl dX5_withPeople_22 ?_
        refine lv_iload hx hb dX5_withPeople_25 (lv_at hl 3 rfl) ?_
        refine cb_iald hx hb hK hP 15 9 (f := c_pt S) rfl rfl (j := i) (by omega) (Nat.le_of_ble_eq_true rfl) dX5_withPeople_27 ?_
        refine cb_topi (z := pts S i) (c_pt_at (by omega)) ?_
        refine lv_i2l hx hb dX5_withPeople_28 rfl ?_
        refine vp_callSl (W.runS (As := [.long (mixF (pts S) d9 i), .long ((pts S i).toInt64)]) (rest := []) ⟨hx, hb, hml, hown, hts⟩ (c_X5_mixed l (mixF (pts S) d9 i) ((pts S i).toInt64)) (va_cwS 2 hts gX5_withPeople_X5_mixed rfl rfl rfl (by decide +kernel) ⟨(Nat.le_of_ble_eq_true rfl), (Nat.le_of_ble_eq_true rfl)⟩) ⟨cN_blind, fun U hU hW => ⟨rfl, trivial⟩⟩ rfl rfl hl.1 rfl (lv_room (Nat.le_of_ble_eq_true rfl)) dX5_withPeople_29 ⟨(Nat.le_of_ble_eq_true rfl), (Nat.le_of_ble_eq_true rfl)⟩) (fun r er => ?_)
        subst er
        refine lv_lstore_n (lv' := [(3, .long (mix (mixF (pts S) d9 i) ((pts S i).toInt64))), (0, .ref (a 0)), (1, .long d9), (5, .int (nI i))]) hx hb dX5_withPeople_32 rfl hl (by decide) rfl (fun ls hl => ?_)
        refine lv_iinc (v := nI (i + 1)) (lv' := [(5, .int (nI (i + 1))), (3, .long (mix (mixF (pts S) d9 i) ((pts S i).toInt64))), (0, .ref (a 0)), (1, .long d9)]) hx hb dX5_withPeople_33 hl (k := 3) rfl (nI_1 _) (by decide) rfl (fun ls hl => ?_)
        refine lv_goto (tgt := 5) hx hb dX5_withPeople_36 (by decide) ?_
        have hl : lv_has ls 7 [(5, .int (nI (i + 1))), (3, .long (mixF (pts S) d9 (i + 1))), (0, .ref (a 0)), (1, .long d9)] := cb_loc hl (e := Value.long (mixF (pts S) d9 (i + 1))) 1 rfl (congrArg Value.long (show mix (mixF (pts S) d9 i) ((pts S i).toInt64) = mixF (pts S) d9 (i + 1) from rfl))
        exact ih_5 (i + 1) (by omega) (by omega) ls (lv_sub hl [2, 3, 1, 0] rfl)
  have hl : lv_has ls 7 [(5, .int (nI 0)), (3, .long (mixF (pts S) d9 0)), (0, .ref (a 0)), (1, .long d9)] := cb_loc hl (e := Value.long (mixF (pts S) d9 0)) 1 rfl (congrArg Value.long (show d9 = mixF (pts S) d9 0 from rfl))
  exact L_5 (c_np S + 1) 0 (by omega) (by omega) ls (lv_sub hl [2, 3, 1, 0] rfl)
abbrev rm_X5_withKitchen : Room := { frames := 3, cells := 0, slots := 0, locals := 71 }
set_option maxHeartbeats 4000000 in
set_option maxRecDepth 100000 in
theorem c_X5_withKitchen (l : Launch) (dC : Nat → ClassId) (dI : Nat → Nat → Nat) (a : Nat → Nat) (k : Nat → ClassId) (S : cs_S) (d9 : Int64) (hI : Inv S) : Met l yX5_withKitchen wsX5_withKitchen rm_X5_withKitchen (va_Pc [.ref (a 0), .long d9] (cR dC dI (cb_w a k S) (cb_ty k))) (vp_Sl (fun r => r = mixG (setE S) (mixF (c_sto S) d9 (c_nf S)) (c_nm S))) 0 0 (fun _ => False) := by
  refine Met.ofW (cc := cX5_withKitchen) (maxL := 6) (ret := (some .long)) (by decide) rfl ?_
  intro p e s m args below meth c s₁ B hml hv
  obtain ⟨rfl, hP, hK⟩ := hv
  have hx := B.exec
  have hb := B.bytes
  have hr := B.returns
  have hts := atoms_spec (ws := wsX5_withKitchen) B.pre
  have hown : s.vm.findClass RX5 = some m.cls := findClass_of_methodNamed B.named
  have hlocks := B.notSynchronized
  obtain ⟨Q, hQ⟩ : ∃ Q, Q = MQ below (vp_Sl (fun r => r = mixG (setE S) (mixF (c_sto S) d9 (c_nf S)) (c_nm S))) ([.ref (a 0), .long d9] : List Value).toArray s 0 0 (fun _ => False) := ⟨_, rfl⟩
  show W p l e rm_X5_withKitchen s m _ below meth c s.heap [] 0 0 (MQ below _ _ _ _ _ _) _
  rw [← hQ]
  have i_X2 : ∀ w ∈ wsX20, w ∈ wsX5_withKitchen := fun w h => List.mem_cons_of_mem _ (List.mem_append_left _ (List.mem_append_right _ h))
  have i_X5 : ∀ w ∈ wsX50, w ∈ wsX5_withKitchen := fun w h => List.mem_cons_of_mem _ (List.mem_append_left _ (List.mem_append_left _ (List.mem_append_right _ h)))
  obtain ⟨⟨hday, hnp, hns, hnt, hnf, hnm, hnb, hme⟩, hpat, hage, hten, hcnt, hplc, heat, hned, hhld, hbad, hbad0, hbag⟩ := id hI
  have f_0 := hts (.fieldLink RX5 33 "CampBook" "kitchen" "LCampBook$Kitchen;") (by decide +kernel)
  have f_1 := hts (.fieldLink RX5 151 "CampBook$Kitchen" "foods" "I") (by decide +kernel)
  have f_2 := hts (.fieldLink RX5 164 "CampBook$Kitchen" "meals" "I") (by decide +kernel)
  have f_3 := hts (.fieldLink RX5 10 "CampBook" "people" "LCampBook$People;") (by decide +kernel)
  have f_4 := hts (.fieldLink RX5 156 "CampBook$Kitchen" "stores" "[I") (by decide +kernel)
  have hl := lv_entry ([.ref (a 0), .long d9]) (n := 6) (Nat.le_of_ble_eq_true rfl)
  rw [lg_entry_eq]
  generalize (lg_sl ([.ref (a 0), .long d9]) ++ List.replicate (6 - (lg_sl ([.ref (a 0), .long d9])).length) Slot.unset).toArray = ls at hl ⊢
  have hl : lv_has ls 6 [(0, .ref (a 0)), (1, .long d9)] := hl
  refine lv_lload_n hx hb dX5_withKitchen_0 rfl (lv_at hl 1 rfl) ?_
  refine lv_lstore_n (lv' := [(3, .long d9), (0, .ref (a 0)), (1, .long d9)]) hx hb dX5_withKitchen_1 rfl hl (by decide) rfl (fun ls hl => ?_)
  refine lv_iconst (v := nI 0) hx hb dX5_withKitchen_2 (by decide) ?_
  refine lv_istore (lv' := [(5, .int (nI 0)), (3, .long d9), (0, .ref (a 0)), (1, .long d9)]) hx hb dX5_withKitchen_3 hl (by decide) rfl (fun ls hl => ?_)
  have L_5 : ∀ (n i : Nat), i ≤ c_nf S → c_nf S + 1 ≤ i + n → ∀ (ls : Array Slot), lv_has ls 6 [(0, .ref (a 0)), (1, .long d9), (3, .long (mixF (c_sto S) d9 i)), (5, .int (nI i))] → W p l e rm_X5_withKitchen s m ([.ref (a 0), .long d9] : List Value).toArray below meth c s.heap [] 0 0 Q (F0 m 5 ls []) := by
    intro n
    induction n with
    | zero => intro i h1 h2; exact absurd h2 (by omega)
    | succ n ih_5 =>
      intro i hle_5 hfu_5 ls hl
      refine lv_iload hx hb dX5_withKitchen_5 (lv_at hl 3 rfl) ?_
      refine lv_aload_n hx hb dX5_withKitchen_7 rfl (lv_at hl 0 rfl) ?_
      refine va_get (D := (dC, dI)) (ci := 5) (v := .ref (a 4)) (C := RX5) (T := TX5) (N := 6) hx hb hts i_X5 hown hK hP 0 rfl rfl 3 (by decide) f_0 (fun _ h9 => h9) rfl dX5_withKitchen_8 ?_
      refine va_get (D := (dC, dI)) (ci := 2) (v := .int (nI (c_nf S))) (C := RX2) (T := TX2) (N := 6) hx hb hts i_X2 hown hK hP 4 rfl rfl 0 (by decide) f_1 (fun _ h9 => h9) rfl dX5_withKitchen_11 ?_
      refine lv_icmp_ge (tgt := 39) hx hb dX5_withKitchen_14 (by decide) (fun c_14 => ?_) (fun c_14 => ?_)
      · have c_14 : (c_nf S) ≤ i := cb_ge (by omega) (by omega) c_14
        have e_i : i = c_nf S := by omega
        rw [e_i] at hl
        refine lv_iconst (v := nI 0) hx hb dX5_withKitchen_39 (by decide) ?_
        refine lv_istore (lv' := [(5, .int (nI 0)), (0, .ref (a 0)), (1, .long d9), (3, .long (mixF (c_sto S) d9 (c_nf S)))]) hx hb dX5_withKitchen_40 hl (by decide) rfl (fun ls hl => ?_)
        have L_42 : ∀ (n j : Nat), j ≤ c_nm S → c_nm S + 1 ≤ j + n → ∀ (ls : Array Slot), lv_has ls 6 [(0, .ref (a 0)), (1, .long d9), (3, .long (mixG (setE S) (mixF (c_sto S) d9 (c_nf S)) j)), (5, .int (nI j))] → W p l e rm_X5_withKitchen s m ([.ref (a 0), .long d9] : List Value).toArray below meth c s.heap [] 0 0 Q (F0 m 42 ls []) := by
          intro n
          induction n with
          | zero => intro j h1 h2; exact absurd h2 (by omega)
          | succ n ih_42 =>
            intro j hle_42 hfu_42 ls hl
            refine lv_iload hx hb dX5_withKitchen_42 (lv_at hl 3 rfl) ?_
            refine lv_aload_n hx hb dX5_withKitchen_44 rfl (lv_at hl 0 rfl) ?_
            refine va_get (D := (dC, dI)) (ci := 5) (v := .ref (a 4)) (C := RX5) (T := TX5) (N := 6) hx hb hts i_X5 hown hK hP 0 rfl rfl 3 (by decide) f_0 (fun _ h9 => h9) rfl dX5_withKitchen_45 ?_
            refine va_get (D := (dC, dI)) (ci := 2) (v := .int (nI (c_nm S))) (C := RX2) (T := TX2) (N := 6) hx hb hts i_X2 hown hK hP 4 rfl rfl 1 (by decide) f_2 (fun _ h9 => h9) rfl dX5_withKitchen_48 ?_
            refine lv_icmp_ge (tgt := 78) hx hb dX5_withKitchen_51 (by decide) (fun c_51 => ?_) (fun c_51 => ?_)
            · have c_51 : (c_nm S) ≤ j := cb_ge (by omega) (by omega) c_51
              refine lv_lload_n hx hb dX5_withKitchen_78 rfl (lv_at hl 2 rfl) ?_
              rw [hQ]
              exact W.lret (v := mixG (setE S) (mixF (c_sto S) d9 (c_nf S)) j) hx hb hr (fun t9 ht9 hW9 => ⟨mixG (setE S) (mixF (c_sto S) d9 (c_nf S)) j, rfl, (by rw [show j = c_nm S by omega]), ht9⟩) (fun q h => absurd h List.not_mem_nil) dX5_withKitchen_79
            · have c_51 : j < (c_nm S) := cb_nge (by omega) (by omega) c_51
              refine lv_lload_n hx hb dX5_withKitchen_54 rfl (lv_at hl 2 rfl) ?_
              refine lv_aload_n hx hb dX5_withKitchen_55 rfl (lv_at hl 0 rfl) ?_
              refine va_get (D := (dC, dI)) (ci := 5) (v := .ref (a 4)) (C := RX5) (T := TX5) (N := 6) hx hb hts i_X5 hown hK hP 0 rfl rfl 3 (by decide) f_0 (fun _ h9 => h9) rfl dX5_withKitchen_56 ?_
              refine lv_iload hx hb dX5_withKitchen_59 (lv_at hl 3 rfl) ?_
              refine lv_aload_n hx hb dX5_withKitchen_61 rfl (lv_at hl 0 rfl) ?_
              refine va_get (D := (dC, dI)) (ci := 5) (v := .ref (a 1)) (C := RX5) (T := TX5) (N := 6) hx hb hts i_X5 hown hK hP 0 rfl rfl 0 (by decide) f_3 (fun _ h9 => h9) rfl dX5_withKitchen_62 ?_
              refine vp_callSl (W.runV (As := [.int (nI j), .ref (a 1)]) (rest := [.long (mixG (setE S) (mixF (c_sto S) d9 (c_nf S)) j)]) ⟨hx, hb, hml, hown, hts⟩ (c_X2_eatersOf l dC dI a k S j (by omega) hI) (cwV 2 hts gX5_withKitchen_X2_eatersOf rfl rfl rfl (by decide +kernel) ⟨(Nat.le_of_ble_eq_true rfl), (Nat.le_of_ble_eq_true rfl)⟩) ⟨cR_blind, va_recv hK hP (ci := 2) (q0 := 4) rfl rfl, fun U hU hW => ⟨rfl, cR_of hK hP hU hW⟩⟩ rfl rfl hl.1 rfl (lv_room (Nat.le_of_ble_eq_true rfl)) dX5_withKitchen_65 ⟨(Nat.le_of_ble_eq_true rfl), (Nat.le_of_ble_eq_true rfl)⟩) (fun r er => ?_)
              subst er
              refine vp_callSl (W.runS (As := [.long (mixG (setE S) (mixF (c_sto S) d9 (c_nf S)) j), .long (lN (bs (canE S j) (c_ns S)))]) (rest := []) ⟨hx, hb, hml, hown, hts⟩ (c_X5_mixed l (mixG (setE S) (mixF (c_sto S) d9 (c_nf S)) j) (lN (bs (canE S j) (c_ns S)))) (va_cwS 2 hts gX5_withKitchen_X5_mixed rfl rfl rfl (by decide +kernel) ⟨(Nat.le_of_ble_eq_true rfl), (Nat.le_of_ble_eq_true rfl)⟩) ⟨cN_blind, fun U hU hW => ⟨rfl, trivial⟩⟩ rfl rfl hl.1 rfl (lv_room (Nat.le_of_ble_eq_true rfl)) dX5_withKitchen_68 ⟨(Nat.le_of_ble_eq_true rfl), (Nat.le_of_ble_eq_true rfl)⟩) (fun r er => ?_)
              subst er
              refine lv_lstore_n (lv' := [(3, .long (mix (mixG (setE S) (mixF (c_sto S) d9 (c_nf S)) j) (lN (bs (canE S j) (c_ns S))))), (0, .ref (a 0)), (1, .long d9), (5, .int (nI j))]) hx hb dX5_withKitchen_71 rfl hl (by decide) rfl (fun ls hl => ?_)
              refine lv_iinc (v := nI (j + 1)) (lv' := [(5, .int (nI (j + 1))), (3, .long (mix (mixG (setE S) (mixF (c_sto S) d9 (c_nf S)) j) (lN (bs (canE S j) (c_ns S))))), (0, .ref (a 0)), (1, .long d9)]) hx hb dX5_withKitchen_72 hl (k := 3) rfl (nI_1 _) (by decide) rfl (fun ls hl => ?_)
              refine lv_goto (tgt := 42) hx hb dX5_withKitchen_75 (by decide) ?_
              have hl : lv_has ls 6 [(5, .int (nI (j + 1))), (3, .long (mixG (setE S) (mixF (c_sto S) d9 (c_nf S)) (j + 1))), (0, .ref (a 0)), (1, .long d9)] := cb_loc hl (e := Value.long (mixG (setE S) (mixF (c_sto S) d9 (c_nf S)) (j + 1))) 1 rfl (congrArg Value.long (show mix (mixG (setE S) (mixF (c_sto S) d9 (c_nf S)) j) (lN (bs (canE S j) (c_ns S))) = mixG (setE S) (mixF (c_sto S) d9 (c_nf S)) (j + 1) from rfl))
              exact ih_42 (j + 1) (by omega) (by omega) ls (lv_sub hl [2, 3, 1, 0] rfl)
        have hl : lv_has ls 6 [(5, .int (nI 0)), (0, .ref (a 0)), (1, .long d9), (3, .long (mixG (setE S) (mixF (c_sto S) d9 (c_nf S)) 0))] := cb_loc hl (e := Value.long (mixG (setE S) (mixF (c_sto S) d9 (c_nf S)) 0)) 3 rfl (congrArg Value.long (show mixF (c_sto S) d9 (c_nf S) = mixG (setE S) (mixF (c_sto S) d9 (c_nf S)) 0 from rfl))
        exact L_42 (c_nm S + 1) 0 (by omega) (by omega) ls (lv_sub hl [1, 2, 3, 0] rfl)
      · have c_14 : i < (c_nf S) := cb_nge (by omega) (by omega) c_14
        refine lv_lload_n hx hb dX5_withKitchen_17 rfl (lv_at hl 2 rfl) ?_
        refine lv_aload_n hx hb dX5_withKitchen_18 rfl (lv_at hl 0 rfl) ?_
        refine va_get (D := (dC, dI)) (ci := 5) (v := .ref (a 4)) (C := RX5) (T := TX5) (N := 6) hx hb hts i_X5 hown hK hP 0 rfl rfl 3 (by decide) f_0 (fun _ h9 => h9) rfl dX5_withKitchen_19 ?_
        refine va_get (D := (dC, dI)) (ci := 2) (v := .ref (a 16)) (C := RX2) (T := TX2) (N := 6) hx hb hts i_X2 hown hK hP 4 rfl rfl 4 (by decide) f_4 (fun _ h9 => h9) rfl dX5_withKitchen_22 ?_
        refine lv_iload hx hb dX5_withKitchen_25 (lv_at hl 3 rfl) ?_
        refine cb_iald hx hb hK hP 16 10 (f := c_sto S) rfl rfl (j := i) (by omega) (Nat.le_of_ble_eq_true rfl) dX5_withKitchen_27 ?_
        refine lv_i2l hx hb dX5_withKitchen_28 rfl ?_
        refine vp_callSl (W.runS (As := [.long (mixF (c_sto S) d9 i), .long ((c_sto S i).toInt64)]) (rest := []) ⟨hx, hb, hml, hown, hts⟩ (c_X5_mixed l (mixF (c_sto S) d9 i) ((c_sto S i).toInt64)) (va_cwS 2 hts gX5_withKitchen_X5_mixed rfl rfl rfl (by decide +kernel) ⟨(Nat.le_of_ble_eq_true rfl), (Nat.le_of_ble_eq_true rfl)⟩) ⟨cN_blind, fun U hU hW => ⟨rfl, trivial⟩⟩ rfl rfl hl.1 rfl (lv_room (Nat.le_of_ble_eq_true rfl)) dX5_withKitchen_29 ⟨(Nat.le_of_ble_eq_true rfl), (Nat.le_of_ble_eq_true rfl)⟩) (fun r er => ?_)
        subst er
        refine lv_lstore_n (lv' := [(3, .long (mix (mixF (c_sto S) d9 i) ((c_sto S i).toInt64))), (0, .ref (a 0)), (1, .long d9), (5, .int (nI i))]) hx hb dX5_withKitchen_32 rfl hl (by decide) rfl (fun ls hl => ?_)
        refine lv_iinc (v := nI (i + 1)) (lv' := [(5, .int (nI (i + 1))), (3, .long (mix (mixF (c_sto S) d9 i) ((c_sto S i).toInt64))), (0, .ref (a 0)), (1, .long d9)]) hx hb dX5_withKitchen_33 hl (k := 3) rfl (nI_1 _) (by decide) rfl (fun ls hl => ?_)
        refine lv_goto (tgt := 5) hx hb dX5_withKitchen_36 (by decide) ?_
        have hl : lv_has ls 6 [(5, .int (nI (i + 1))), (3, .long (mixF (c_sto S) d9 (i + 1))), (0, .ref (a 0)), (1, .long d9)] := cb_loc hl (e := Value.long (mixF (c_sto S) d9 (i + 1))) 1 rfl (congrArg Value.long (show mix (mixF (c_sto S) d9 i) ((c_sto S i).toInt64) = mixF (c_sto S) d9 (i + 1) from rfl))
        exact ih_5 (i + 1) (by omega) (by omega) ls (lv_sub hl [2, 3, 1, 0] rfl)
  have hl : lv_has ls 6 [(5, .int (nI 0)), (3, .long (mixF (c_sto S) d9 0)), (0, .ref (a 0)), (1, .long d9)] := cb_loc hl (e := Value.long (mixF (c_sto S) d9 0)) 1 rfl (congrArg Value.long (show d9 = mixF (c_sto S) d9 0 from rfl))
  exact L_5 (c_nf S + 1) 0 (by omega) (by omega) ls (lv_sub hl [2, 3, 1, 0] rfl)
end CBM
