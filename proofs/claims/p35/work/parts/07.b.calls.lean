section CBM
abbrev rm_X5_addPatrol : Room := { frames := 6, cells := 8, slots := 48, locals := 90 }
set_option maxHeartbeats 4000000 in
set_option maxRecDepth 100000 in
theorem c_X5_addPatrol (l : Launch) (hl9 : l.stackTraces = false) (dC : Nat → ClassId) (dI : Nat → Nat → Nat) (a : Nat → Nat) (k : Nat → ClassId) (S : cs_S) (sz : Nat) (hI : Inv S) : vx_Met l yX5_addPatrol wsX5_addPatrol rm_X5_addPatrol (va_Pc [.ref (a 0)] (cU dC dI sz (cb_w a k S) (cb_ty k))) (va_Qi (fun (r : Int32) (_ : Unit) => k_addPatrol S = 0 ∧ r = nI (c_np S)) (fun _ t => cB dC dI (va_A (cb_w a k S) sz) (cb_w a k (S_addPatrol S)) (cb_ty k) t) (va_A (cb_w a k S) sz)) (cX dC dI (cb_w a k S) (cb_ty k) (va_A (cb_w a k S) sz) (fun E => px [xE_S] (k_addPatrol S) E)) 8 48 (va_A (cb_w a k S) sz) := by
  refine vx_ofW (cc := cX5_addPatrol) (maxL := 1) (ret := (some .int)) (by decide) rfl ?_
  intro p e s m args below meth c s₁ B hml htab hv
  obtain ⟨rfl, ⟨hsz, hP, hK, hD0⟩, hE⟩ := hv
  have hx := B.exec
  have hb := B.bytes
  have hr := B.returns
  have hts := atoms_spec (ws := wsX5_addPatrol) B.pre
  have hown : s.vm.findClass RX5 = some m.cls := findClass_of_methodNamed B.named
  have hlocks := B.notSynchronized
  subst hsz
  have hD := hD0.self (sz := s.heap.size)
  generalize hAe : va_A (cb_w a k S) s.heap.size = A at hD hE ⊢
  have hA : ∀ q : Nat, s.heap.size ≤ q → A q := fun q h => by rw [← hAe]; exact Or.inr h
  have hS : va_S A s.heap s.heap [] := va_S.rf
  obtain ⟨Q, hQ⟩ : ∃ Q, Q = vx_MQ below (va_Qi (fun (r : Int32) (_ : Unit) => k_addPatrol S = 0 ∧ r = nI (c_np S)) (fun _ t => cB dC dI A (cb_w a k (S_addPatrol S)) (cb_ty k) t) A) (cX dC dI (cb_w a k S) (cb_ty k) A (fun E => px [xE_S] (k_addPatrol S) E)) ([.ref (a 0)] : List Value).toArray s 8 48 A := ⟨_, rfl⟩
  show W p l e rm_X5_addPatrol s m _ below meth c s.heap [] 0 0 (vx_MQ below _ _ _ _ _ _ _) _
  rw [← hQ]
  have i_X3 : ∀ w ∈ wsX30, w ∈ wsX5_addPatrol := fun w h => List.mem_cons_of_mem _ (List.mem_append_left _ (List.mem_append_right _ h))
  have i_X5 : ∀ w ∈ wsX50, w ∈ wsX5_addPatrol := fun w h => List.mem_cons_of_mem _ (List.mem_append_left _ (List.mem_append_left _ (List.mem_append_right _ h)))
  obtain ⟨⟨hday, hnp, hns, hnt, hnf, hnm, hnb, hme⟩, hpat, hage, hten, hcnt, hplc, heat, hned, hhld, hbad, hbad0, hbag⟩ := id hI
  have f_0 := hts (.fieldLink RX5 10 "CampBook" "people" "LCampBook$People;") (by decide +kernel)
  have f_1 := hts (.fieldLink RX5 48 "CampBook$People" "patrols" "I") (by decide +kernel)
  have f_2 := hts (.classLink RX5 51 "java/lang/IllegalStateException") (by decide +kernel)
  have f_3 := hts (.initialized "java/lang/IllegalStateException") (by decide +kernel)
  have hl := lv_entry ([.ref (a 0)]) (n := 1) (Nat.le_of_ble_eq_true rfl)
  rw [lg_entry_eq]
  generalize (lg_sl ([.ref (a 0)]) ++ List.replicate (1 - (lg_sl ([.ref (a 0)])).length) Slot.unset).toArray = ls at hl ⊢
  have hl : lv_has ls 1 [(0, .ref (a 0))] := hl
  refine lv_aload_n hx hb dX5_addPatrol_0 rfl (lv_at hl 0 rfl) ?_
  refine va_get (D := (dC, dI)) (ci := 5) (v := .ref (a 1)) (C := RX5) (T := TX5) (N := 6) hx hb hts i_X5 hown hK hP 0 rfl rfl 0 (by decide) f_0 (fun _ h9 => h9) rfl dX5_addPatrol_1 ?_
  refine va_get (D := (dC, dI)) (ci := 3) (v := .int (nI (c_np S))) (C := RX3) (T := TX3) (N := 8) hx hb hts i_X3 hown hK hP 1 rfl rfl 0 (by decide) f_1 (fun _ h9 => h9) rfl dX5_addPatrol_4 ?_
  refine lv_bipush (v := nI 6) hx hb dX5_addPatrol_7 (by decide) ?_
  refine lv_icmp_lt (tgt := 22) hx hb dX5_addPatrol_9 (by decide) (fun c_9 => ?_) (fun c_9 => ?_)
  · have c_9 : (c_np S) < 6 := cb_lt (by omega) (by omega) c_9
    refine lv_aload_n hx hb dX5_addPatrol_22 rfl (lv_at hl 0 rfl) ?_
    refine va_get (D := (dC, dI)) (ci := 5) (v := .ref (a 1)) (C := RX5) (T := TX5) (N := 6) hx hb hts i_X5 hown hK hP 0 rfl rfl 0 (by decide) f_0 (fun _ h9 => h9) rfl dX5_addPatrol_23 ?_
    refine lv_dup hx hb dX5_addPatrol_26 rfl ?_
    refine va_get (D := (dC, dI)) (ci := 3) (v := .int (nI (c_np S))) (C := RX3) (T := TX3) (N := 8) hx hb hts i_X3 hown hK hP 1 rfl rfl 0 (by decide) f_1 (fun _ h9 => h9) rfl dX5_addPatrol_27 ?_
    refine lv_iconst (v := nI 1) hx hb dX5_addPatrol_30 (by decide) ?_
    refine lv_iadd hx hb dX5_addPatrol_31 ?_
    refine cb_topi (nI_add _ _) ?_
    refine va_put (D := (dC, dI)) (ci := 3) (v := .int (nI ((c_np S) + 1))) (ty := .int) (C := RX3) (T := TX3) (N := 8) hx hb hts i_X3 tyX3 tyX3_ok nmX3 hown hK hP hD hS 1 rfl rfl 0 (by decide) f_1 (fun _ h9 => h9) rfl (by decide +kernel) rfl rfl (Nat.le_of_ble_eq_true rfl) dX5_addPatrol_32 (fun H locs hP hD hS => ?_)
    rw [wsC_np] at hP hD
    have hP : va_P (dC, dI) vwCl (cb_W a k (s_np S ((c_np S) + 1)) (c_sl S) (c_pt S) (c_at S)) H := hP
    have hD : va_D A (cb_W a k (s_np S ((c_np S) + 1)) (c_sl S) (c_pt S) (c_at S)) := hD
    refine lv_aload_n hx hb dX5_addPatrol_35 rfl (lv_at hl 0 rfl) ?_
    refine va_get (D := (dC, dI)) (ci := 5) (v := .ref (a 1)) (C := RX5) (T := TX5) (N := 6) hx hb hts i_X5 hown hK hP 0 rfl rfl 0 (by decide) f_0 (fun _ h9 => h9) rfl dX5_addPatrol_36 ?_
    refine va_get (D := (dC, dI)) (ci := 3) (v := .int (nI ((c_np S) + 1))) (C := RX3) (T := TX3) (N := 8) hx hb hts i_X3 hown hK hP 1 rfl rfl 0 (by decide) f_1 (fun _ h9 => h9) rfl dX5_addPatrol_39 ?_
    refine lv_iconst (v := nI 1) hx hb dX5_addPatrol_42 (by decide) ?_
    refine lv_isub hx hb dX5_addPatrol_43 ?_
    have ew : (cb_W a k (s_np S ((c_np S) + 1)) (c_sl S) (c_pt S) (c_at S)) = (cb_w a k (S_addPatrol S)) := rfl
    have hP : va_P (dC, dI) vwCl (cb_w a k (S_addPatrol S)) H := by rw [← ew]; exact hP
    have hD : va_D A (cb_w a k (S_addPatrol S)) := by rw [← ew]; exact hD
    rw [hQ]
    refine vx_ret ?_
    refine W.widen (k := 8) (n := 48) (by omega) (by omega) ?_
    exact W.iret (v := (nI ((c_np S) + 1)) - (nI 1)) hx hb hr (fun t9 ht9 hW9 => ⟨⟨(nI ((c_np S) + 1)) - (nI 1), (), rfl, ⟨by rw [k_addPatrol, if_pos c_9], by rw [pk_sub (by omega)]; rfl⟩, cB_of hP hK hD ht9 hW9⟩, hS.F ht9⟩) hS.2.2 dX5_addPatrol_44
  · have c_9 : 6 ≤ (c_np S) := cb_nlt (by omega) (by omega) c_9
    obtain ⟨sa, hstr⟩ := hE.2.2.2.1 (53, "there are 6 patrols") (by decide +kernel)
    have hpx : px [xE_S] (k_addPatrol S) "java/lang/IllegalStateException" := (px_of (n := 0) (by rw [k_addPatrol, if_neg (Nat.not_lt.mpr c_9)]) rfl)
    rw [hQ]
    exact vx_throwS (own := RX5) (cls := "java/lang/IllegalStateException") (names := ["java/lang/RuntimeException", "java/lang/Exception"]) (ik := 51) (is := 53) (ic := 55) hx hb hl9 hown (by decide) (by decide) f_2 f_3 hstr (cb_atS (fun w h => hts w (List.mem_cons_of_mem _ (List.mem_append_right _ h))) hE.2.2.1) cb_gdS hE.1 hE.2.1 hS (hl.1.trans hml.symm) dX5_addPatrol_12 dX5_addPatrol_15 dX5_addPatrol_16 dX5_addPatrol_18 dX5_addPatrol_21 (fun x hx => (htab x hx).elim) (Nat.le_of_ble_eq_true rfl) (Nat.le_of_ble_eq_true rfl) (by decide) (by decide) hlocks (fun t ha hz hk => cX_of hP hK hD hS ha hz hk hpx) hS.2.2 (by decide) (by decide)
abbrev rm_X5_addScout : Room := { frames := 7, cells := 8, slots := 48, locals := 112 }
set_option maxHeartbeats 4000000 in
set_option maxRecDepth 100000 in
theorem c_X5_addScout (l : Launch) (hl9 : l.stackTraces = false) (dC : Nat → ClassId) (dI : Nat → Nat → Nat) (a : Nat → Nat) (k : Nat → ClassId) (S : cs_S) (sz : Nat) (x0 : Int32) (x1 : Int32) (x2 : Int32) (hI : Inv S) : vx_Met l yX5_addScout wsX5_addScout rm_X5_addScout (va_Pc [.ref (a 0), .int x0, .int x1, .int x2] (cU dC dI sz (cb_w a k S) (cb_ty k))) (va_Qi (fun (r : Int32) (_ : Unit) => k_addScout S x0 x1 x2 = 0 ∧ r = nI (c_ns S)) (fun _ t => cB dC dI (va_A (cb_w a k S) sz) (cb_w a k (S_addScout S x0 x1 x2)) (cb_ty k) t) (va_A (cb_w a k S) sz)) (cX dC dI (cb_w a k S) (cb_ty k) (va_A (cb_w a k S) sz) (fun E => px [xE_I, xE_A, xE_S] (k_addScout S x0 x1 x2) E)) 8 48 (va_A (cb_w a k S) sz) := by
  refine vx_ofW (cc := cX5_addScout) (maxL := 4) (ret := (some .int)) (by decide) rfl ?_
  intro p e s m args below meth c s₁ B hml htab hv
  obtain ⟨rfl, ⟨hsz, hP, hK, hD0⟩, hE⟩ := hv
  have hx := B.exec
  have hb := B.bytes
  have hr := B.returns
  have hts := atoms_spec (ws := wsX5_addScout) B.pre
  have hown : s.vm.findClass RX5 = some m.cls := findClass_of_methodNamed B.named
  have hlocks := B.notSynchronized
  subst hsz
  have hD := hD0.self (sz := s.heap.size)
  generalize hAe : va_A (cb_w a k S) s.heap.size = A at hD hE ⊢
  have hA : ∀ q : Nat, s.heap.size ≤ q → A q := fun q h => by rw [← hAe]; exact Or.inr h
  have hS : va_S A s.heap s.heap [] := va_S.rf
  obtain ⟨Q, hQ⟩ : ∃ Q, Q = vx_MQ below (va_Qi (fun (r : Int32) (_ : Unit) => k_addScout S x0 x1 x2 = 0 ∧ r = nI (c_ns S)) (fun _ t => cB dC dI A (cb_w a k (S_addScout S x0 x1 x2)) (cb_ty k) t) A) (cX dC dI (cb_w a k S) (cb_ty k) A (fun E => px [xE_I, xE_A, xE_S] (k_addScout S x0 x1 x2) E)) ([.ref (a 0), .int x0, .int x1, .int x2] : List Value).toArray s 8 48 A := ⟨_, rfl⟩
  show W p l e rm_X5_addScout s m _ below meth c s.heap [] 0 0 (vx_MQ below _ _ _ _ _ _ _) _
  rw [← hQ]
  have i_X3 : ∀ w ∈ wsX30, w ∈ wsX5_addScout := fun w h => List.mem_cons_of_mem _ (List.mem_append_left _ (List.mem_append_left _ (List.mem_append_left _ (List.mem_append_right _ h))))
  have i_X5 : ∀ w ∈ wsX50, w ∈ wsX5_addScout := fun w h => List.mem_cons_of_mem _ (List.mem_append_left _ (List.mem_append_left _ (List.mem_append_left _ (List.mem_append_left _ (List.mem_append_right _ h)))))
  obtain ⟨⟨hday, hnp, hns, hnt, hnf, hnm, hnb, hme⟩, hpat, hage, hten, hcnt, hplc, heat, hned, hhld, hbad, hbad0, hbag⟩ := id hI
  have f_0 := hts (.fieldLink RX5 10 "CampBook" "people" "LCampBook$People;") (by decide +kernel)
  have f_1 := hts (.fieldLink RX5 48 "CampBook$People" "patrols" "I") (by decide +kernel)
  have f_2 := hts (.fieldLink RX5 66 "CampBook$People" "scouts" "I") (by decide +kernel)
  have f_3 := hts (.classLink RX5 51 "java/lang/IllegalStateException") (by decide +kernel)
  have f_4 := hts (.initialized "java/lang/IllegalStateException") (by decide +kernel)
  have hl := lv_entry ([.ref (a 0), .int x0, .int x1, .int x2]) (n := 4) (Nat.le_of_ble_eq_true rfl)
  rw [lg_entry_eq]
  generalize (lg_sl ([.ref (a 0), .int x0, .int x1, .int x2]) ++ List.replicate (4 - (lg_sl ([.ref (a 0), .int x0, .int x1, .int x2])).length) Slot.unset).toArray = ls at hl ⊢
  have hl : lv_has ls 4 [(0, .ref (a 0)), (1, .int x0), (2, .int x1), (3, .int x2)] := hl
  refine lv_iload_n hx hb dX5_addScout_0 rfl (lv_at hl 1 rfl) ?_
  refine lv_aload_n hx hb dX5_addScout_1 rfl (lv_at hl 0 rfl) ?_
  refine va_get (D := (dC, dI)) (ci := 5) (v := .ref (a 1)) (C := RX5) (T := TX5) (N := 6) hx hb hts i_X5 hown hK hP 0 rfl rfl 0 (by decide) f_0 (fun _ h9 => h9) rfl dX5_addScout_2 ?_
  refine va_get (D := (dC, dI)) (ci := 3) (v := .int (nI (c_np S))) (C := RX3) (T := TX3) (N := 8) hx hb hts i_X3 hown hK hP 1 rfl rfl 0 (by decide) f_1 (fun _ h9 => h9) rfl dX5_addScout_5 ?_
  have hF_8 : ∀ q, va_A ([] : va_W) s.heap.size q → A q := fun q h => hA q (Nat.le_trans hS.1 (va_A_nil h))
  refine vx_callv (vx_runS (As := [.int x0, .int (nI (c_np S))]) (rest := []) ⟨hx, hb, hml, hown, hts⟩ (c_X5_checkNumber l hl9 dC dI a k S s.heap.size x0 (c_np S) (by omega)) (va_cwS 2 hts gX5_addScout_X5_checkNumber rfl rfl rfl (by decide +kernel) ⟨(Nat.le_of_ble_eq_true rfl), (Nat.le_of_ble_eq_true rfl)⟩) ⟨cU_blind, fun U hU hW => ⟨rfl, cU_of (hK.sub (tys' := []) [] rfl) (hP.sub (ws' := []) [] rfl) (hD.sub (ws' := []) [] (by decide) rfl) hE hS hU hW hF_8⟩⟩ rfl rfl hl.1 rfl (lv_room (Nat.le_of_ble_eq_true rfl)) dX5_addScout_8 ⟨(by show 0 + 1 ≤ 8; omega), (by show 0 + 6 ≤ 48; omega)⟩) hS (fun q _ h => hF_8 q h) hF_8 (fun q _ h => hF_8 q h) (fun E ce q9 u8 t8 H_8 L_8_ ht hvm _ hB hz1 hk1 hS hce hcv hcl => ?_) (fun u8 t8 H_8 L_8_ ht hvm hw hB hz1 hk1 hS => ?_)
  · obtain ⟨hpx9, hB9⟩ := hB
    have hP := cW_keep hP hk1
    rw [hQ]
    exact vx_out (fun x hx => (htab x hx).elim) hlocks hce hcv hcl (fun t9 h9 ha9 => cX_out hP hK hD hS h9 ha9 ((by rw [hpx9.1]; exact px_of (n := 0) (by rw [k_addScout, if_neg (by rw [hpx9.2]; decide)]) rfl))) hS.2.2 (by omega) (by omega)
  · skip
    have hP := cW_keep hP hk1
    have hw_8 := hw
    refine lv_iload_n hx hb dX5_addScout_11 rfl (lv_at hl 2 rfl) ?_
    refine lv_bipush (v := nI 6) hx hb dX5_addScout_12 (by decide) ?_
    refine lv_bipush (v := nI 17) hx hb dX5_addScout_14 (by decide) ?_
    have hF_16 : ∀ q, va_A ([] : va_W) H_8.size q → A q := fun q h => hA q (Nat.le_trans hS.1 (va_A_nil h))
    refine vx_callv (vx_runS (As := [.int x1, .int (nI 6), .int (nI 17)]) (rest := []) ⟨hx, hb, hml, hown, hts⟩ (c_X5_checkArgument l hl9 dC dI a k S H_8.size x1 (nI 6) (nI 17)) (va_cwS 3 hts gX5_addScout_X5_checkArgument rfl rfl rfl (by decide +kernel) ⟨(Nat.le_of_ble_eq_true rfl), (Nat.le_of_ble_eq_true rfl)⟩) ⟨cU_blind, fun U hU hW => ⟨rfl, cU_of (hK.sub (tys' := []) [] rfl) (hP.sub (ws' := []) [] rfl) (hD.sub (ws' := []) [] (by decide) rfl) hE hS hU hW hF_16⟩⟩ rfl rfl hl.1 rfl (lv_room (Nat.le_of_ble_eq_true rfl)) dX5_addScout_16 ⟨(by show (0 + 1) + 1 ≤ 8; omega), (by show (0 + 6) + 6 ≤ 48; omega)⟩) hS (fun q _ h => hF_16 q h) hF_16 (fun q _ h => hF_16 q h) (fun E ce q9 u8 t8 H_16 L_16_ ht hvm _ hB hz1 hk1 hS hce hcv hcl => ?_) (fun u8 t8 H_16 L_16_ ht hvm hw hB hz1 hk1 hS => ?_)
    · obtain ⟨hpx9, hB9⟩ := hB
      have hP := cW_keep hP hk1
      rw [hQ]
      exact vx_out (fun x hx => (htab x hx).elim) hlocks hce hcv hcl (fun t9 h9 ha9 => cX_out hP hK hD hS h9 ha9 ((by rw [hpx9.1]; exact px_of (n := 1) (by rw [k_addScout, if_pos hw_8, if_neg (by rw [hpx9.2]; decide)]) rfl))) hS.2.2 (by omega) (by omega)
    · skip
      have hP := cW_keep hP hk1
      have hw_16 := hw
      refine lv_iload_n hx hb dX5_addScout_19 rfl (lv_at hl 3 rfl) ?_
      refine lv_iconst (v := nI 0) hx hb dX5_addScout_20 (by decide) ?_
      refine lv_sipush (v := nI 255) hx hb dX5_addScout_21 (by decide) ?_
      have hF_24 : ∀ q, va_A ([] : va_W) H_16.size q → A q := fun q h => hA q (Nat.le_trans hS.1 (va_A_nil h))
      refine vx_callv (vx_runS (As := [.int x2, .int (nI 0), .int (nI 255)]) (rest := []) ⟨hx, hb, hml, hown, hts⟩ (c_X5_checkArgument l hl9 dC dI a k S H_16.size x2 (nI 0) (nI 255)) (va_cwS 3 hts gX5_addScout_X5_checkArgument rfl rfl rfl (by decide +kernel) ⟨(Nat.le_of_ble_eq_true rfl), (Nat.le_of_ble_eq_true rfl)⟩) ⟨cU_blind, fun U hU hW => ⟨rfl, cU_of (hK.sub (tys' := []) [] rfl) (hP.sub (ws' := []) [] rfl) (hD.sub (ws' := []) [] (by decide) rfl) hE hS hU hW hF_24⟩⟩ rfl rfl hl.1 rfl (lv_room (Nat.le_of_ble_eq_true rfl)) dX5_addScout_24 ⟨(by show ((0 + 1) + 1) + 1 ≤ 8; omega), (by show ((0 + 6) + 6) + 6 ≤ 48; omega)⟩) hS (fun q _ h => hF_24 q h) hF_24 (fun q _ h => hF_24 q h) (fun E ce q9 u8 t8 H_24 L_24_ ht hvm _ hB hz1 hk1 hS hce hcv hcl => ?_) (fun u8 t8 H_24 L_24_ ht hvm hw hB hz1 hk1 hS => ?_)
      · obtain ⟨hpx9, hB9⟩ := hB
        have hP := cW_keep hP hk1
        rw [hQ]
        exact vx_out (fun x hx => (htab x hx).elim) hlocks hce hcv hcl (fun t9 h9 ha9 => cX_out hP hK hD hS h9 ha9 ((by rw [hpx9.1]; exact px_of (n := 1) (by rw [k_addScout, if_pos hw_8, if_pos hw_16, if_neg (by rw [hpx9.2]; decide)]) rfl))) hS.2.2 (by omega) (by omega)
      · skip
        have hP := cW_keep hP hk1
        have hw_24 := hw
        refine lv_aload_n hx hb dX5_addScout_27 rfl (lv_at hl 0 rfl) ?_
        refine va_get (D := (dC, dI)) (ci := 5) (v := .ref (a 1)) (C := RX5) (T := TX5) (N := 6) hx hb hts i_X5 hown hK hP 0 rfl rfl 0 (by decide) f_0 (fun _ h9 => h9) rfl dX5_addScout_28 ?_
        refine va_get (D := (dC, dI)) (ci := 3) (v := .int (nI (c_ns S))) (C := RX3) (T := TX3) (N := 8) hx hb hts i_X3 hown hK hP 1 rfl rfl 1 (by decide) f_2 (fun _ h9 => h9) rfl dX5_addScout_31 ?_
        refine lv_bipush (v := nI 30) hx hb dX5_addScout_34 (by decide) ?_
        refine lv_icmp_lt (tgt := 49) hx hb dX5_addScout_36 (by decide) (fun c_36 => ?_) (fun c_36 => ?_)
        · have c_36 : (c_ns S) < 30 := cb_lt (by omega) (by omega) c_36
          refine lv_aload_n hx hb dX5_addScout_49 rfl (lv_at hl 0 rfl) ?_
          refine va_get (D := (dC, dI)) (ci := 5) (v := .ref (a 1)) (C := RX5) (T := TX5) (N := 6) hx hb hts i_X5 hown hK hP 0 rfl rfl 0 (by decide) f_0 (fun _ h9 => h9) rfl dX5_addScout_50 ?_
          refine lv_iload_n hx hb dX5_addScout_53 rfl (lv_at hl 1 rfl) ?_
          refine lv_iload_n hx hb dX5_addScout_54 rfl (lv_at hl 2 rfl) ?_
          refine lv_iload_n hx hb dX5_addScout_55 rfl (lv_at hl 3 rfl) ?_
          have hF_56 : ∀ q, va_A (cb_w a k S) H_24.size q → A q := va_free hD hS hA [0, 1, 2, 3, 4, 5, 6, 7, 8, 9, 10, 11, 12, 13, 14, 15, 16, 17, 18, 19] rfl
          refine va_calli (va_runV (As := [.int x0, .int x1, .int x2]) (rest := []) ⟨hx, hb, hml, hown, hts⟩ (c_X3_enrol l dC dI a k S H_24.size x0 x1 x2 (by omega)) (cwV 3 hts gX5_addScout_X3_enrol rfl rfl rfl (by decide +kernel) ⟨(Nat.le_of_ble_eq_true rfl), (Nat.le_of_ble_eq_true rfl)⟩) ⟨cT_blind, va_recv hK hP (ci := 3) (q0 := 1) rfl rfl, fun U hU hW => ⟨rfl, cT_of hK hP hD hU hW⟩⟩ rfl rfl hl.1 rfl (lv_room (Nat.le_of_ble_eq_true rfl)) dX5_addScout_56 ⟨(by show (((0 + 1) + 1) + 1) + 0 ≤ 8; omega), (by show (((0 + 6) + 6) + 6) + 0 ≤ 48; omega)⟩) hS (fun q _ h => hF_56 q h) hF_56 (fun r_56 u8 t8 H_56 L_56_ ht hvm hw hB hz1 hk1 hS => ?_)
          obtain ⟨hP, -, hD9⟩ := hB
          rw [ht] at hP
          have hD := hD9.weaken (B := A) (fun _ q _ h => hF_56 q.1 h)
          have hP : va_P (dC, dI) vwCl (cb_W a k (s_ns (s_skl (s_age (s_pat S (upd (c_pat S) (c_ns S) x0)) (upd (c_age S) (c_ns S) x1)) (upd (c_skl S) (c_ns S) x2)) (c_ns S + 1)) (c_sl S) (c_pt S) (c_at S)) H_56 := hP
          have hD : va_D A (cb_W a k (s_ns (s_skl (s_age (s_pat S (upd (c_pat S) (c_ns S) x0)) (upd (c_age S) (c_ns S) x1)) (upd (c_skl S) (c_ns S) x2)) (c_ns S + 1)) (c_sl S) (c_pt S) (c_at S)) := hD
          subst hw
          have ew : (cb_W a k (s_ns (s_skl (s_age (s_pat S (upd (c_pat S) (c_ns S) x0)) (upd (c_age S) (c_ns S) x1)) (upd (c_skl S) (c_ns S) x2)) (c_ns S + 1)) (c_sl S) (c_pt S) (c_at S)) = (cb_w a k (S_addScout S x0 x1 x2)) := (enrol_w hI)
          have hP : va_P (dC, dI) vwCl (cb_w a k (S_addScout S x0 x1 x2)) H_56 := by rw [← ew]; exact hP
          have hD : va_D A (cb_w a k (S_addScout S x0 x1 x2)) := by rw [← ew]; exact hD
          rw [hQ]
          refine vx_ret ?_
          refine W.widen (k := 8) (n := 48) (by omega) (by omega) ?_
          exact W.iret (v := nI (c_ns S)) hx hb hr (fun t9 ht9 hW9 => ⟨⟨nI (c_ns S), (), rfl, ⟨by rw [k_addScout, if_pos hw_8, if_pos hw_16, if_pos hw_24, if_pos c_36], rfl⟩, cB_of hP hK hD ht9 hW9⟩, hS.F ht9⟩) hS.2.2 dX5_addScout_59
        · have c_36 : 30 ≤ (c_ns S) := cb_nlt (by omega) (by omega) c_36
          obtain ⟨sa, hstr⟩ := hE.2.2.2.1 (69, "there are 30 scouts") (by decide +kernel)
          have hpx : px [xE_I, xE_A, xE_S] (k_addScout S x0 x1 x2) "java/lang/IllegalStateException" := (px_of (n := 2) (by rw [k_addScout, if_pos hw_8, if_pos hw_16, if_pos hw_24, if_neg (Nat.not_lt.mpr c_36)]) rfl)
          rw [hQ]
          exact vx_throwS (own := RX5) (cls := "java/lang/IllegalStateException") (names := ["java/lang/RuntimeException", "java/lang/Exception"]) (ik := 51) (is := 69) (ic := 55) hx hb hl9 hown (by decide) (by decide) f_3 f_4 hstr (cb_atS (fun w h => hts w (List.mem_cons_of_mem _ (List.mem_append_left _ (List.mem_append_left _ (List.mem_append_right _ h))))) hE.2.2.1) cb_gdS hE.1 hE.2.1 hS (hl.1.trans hml.symm) dX5_addScout_39 dX5_addScout_42 dX5_addScout_43 dX5_addScout_45 dX5_addScout_48 (fun x hx => (htab x hx).elim) (Nat.le_of_ble_eq_true rfl) (Nat.le_of_ble_eq_true rfl) (by decide) (by decide) hlocks (fun t ha hz hk => cX_of hP hK hD hS ha hz hk hpx) hS.2.2 (by decide) (by decide)
abbrev rm_X5_scout : Room := { frames := 7, cells := 8, slots := 48, locals := 111 }
set_option maxHeartbeats 4000000 in
set_option maxRecDepth 100000 in
theorem c_X5_scout (l : Launch) (hl9 : l.stackTraces = false) (dC : Nat → ClassId) (dI : Nat → Nat → Nat) (a : Nat → Nat) (k : Nat → ClassId) (S : cs_S) (sz : Nat) (x0 : Int32) (x1 : Int32) (hI : Inv S) : vx_Met l yX5_scout wsX5_scout rm_X5_scout (va_Pc [.ref (a 0), .int x0, .int x1] (cU dC dI sz (cb_w a k S) (cb_ty k))) (va_Qi (fun (r : Int32) (_ : Unit) => k_scout S x0 x1 = 0 ∧ r = r_scout S x0 x1) (fun _ t => cB dC dI (va_A (cb_w a k S) sz) (cb_w a k S) (cb_ty k) t) (va_A (cb_w a k S) sz)) (cX dC dI (cb_w a k S) (cb_ty k) (va_A (cb_w a k S) sz) (fun E => px [xE_I] (k_scout S x0 x1) E)) 8 48 (va_A (cb_w a k S) sz) := by
  refine vx_ofW (cc := cX5_scout) (maxL := 3) (ret := (some .int)) (by decide) rfl ?_
  intro p e s m args below meth c s₁ B hml htab hv
  obtain ⟨rfl, ⟨hsz, hP, hK, hD0⟩, hE⟩ := hv
  have hx := B.exec
  have hb := B.bytes
  have hr := B.returns
  have hts := atoms_spec (ws := wsX5_scout) B.pre
  have hown : s.vm.findClass RX5 = some m.cls := findClass_of_methodNamed B.named
  have hlocks := B.notSynchronized
  subst hsz
  have hD := hD0.self (sz := s.heap.size)
  generalize hAe : va_A (cb_w a k S) s.heap.size = A at hD hE ⊢
  have hA : ∀ q : Nat, s.heap.size ≤ q → A q := fun q h => by rw [← hAe]; exact Or.inr h
  have hS : va_S A s.heap s.heap [] := va_S.rf
  obtain ⟨Q, hQ⟩ : ∃ Q, Q = vx_MQ below (va_Qi (fun (r : Int32) (_ : Unit) => k_scout S x0 x1 = 0 ∧ r = r_scout S x0 x1) (fun _ t => cB dC dI A (cb_w a k S) (cb_ty k) t) A) (cX dC dI (cb_w a k S) (cb_ty k) A (fun E => px [xE_I] (k_scout S x0 x1) E)) ([.ref (a 0), .int x0, .int x1] : List Value).toArray s 8 48 A := ⟨_, rfl⟩
  show W p l e rm_X5_scout s m _ below meth c s.heap [] 0 0 (vx_MQ below _ _ _ _ _ _ _) _
  rw [← hQ]
  have i_X3 : ∀ w ∈ wsX30, w ∈ wsX5_scout := fun w h => List.mem_cons_of_mem _ (List.mem_append_left _ (List.mem_append_left _ (List.mem_append_right _ h)))
  have i_X5 : ∀ w ∈ wsX50, w ∈ wsX5_scout := fun w h => List.mem_cons_of_mem _ (List.mem_append_left _ (List.mem_append_left _ (List.mem_append_left _ (List.mem_append_right _ h))))
  obtain ⟨⟨hday, hnp, hns, hnt, hnf, hnm, hnb, hme⟩, hpat, hage, hten, hcnt, hplc, heat, hned, hhld, hbad, hbad0, hbag⟩ := id hI
  have f_0 := hts (.fieldLink RX5 10 "CampBook" "people" "LCampBook$People;") (by decide +kernel)
  have f_1 := hts (.fieldLink RX5 66 "CampBook$People" "scouts" "I") (by decide +kernel)
  have hl := lv_entry ([.ref (a 0), .int x0, .int x1]) (n := 3) (Nat.le_of_ble_eq_true rfl)
  rw [lg_entry_eq]
  generalize (lg_sl ([.ref (a 0), .int x0, .int x1]) ++ List.replicate (3 - (lg_sl ([.ref (a 0), .int x0, .int x1])).length) Slot.unset).toArray = ls at hl ⊢
  have hl : lv_has ls 3 [(0, .ref (a 0)), (1, .int x0), (2, .int x1)] := hl
  refine lv_iload_n hx hb dX5_scout_0 rfl (lv_at hl 1 rfl) ?_
  refine lv_aload_n hx hb dX5_scout_1 rfl (lv_at hl 0 rfl) ?_
  refine va_get (D := (dC, dI)) (ci := 5) (v := .ref (a 1)) (C := RX5) (T := TX5) (N := 6) hx hb hts i_X5 hown hK hP 0 rfl rfl 0 (by decide) f_0 (fun _ h9 => h9) rfl dX5_scout_2 ?_
  refine va_get (D := (dC, dI)) (ci := 3) (v := .int (nI (c_ns S))) (C := RX3) (T := TX3) (N := 8) hx hb hts i_X3 hown hK hP 1 rfl rfl 1 (by decide) f_1 (fun _ h9 => h9) rfl dX5_scout_5 ?_
  have hF_8 : ∀ q, va_A ([] : va_W) s.heap.size q → A q := fun q h => hA q (Nat.le_trans hS.1 (va_A_nil h))
  refine vx_callv (vx_runS (As := [.int x0, .int (nI (c_ns S))]) (rest := []) ⟨hx, hb, hml, hown, hts⟩ (c_X5_checkNumber l hl9 dC dI a k S s.heap.size x0 (c_ns S) (by omega)) (va_cwS 2 hts gX5_scout_X5_checkNumber rfl rfl rfl (by decide +kernel) ⟨(Nat.le_of_ble_eq_true rfl), (Nat.le_of_ble_eq_true rfl)⟩) ⟨cU_blind, fun U hU hW => ⟨rfl, cU_of (hK.sub (tys' := []) [] rfl) (hP.sub (ws' := []) [] rfl) (hD.sub (ws' := []) [] (by decide) rfl) hE hS hU hW hF_8⟩⟩ rfl rfl hl.1 rfl (lv_room (Nat.le_of_ble_eq_true rfl)) dX5_scout_8 ⟨(by show 0 + 1 ≤ 8; omega), (by show 0 + 6 ≤ 48; omega)⟩) hS (fun q _ h => hF_8 q h) hF_8 (fun q _ h => hF_8 q h) (fun E ce q9 u8 t8 H_8 L_8_ ht hvm _ hB hz1 hk1 hS hce hcv hcl => ?_) (fun u8 t8 H_8 L_8_ ht hvm hw hB hz1 hk1 hS => ?_)
  · obtain ⟨hpx9, hB9⟩ := hB
    have hP := cW_keep hP hk1
    rw [hQ]
    exact vx_out (fun x hx => (htab x hx).elim) hlocks hce hcv hcl (fun t9 h9 ha9 => cX_out hP hK hD hS h9 ha9 ((by rw [hpx9.1]; exact px_of (n := 0) (by rw [k_scout, if_neg (by rw [hpx9.2]; decide)]) rfl))) hS.2.2 (by omega) (by omega)
  · skip
    have hP := cW_keep hP hk1
    have hw_8 := hw
    obtain ⟨u, hu, eu⟩ := ix_t hw_8 (by omega)
    rw [eu] at hl
    have tu : toN x0 = u := by rw [eu]; exact tn (by omega)
    refine lv_iload_n hx hb dX5_scout_11 rfl (lv_at hl 2 rfl) ?_
    refine lv_bipush (v := nI 7) hx hb dX5_scout_12 (by decide) ?_
    have hF_14 : ∀ q, va_A ([] : va_W) H_8.size q → A q := fun q h => hA q (Nat.le_trans hS.1 (va_A_nil h))
    refine vx_callv (vx_runS (As := [.int x1, .int (nI 7)]) (rest := []) ⟨hx, hb, hml, hown, hts⟩ (c_X5_checkNumber l hl9 dC dI a k S H_8.size x1 7 (by omega)) (va_cwS 2 hts gX5_scout_X5_checkNumber rfl rfl rfl (by decide +kernel) ⟨(Nat.le_of_ble_eq_true rfl), (Nat.le_of_ble_eq_true rfl)⟩) ⟨cU_blind, fun U hU hW => ⟨rfl, cU_of (hK.sub (tys' := []) [] rfl) (hP.sub (ws' := []) [] rfl) (hD.sub (ws' := []) [] (by decide) rfl) hE hS hU hW hF_14⟩⟩ rfl rfl hl.1 rfl (lv_room (Nat.le_of_ble_eq_true rfl)) dX5_scout_14 ⟨(by show (0 + 1) + 1 ≤ 8; omega), (by show (0 + 6) + 6 ≤ 48; omega)⟩) hS (fun q _ h => hF_14 q h) hF_14 (fun q _ h => hF_14 q h) (fun E ce q9 u8 t8 H_14 L_14_ ht hvm _ hB hz1 hk1 hS hce hcv hcl => ?_) (fun u8 t8 H_14 L_14_ ht hvm hw hB hz1 hk1 hS => ?_)
    · obtain ⟨hpx9, hB9⟩ := hB
      have hP := cW_keep hP hk1
      rw [hQ]
      exact vx_out (fun x hx => (htab x hx).elim) hlocks hce hcv hcl (fun t9 h9 ha9 => cX_out hP hK hD hS h9 ha9 ((by rw [hpx9.1]; exact px_of (n := 0) (by rw [k_scout, if_pos hw_8, if_neg (by rw [hpx9.2]; decide)]) rfl))) hS.2.2 (by omega) (by omega)
    · skip
      have hP := cW_keep hP hk1
      have hw_14 := hw
      obtain ⟨w9, hw9, ew9⟩ := ix_t hw_14 (by omega)
      rw [ew9] at hl
      have tw9 : toN x1 = w9 := by rw [ew9]; exact tn (by omega)
      refine lv_aload_n hx hb dX5_scout_17 rfl (lv_at hl 0 rfl) ?_
      refine lv_iload_n hx hb dX5_scout_18 rfl (lv_at hl 1 rfl) ?_
      refine lv_iload_n hx hb dX5_scout_19 rfl (lv_at hl 2 rfl) ?_
      refine vp_callSi (W.runV (As := [.int (nI u), .int (nI w9)]) (rest := []) ⟨hx, hb, hml, hown, hts⟩ (c_X5_factOf l dC dI a k S u w9 (by omega) (by omega) hI) (cwV 2 hts gX5_scout_X5_factOf rfl rfl rfl (by decide +kernel) ⟨(Nat.le_of_ble_eq_true rfl), (Nat.le_of_ble_eq_true rfl)⟩) ⟨cR_blind, va_recv hK hP (ci := 5) (q0 := 0) rfl rfl, fun U hU hW => ⟨rfl, cR_of hK hP hU hW⟩⟩ rfl rfl hl.1 rfl (lv_room (Nat.le_of_ble_eq_true rfl)) dX5_scout_20 ⟨(by show ((0 + 1) + 1) + 0 ≤ 8; omega), (by show ((0 + 6) + 6) + 0 ≤ 48; omega)⟩) (fun r er => ?_)
      subst er
      have ew : (cb_W a k S (c_sl S) (c_pt S) (c_at S)) = (cb_w a k S) := rfl
      have hP : va_P (dC, dI) vwCl (cb_w a k S) H_14 := by rw [← ew]; exact hP
      have hD : va_D A (cb_w a k S) := by rw [← ew]; exact hD
      rw [hQ]
      refine vx_ret ?_
      refine W.widen (k := 8) (n := 48) (by omega) (by omega) ?_
      exact W.iret (v := fct S u w9) hx hb hr (fun t9 ht9 hW9 => ⟨⟨fct S u w9, (), rfl, ⟨by rw [k_scout, if_pos hw_8, if_pos hw_14], by rw [r_scout, tu, tw9]⟩, cB_of hP hK hD ht9 hW9⟩, hS.F ht9⟩) hS.2.2 dX5_scout_23
abbrev rm_X5_addTent : Room := { frames := 7, cells := 8, slots := 48, locals := 112 }
set_option maxHeartbeats 4000000 in
set_option maxRecDepth 100000 in
theorem c_X5_addTent (l : Launch) (hl9 : l.stackTraces = false) (dC : Nat → ClassId) (dI : Nat → Nat → Nat) (a : Nat → Nat) (k : Nat → ClassId) (S : cs_S) (sz : Nat) (x0 : Int32) (hI : Inv S) : vx_Met l yX5_addTent wsX5_addTent rm_X5_addTent (va_Pc [.ref (a 0), .int x0] (cU dC dI sz (cb_w a k S) (cb_ty k))) (va_Qi (fun (r : Int32) (_ : Unit) => k_addTent S x0 = 0 ∧ r = nI (c_nt S)) (fun _ t => cB dC dI (va_A (cb_w a k S) sz) (cb_w a k (S_addTent S x0)) (cb_ty k) t) (va_A (cb_w a k S) sz)) (cX dC dI (cb_w a k S) (cb_ty k) (va_A (cb_w a k S) sz) (fun E => px [xE_A, xE_S] (k_addTent S x0) E)) 8 48 (va_A (cb_w a k S) sz) := by
  refine vx_ofW (cc := cX5_addTent) (maxL := 2) (ret := (some .int)) (by decide) rfl ?_
  intro p e s m args below meth c s₁ B hml htab hv
  obtain ⟨rfl, ⟨hsz, hP, hK, hD0⟩, hE⟩ := hv
  have hx := B.exec
  have hb := B.bytes
  have hr := B.returns
  have hts := atoms_spec (ws := wsX5_addTent) B.pre
  have hown : s.vm.findClass RX5 = some m.cls := findClass_of_methodNamed B.named
  have hlocks := B.notSynchronized
  subst hsz
  have hD := hD0.self (sz := s.heap.size)
  generalize hAe : va_A (cb_w a k S) s.heap.size = A at hD hE ⊢
  have hA : ∀ q : Nat, s.heap.size ≤ q → A q := fun q h => by rw [← hAe]; exact Or.inr h
  have hS : va_S A s.heap s.heap [] := va_S.rf
  obtain ⟨Q, hQ⟩ : ∃ Q, Q = vx_MQ below (va_Qi (fun (r : Int32) (_ : Unit) => k_addTent S x0 = 0 ∧ r = nI (c_nt S)) (fun _ t => cB dC dI A (cb_w a k (S_addTent S x0)) (cb_ty k) t) A) (cX dC dI (cb_w a k S) (cb_ty k) A (fun E => px [xE_A, xE_S] (k_addTent S x0) E)) ([.ref (a 0), .int x0] : List Value).toArray s 8 48 A := ⟨_, rfl⟩
  show W p l e rm_X5_addTent s m _ below meth c s.heap [] 0 0 (vx_MQ below _ _ _ _ _ _ _) _
  rw [← hQ]
  have i_X4 : ∀ w ∈ wsX40, w ∈ wsX5_addTent := fun w h => List.mem_cons_of_mem _ (List.mem_append_left _ (List.mem_append_left _ (List.mem_append_right _ h)))
  have i_X5 : ∀ w ∈ wsX50, w ∈ wsX5_addTent := fun w h => List.mem_cons_of_mem _ (List.mem_append_left _ (List.mem_append_left _ (List.mem_append_left _ (List.mem_append_right _ h))))
  obtain ⟨⟨hday, hnp, hns, hnt, hnf, hnm, hnb, hme⟩, hpat, hage, hten, hcnt, hplc, heat, hned, hhld, hbad, hbad0, hbag⟩ := id hI
  have f_0 := hts (.fieldLink RX5 19 "CampBook" "tents" "LCampBook$Tents;") (by decide +kernel)
  have f_1 := hts (.fieldLink RX5 79 "CampBook$Tents" "size" "I") (by decide +kernel)
  have f_2 := hts (.classLink RX5 51 "java/lang/IllegalStateException") (by decide +kernel)
  have f_3 := hts (.initialized "java/lang/IllegalStateException") (by decide +kernel)
  have hl := lv_entry ([.ref (a 0), .int x0]) (n := 2) (Nat.le_of_ble_eq_true rfl)
  rw [lg_entry_eq]
  generalize (lg_sl ([.ref (a 0), .int x0]) ++ List.replicate (2 - (lg_sl ([.ref (a 0), .int x0])).length) Slot.unset).toArray = ls at hl ⊢
  have hl : lv_has ls 2 [(0, .ref (a 0)), (1, .int x0)] := hl
  refine lv_iload_n hx hb dX5_addTent_0 rfl (lv_at hl 1 rfl) ?_
  refine lv_iconst (v := nI 1) hx hb dX5_addTent_1 (by decide) ?_
  refine lv_bipush (v := nI 8) hx hb dX5_addTent_2 (by decide) ?_
  have hF_4 : ∀ q, va_A ([] : va_W) s.heap.size q → A q := fun q h => hA q (Nat.le_trans hS.1 (va_A_nil h))
  refine vx_callv (vx_runS (As := [.int x0, .int (nI 1), .int (nI 8)]) (rest := []) ⟨hx, hb, hml, hown, hts⟩ (c_X5_checkArgument l hl9 dC dI a k S s.heap.size x0 (nI 1) (nI 8)) (va_cwS 3 hts gX5_addTent_X5_checkArgument rfl rfl rfl (by decide +kernel) ⟨(Nat.le_of_ble_eq_true rfl), (Nat.le_of_ble_eq_true rfl)⟩) ⟨cU_blind, fun U hU hW => ⟨rfl, cU_of (hK.sub (tys' := []) [] rfl) (hP.sub (ws' := []) [] rfl) (hD.sub (ws' := []) [] (by decide) rfl) hE hS hU hW hF_4⟩⟩ rfl rfl hl.1 rfl (lv_room (Nat.le_of_ble_eq_true rfl)) dX5_addTent_4 ⟨(by show 0 + 1 ≤ 8; omega), (by show 0 + 6 ≤ 48; omega)⟩) hS (fun q _ h => hF_4 q h) hF_4 (fun q _ h => hF_4 q h) (fun E ce q9 u8 t8 H_4 L_4_ ht hvm _ hB hz1 hk1 hS hce hcv hcl => ?_) (fun u8 t8 H_4 L_4_ ht hvm hw hB hz1 hk1 hS => ?_)
  · obtain ⟨hpx9, hB9⟩ := hB
    have hP := cW_keep hP hk1
    rw [hQ]
    exact vx_out (fun x hx => (htab x hx).elim) hlocks hce hcv hcl (fun t9 h9 ha9 => cX_out hP hK hD hS h9 ha9 ((by rw [hpx9.1]; exact px_of (n := 0) (by rw [k_addTent, if_neg (by rw [hpx9.2]; decide)]) rfl))) hS.2.2 (by omega) (by omega)
  · skip
    have hP := cW_keep hP hk1
    have hw_4 := hw
    refine lv_aload_n hx hb dX5_addTent_7 rfl (lv_at hl 0 rfl) ?_
    refine va_get (D := (dC, dI)) (ci := 5) (v := .ref (a 2)) (C := RX5) (T := TX5) (N := 6) hx hb hts i_X5 hown hK hP 0 rfl rfl 1 (by decide) f_0 (fun _ h9 => h9) rfl dX5_addTent_8 ?_
    refine va_get (D := (dC, dI)) (ci := 4) (v := .int (nI (c_nt S))) (C := RX4) (T := TX4) (N := 3) hx hb hts i_X4 hown hK hP 2 rfl rfl 0 (by decide) f_1 (fun _ h9 => h9) rfl dX5_addTent_11 ?_
    refine lv_bipush (v := nI 10) hx hb dX5_addTent_14 (by decide) ?_
    refine lv_icmp_lt (tgt := 29) hx hb dX5_addTent_16 (by decide) (fun c_16 => ?_) (fun c_16 => ?_)
    · have c_16 : (c_nt S) < 10 := cb_lt (by omega) (by omega) c_16
      refine lv_aload_n hx hb dX5_addTent_29 rfl (lv_at hl 0 rfl) ?_
      refine va_get (D := (dC, dI)) (ci := 5) (v := .ref (a 2)) (C := RX5) (T := TX5) (N := 6) hx hb hts i_X5 hown hK hP 0 rfl rfl 1 (by decide) f_0 (fun _ h9 => h9) rfl dX5_addTent_30 ?_
      refine lv_iload_n hx hb dX5_addTent_33 rfl (lv_at hl 1 rfl) ?_
      have hF_34 : ∀ q, va_A (cb_w a k S) H_4.size q → A q := va_free hD hS hA [0, 1, 2, 3, 4, 5, 6, 7, 8, 9, 10, 11, 12, 13, 14, 15, 16, 17, 18, 19] rfl
      refine va_calli (va_runV (As := [.int x0]) (rest := []) ⟨hx, hb, hml, hown, hts⟩ (c_X4_pitch l dC dI a k S H_4.size x0 (by omega)) (cwV 1 hts gX5_addTent_X4_pitch rfl rfl rfl (by decide +kernel) ⟨(Nat.le_of_ble_eq_true rfl), (Nat.le_of_ble_eq_true rfl)⟩) ⟨cT_blind, va_recv hK hP (ci := 4) (q0 := 2) rfl rfl, fun U hU hW => ⟨rfl, cT_of hK hP hD hU hW⟩⟩ rfl rfl hl.1 rfl (lv_room (Nat.le_of_ble_eq_true rfl)) dX5_addTent_34 ⟨(by show (0 + 1) + 0 ≤ 8; omega), (by show (0 + 6) + 0 ≤ 48; omega)⟩) hS (fun q _ h => hF_34 q h) hF_34 (fun r_34 u8 t8 H_34 L_34_ ht hvm hw hB hz1 hk1 hS => ?_)
      obtain ⟨hP, -, hD9⟩ := hB
      rw [ht] at hP
      have hD := hD9.weaken (B := A) (fun _ q _ h => hF_34 q.1 h)
      have hP : va_P (dC, dI) vwCl (cb_W a k (S_addTent S x0) (c_sl (S_addTent S x0)) (c_pt (S_addTent S x0)) (c_at (S_addTent S x0))) H_34 := hP
      have hD : va_D A (cb_W a k (S_addTent S x0) (c_sl (S_addTent S x0)) (c_pt (S_addTent S x0)) (c_at (S_addTent S x0))) := hD
      subst hw
      have ew : (cb_W a k (S_addTent S x0) (c_sl (S_addTent S x0)) (c_pt (S_addTent S x0)) (c_at (S_addTent S x0))) = (cb_w a k (S_addTent S x0)) := rfl
      have hP : va_P (dC, dI) vwCl (cb_w a k (S_addTent S x0)) H_34 := by rw [← ew]; exact hP
      have hD : va_D A (cb_w a k (S_addTent S x0)) := by rw [← ew]; exact hD
      rw [hQ]
      refine vx_ret ?_
      refine W.widen (k := 8) (n := 48) (by omega) (by omega) ?_
      exact W.iret (v := nI (c_nt S)) hx hb hr (fun t9 ht9 hW9 => ⟨⟨nI (c_nt S), (), rfl, ⟨by rw [k_addTent, if_pos hw_4, if_pos c_16], rfl⟩, cB_of hP hK hD ht9 hW9⟩, hS.F ht9⟩) hS.2.2 dX5_addTent_37
    · have c_16 : 10 ≤ (c_nt S) := cb_nlt (by omega) (by omega) c_16
      obtain ⟨sa, hstr⟩ := hE.2.2.2.1 (82, "there are 10 tents") (by decide +kernel)
      have hpx : px [xE_A, xE_S] (k_addTent S x0) "java/lang/IllegalStateException" := (px_of (n := 1) (by rw [k_addTent, if_pos hw_4, if_neg (Nat.not_lt.mpr c_16)]) rfl)
      rw [hQ]
      exact vx_throwS (own := RX5) (cls := "java/lang/IllegalStateException") (names := ["java/lang/RuntimeException", "java/lang/Exception"]) (ik := 51) (is := 82) (ic := 55) hx hb hl9 hown (by decide) (by decide) f_2 f_3 hstr (cb_atS (fun w h => hts w (List.mem_cons_of_mem _ (List.mem_append_left _ (List.mem_append_right _ h)))) hE.2.2.1) cb_gdS hE.1 hE.2.1 hS (hl.1.trans hml.symm) dX5_addTent_19 dX5_addTent_22 dX5_addTent_23 dX5_addTent_25 dX5_addTent_28 (fun x hx => (htab x hx).elim) (Nat.le_of_ble_eq_true rfl) (Nat.le_of_ble_eq_true rfl) (by decide) (by decide) hlocks (fun t ha hz hk => cX_of hP hK hD hS ha hz hk hpx) hS.2.2 (by decide) (by decide)
abbrev rm_X5_inTent : Room := { frames := 7, cells := 8, slots := 48, locals := 111 }
set_option maxHeartbeats 4000000 in
set_option maxRecDepth 100000 in
theorem c_X5_inTent (l : Launch) (hl9 : l.stackTraces = false) (dC : Nat → ClassId) (dI : Nat → Nat → Nat) (a : Nat → Nat) (k : Nat → ClassId) (S : cs_S) (sz : Nat) (x0 : Int32) (hI : Inv S) : vx_Met l yX5_inTent wsX5_inTent rm_X5_inTent (va_Pc [.ref (a 0), .int x0] (cU dC dI sz (cb_w a k S) (cb_ty k))) (va_Ql (fun (r : Int64) (_ : Unit) => k_inTent S x0 = 0 ∧ r = r_inTent S x0) (fun _ t => cB dC dI (va_A (cb_w a k S) sz) (cb_w a k S) (cb_ty k) t) (va_A (cb_w a k S) sz)) (cX dC dI (cb_w a k S) (cb_ty k) (va_A (cb_w a k S) sz) (fun E => px [xE_I] (k_inTent S x0) E)) 8 48 (va_A (cb_w a k S) sz) := by
  refine vx_ofW (cc := cX5_inTent) (maxL := 2) (ret := (some .long)) (by decide) rfl ?_
  intro p e s m args below meth c s₁ B hml htab hv
  obtain ⟨rfl, ⟨hsz, hP, hK, hD0⟩, hE⟩ := hv
  have hx := B.exec
  have hb := B.bytes
  have hr := B.returns
  have hts := atoms_spec (ws := wsX5_inTent) B.pre
  have hown : s.vm.findClass RX5 = some m.cls := findClass_of_methodNamed B.named
  have hlocks := B.notSynchronized
  subst hsz
  have hD := hD0.self (sz := s.heap.size)
  generalize hAe : va_A (cb_w a k S) s.heap.size = A at hD hE ⊢
  have hA : ∀ q : Nat, s.heap.size ≤ q → A q := fun q h => by rw [← hAe]; exact Or.inr h
  have hS : va_S A s.heap s.heap [] := va_S.rf
  obtain ⟨Q, hQ⟩ : ∃ Q, Q = vx_MQ below (va_Ql (fun (r : Int64) (_ : Unit) => k_inTent S x0 = 0 ∧ r = r_inTent S x0) (fun _ t => cB dC dI A (cb_w a k S) (cb_ty k) t) A) (cX dC dI (cb_w a k S) (cb_ty k) A (fun E => px [xE_I] (k_inTent S x0) E)) ([.ref (a 0), .int x0] : List Value).toArray s 8 48 A := ⟨_, rfl⟩
  show W p l e rm_X5_inTent s m _ below meth c s.heap [] 0 0 (vx_MQ below _ _ _ _ _ _ _) _
  rw [← hQ]
  have i_X4 : ∀ w ∈ wsX40, w ∈ wsX5_inTent := fun w h => List.mem_cons_of_mem _ (List.mem_append_left _ (List.mem_append_right _ h))
  have i_X5 : ∀ w ∈ wsX50, w ∈ wsX5_inTent := fun w h => List.mem_cons_of_mem _ (List.mem_append_left _ (List.mem_append_left _ (List.mem_append_right _ h)))
  obtain ⟨⟨hday, hnp, hns, hnt, hnf, hnm, hnb, hme⟩, hpat, hage, hten, hcnt, hplc, heat, hned, hhld, hbad, hbad0, hbag⟩ := id hI
  have f_0 := hts (.fieldLink RX5 19 "CampBook" "tents" "LCampBook$Tents;") (by decide +kernel)
  have f_1 := hts (.fieldLink RX5 79 "CampBook$Tents" "size" "I") (by decide +kernel)
  have f_2 := hts (.fieldLink RX5 108 "CampBook$Tents" "sleepers" "[J") (by decide +kernel)
  have hl := lv_entry ([.ref (a 0), .int x0]) (n := 2) (Nat.le_of_ble_eq_true rfl)
  rw [lg_entry_eq]
  generalize (lg_sl ([.ref (a 0), .int x0]) ++ List.replicate (2 - (lg_sl ([.ref (a 0), .int x0])).length) Slot.unset).toArray = ls at hl ⊢
  have hl : lv_has ls 2 [(0, .ref (a 0)), (1, .int x0)] := hl
  refine lv_iload_n hx hb dX5_inTent_0 rfl (lv_at hl 1 rfl) ?_
  refine lv_aload_n hx hb dX5_inTent_1 rfl (lv_at hl 0 rfl) ?_
  refine va_get (D := (dC, dI)) (ci := 5) (v := .ref (a 2)) (C := RX5) (T := TX5) (N := 6) hx hb hts i_X5 hown hK hP 0 rfl rfl 1 (by decide) f_0 (fun _ h9 => h9) rfl dX5_inTent_2 ?_
  refine va_get (D := (dC, dI)) (ci := 4) (v := .int (nI (c_nt S))) (C := RX4) (T := TX4) (N := 3) hx hb hts i_X4 hown hK hP 2 rfl rfl 0 (by decide) f_1 (fun _ h9 => h9) rfl dX5_inTent_5 ?_
  have hF_8 : ∀ q, va_A ([] : va_W) s.heap.size q → A q := fun q h => hA q (Nat.le_trans hS.1 (va_A_nil h))
  refine vx_callv (vx_runS (As := [.int x0, .int (nI (c_nt S))]) (rest := []) ⟨hx, hb, hml, hown, hts⟩ (c_X5_checkNumber l hl9 dC dI a k S s.heap.size x0 (c_nt S) (by omega)) (va_cwS 2 hts gX5_inTent_X5_checkNumber rfl rfl rfl (by decide +kernel) ⟨(Nat.le_of_ble_eq_true rfl), (Nat.le_of_ble_eq_true rfl)⟩) ⟨cU_blind, fun U hU hW => ⟨rfl, cU_of (hK.sub (tys' := []) [] rfl) (hP.sub (ws' := []) [] rfl) (hD.sub (ws' := []) [] (by decide) rfl) hE hS hU hW hF_8⟩⟩ rfl rfl hl.1 rfl (lv_room (Nat.le_of_ble_eq_true rfl)) dX5_inTent_8 ⟨(by show 0 + 1 ≤ 8; omega), (by show 0 + 6 ≤ 48; omega)⟩) hS (fun q _ h => hF_8 q h) hF_8 (fun q _ h => hF_8 q h) (fun E ce q9 u8 t8 H_8 L_8_ ht hvm _ hB hz1 hk1 hS hce hcv hcl => ?_) (fun u8 t8 H_8 L_8_ ht hvm hw hB hz1 hk1 hS => ?_)
  · obtain ⟨hpx9, hB9⟩ := hB
    have hP := cW_keep hP hk1
    rw [hQ]
    exact vx_out (fun x hx => (htab x hx).elim) hlocks hce hcv hcl (fun t9 h9 ha9 => cX_out hP hK hD hS h9 ha9 ((by rw [hpx9.1]; exact px_of (n := 0) (by rw [k_inTent, if_neg (by rw [hpx9.2]; decide)]) rfl))) hS.2.2 (by omega) (by omega)
  · skip
    have hP := cW_keep hP hk1
    have hw_8 := hw
    obtain ⟨t, ht, et⟩ := ix_t hw_8 (by omega)
    rw [et] at hl
    have tt : toN x0 = t := by rw [et]; exact tn (by omega)
    refine lv_aload_n hx hb dX5_inTent_11 rfl (lv_at hl 0 rfl) ?_
    refine va_get (D := (dC, dI)) (ci := 5) (v := .ref (a 2)) (C := RX5) (T := TX5) (N := 6) hx hb hts i_X5 hown hK hP 0 rfl rfl 1 (by decide) f_0 (fun _ h9 => h9) rfl dX5_inTent_12 ?_
    refine va_get (D := (dC, dI)) (ci := 4) (v := .ref (a 13)) (C := RX4) (T := TX4) (N := 3) hx hb hts i_X4 hown hK hP 2 rfl rfl 2 (by decide) f_2 (fun _ h9 => h9) rfl dX5_inTent_15 ?_
    refine lv_iload_n hx hb dX5_inTent_18 rfl (lv_at hl 1 rfl) ?_
    refine cb_lald hx hb hK hP 13 7 (f := c_sl S) rfl rfl (j := t) (by omega) (Nat.le_of_ble_eq_true rfl) dX5_inTent_19 ?_
    refine cb_topl (z := lN (bs (inT S t) (c_ns S))) (c_sl_at (by omega)) ?_
    have ew : (cb_W a k S (c_sl S) (c_pt S) (c_at S)) = (cb_w a k S) := rfl
    have hP : va_P (dC, dI) vwCl (cb_w a k S) H_8 := by rw [← ew]; exact hP
    have hD : va_D A (cb_w a k S) := by rw [← ew]; exact hD
    rw [hQ]
    refine vx_ret ?_
    refine W.widen (k := 8) (n := 48) (by omega) (by omega) ?_
    exact W.lret (v := lN (bs (inT S t) (c_ns S))) hx hb hr (fun t9 ht9 hW9 => ⟨⟨lN (bs (inT S t) (c_ns S)), (), rfl, ⟨by rw [k_inTent, if_pos hw_8], by rw [r_inTent, tt]; rfl⟩, cB_of hP hK hD ht9 hW9⟩, hS.F ht9⟩) hS.2.2 dX5_inTent_20
abbrev rm_X5_count : Room := { frames := 7, cells := 8, slots := 48, locals := 111 }
abbrev rm_X5_duty : Room := { frames := 7, cells := 8, slots := 48, locals := 111 }
set_option maxHeartbeats 4000000 in
set_option maxRecDepth 100000 in
theorem c_X5_duty (l : Launch) (hl9 : l.stackTraces = false) (dC : Nat → ClassId) (dI : Nat → Nat → Nat) (a : Nat → Nat) (k : Nat → ClassId) (S : cs_S) (sz : Nat) (x0 : Int32) (x1 : Int32) (hI : Inv S) : vx_Met l yX5_duty wsX5_duty rm_X5_duty (va_Pc [.ref (a 0), .int x0, .int x1] (cU dC dI sz (cb_w a k S) (cb_ty k))) (va_Qi (fun (r : Int32) (_ : Unit) => k_duty x0 x1 = 0 ∧ r = r_giveDuty S x0 x1) (fun _ t => cB dC dI (va_A (cb_w a k S) sz) (cb_w a k S) (cb_ty k) t) (va_A (cb_w a k S) sz)) (cX dC dI (cb_w a k S) (cb_ty k) (va_A (cb_w a k S) sz) (fun E => px [xE_I] (k_duty x0 x1) E)) 8 48 (va_A (cb_w a k S) sz) := by
  refine vx_ofW (cc := cX5_duty) (maxL := 3) (ret := (some .int)) (by decide) rfl ?_
  intro p e s m args below meth c s₁ B hml htab hv
  obtain ⟨rfl, ⟨hsz, hP, hK, hD0⟩, hE⟩ := hv
  have hx := B.exec
  have hb := B.bytes
  have hr := B.returns
  have hts := atoms_spec (ws := wsX5_duty) B.pre
  have hown : s.vm.findClass RX5 = some m.cls := findClass_of_methodNamed B.named
  have hlocks := B.notSynchronized
  subst hsz
  have hD := hD0.self (sz := s.heap.size)
  generalize hAe : va_A (cb_w a k S) s.heap.size = A at hD hE ⊢
  have hA : ∀ q : Nat, s.heap.size ≤ q → A q := fun q h => by rw [← hAe]; exact Or.inr h
  have hS : va_S A s.heap s.heap [] := va_S.rf
  obtain ⟨Q, hQ⟩ : ∃ Q, Q = vx_MQ below (va_Qi (fun (r : Int32) (_ : Unit) => k_duty x0 x1 = 0 ∧ r = r_giveDuty S x0 x1) (fun _ t => cB dC dI A (cb_w a k S) (cb_ty k) t) A) (cX dC dI (cb_w a k S) (cb_ty k) A (fun E => px [xE_I] (k_duty x0 x1) E)) ([.ref (a 0), .int x0, .int x1] : List Value).toArray s 8 48 A := ⟨_, rfl⟩
  show W p l e rm_X5_duty s m _ below meth c s.heap [] 0 0 (vx_MQ below _ _ _ _ _ _ _) _
  rw [← hQ]
  have i_X5 : ∀ w ∈ wsX50, w ∈ wsX5_duty := fun w h => List.mem_cons_of_mem _ (List.mem_append_left _ (List.mem_append_left _ (List.mem_append_right _ h)))
  obtain ⟨⟨hday, hnp, hns, hnt, hnf, hnm, hnb, hme⟩, hpat, hage, hten, hcnt, hplc, heat, hned, hhld, hbad, hbad0, hbag⟩ := id hI
  have f_0 := hts (.fieldLink RX5 26 "CampBook" "duties" "LCampBook$Duties;") (by decide +kernel)
  have hl := lv_entry ([.ref (a 0), .int x0, .int x1]) (n := 3) (Nat.le_of_ble_eq_true rfl)
  rw [lg_entry_eq]
  generalize (lg_sl ([.ref (a 0), .int x0, .int x1]) ++ List.replicate (3 - (lg_sl ([.ref (a 0), .int x0, .int x1])).length) Slot.unset).toArray = ls at hl ⊢
  have hl : lv_has ls 3 [(0, .ref (a 0)), (1, .int x0), (2, .int x1)] := hl
  refine lv_iload_n hx hb dX5_duty_0 rfl (lv_at hl 2 rfl) ?_
  refine lv_iconst (v := nI 5) hx hb dX5_duty_1 (by decide) ?_
  have hF_2 : ∀ q, va_A ([] : va_W) s.heap.size q → A q := fun q h => hA q (Nat.le_trans hS.1 (va_A_nil h))
  refine vx_callv (vx_runS (As := [.int x1, .int (nI 5)]) (rest := []) ⟨hx, hb, hml, hown, hts⟩ (c_X5_checkNumber l hl9 dC dI a k S s.heap.size x1 5 (by omega)) (va_cwS 2 hts gX5_duty_X5_checkNumber rfl rfl rfl (by decide +kernel) ⟨(Nat.le_of_ble_eq_true rfl), (Nat.le_of_ble_eq_true rfl)⟩) ⟨cU_blind, fun U hU hW => ⟨rfl, cU_of (hK.sub (tys' := []) [] rfl) (hP.sub (ws' := []) [] rfl) (hD.sub (ws' := []) [] (by decide) rfl) hE hS hU hW hF_2⟩⟩ rfl rfl hl.1 rfl (lv_room (Nat.le_of_ble_eq_true rfl)) dX5_duty_2 ⟨(by show 0 + 1 ≤ 8; omega), (by show 0 + 6 ≤ 48; omega)⟩) hS (fun q _ h => hF_2 q h) hF_2 (fun q _ h => hF_2 q h) (fun E ce q9 u8 t8 H_2 L_2_ ht hvm _ hB hz1 hk1 hS hce hcv hcl => ?_) (fun u8 t8 H_2 L_2_ ht hvm hw hB hz1 hk1 hS => ?_)
  · obtain ⟨hpx9, hB9⟩ := hB
    have hP := cW_keep hP hk1
    rw [hQ]
    exact vx_out (fun x hx => (htab x hx).elim) hlocks hce hcv hcl (fun t9 h9 ha9 => cX_out hP hK hD hS h9 ha9 ((by rw [hpx9.1]; exact px_of (n := 0) (by rw [k_duty, if_neg (by rw [hpx9.2]; decide)]) rfl))) hS.2.2 (by omega) (by omega)
  · skip
    have hP := cW_keep hP hk1
    have hw_2 := hw
    obtain ⟨q, hq, eq⟩ := ix_t hw_2 (by omega)
    rw [eq] at hl
    have tq : toN x1 = q := by rw [eq]; exact tn (by omega)
    refine lv_iload_n hx hb dX5_duty_5 rfl (lv_at hl 1 rfl) ?_
    refine lv_bipush (v := nI 61) hx hb dX5_duty_6 (by decide) ?_
    have hF_8 : ∀ q, va_A ([] : va_W) H_2.size q → A q := fun q h => hA q (Nat.le_trans hS.1 (va_A_nil h))
    refine vx_callv (vx_runS (As := [.int x0, .int (nI 61)]) (rest := []) ⟨hx, hb, hml, hown, hts⟩ (c_X5_checkNumber l hl9 dC dI a k S H_2.size x0 61 (by omega)) (va_cwS 2 hts gX5_duty_X5_checkNumber rfl rfl rfl (by decide +kernel) ⟨(Nat.le_of_ble_eq_true rfl), (Nat.le_of_ble_eq_true rfl)⟩) ⟨cU_blind, fun U hU hW => ⟨rfl, cU_of (hK.sub (tys' := []) [] rfl) (hP.sub (ws' := []) [] rfl) (hD.sub (ws' := []) [] (by decide) rfl) hE hS hU hW hF_8⟩⟩ rfl rfl hl.1 rfl (lv_room (Nat.le_of_ble_eq_true rfl)) dX5_duty_8 ⟨(by show (0 + 1) + 1 ≤ 8; omega), (by show (0 + 6) + 6 ≤ 48; omega)⟩) hS (fun q _ h => hF_8 q h) hF_8 (fun q _ h => hF_8 q h) (fun E ce q9 u8 t8 H_8 L_8_ ht hvm _ hB hz1 hk1 hS hce hcv hcl => ?_) (fun u8 t8 H_8 L_8_ ht hvm hw hB hz1 hk1 hS => ?_)
    · obtain ⟨hpx9, hB9⟩ := hB
      have hP := cW_keep hP hk1
      rw [hQ]
      exact vx_out (fun x hx => (htab x hx).elim) hlocks hce hcv hcl (fun t9 h9 ha9 => cX_out hP hK hD hS h9 ha9 ((by rw [hpx9.1]; exact px_of (n := 0) (by rw [k_duty, if_pos hw_2, if_neg (by rw [hpx9.2]; decide)]) rfl))) hS.2.2 (by omega) (by omega)
    · skip
      have hP := cW_keep hP hk1
      have hw_8 := hw
      obtain ⟨d, hd, ed⟩ := ix_t hw_8 (by omega)
      rw [ed] at hl
      have td : toN x0 = d := by rw [ed]; exact tn (by omega)
      refine lv_aload_n hx hb dX5_duty_11 rfl (lv_at hl 0 rfl) ?_
      refine va_get (D := (dC, dI)) (ci := 5) (v := .ref (a 3)) (C := RX5) (T := TX5) (N := 6) hx hb hts i_X5 hown hK hP 0 rfl rfl 2 (by decide) f_0 (fun _ h9 => h9) rfl dX5_duty_12 ?_
      refine lv_iload_n hx hb dX5_duty_15 rfl (lv_at hl 1 rfl) ?_
      refine lv_iload_n hx hb dX5_duty_16 rfl (lv_at hl 2 rfl) ?_
      refine vp_callSi (W.runV (As := [.int (nI d), .int (nI q)]) (rest := []) ⟨hx, hb, hml, hown, hts⟩ (c_X1_holderOn l dC dI a k S (nI d) q (by omega)) (cwV 2 hts gX5_duty_X1_holderOn rfl rfl rfl (by decide +kernel) ⟨(Nat.le_of_ble_eq_true rfl), (Nat.le_of_ble_eq_true rfl)⟩) ⟨cR_blind, va_recv hK hP (ci := 1) (q0 := 3) rfl rfl, fun U hU hW => ⟨rfl, cR_of hK hP hU hW⟩⟩ rfl rfl hl.1 rfl (lv_room (Nat.le_of_ble_eq_true rfl)) dX5_duty_17 ⟨(by show ((0 + 1) + 1) + 0 ≤ 8; omega), (by show ((0 + 6) + 6) + 0 ≤ 48; omega)⟩) (fun r er => ?_)
      subst er
      refine cb_topi (z := c_hld S (d * 5 + q)) (hol_nI (by omega)) ?_
      have ew : (cb_W a k S (c_sl S) (c_pt S) (c_at S)) = (cb_w a k S) := rfl
      have hP : va_P (dC, dI) vwCl (cb_w a k S) H_8 := by rw [← ew]; exact hP
      have hD : va_D A (cb_w a k S) := by rw [← ew]; exact hD
      rw [hQ]
      refine vx_ret ?_
      refine W.widen (k := 8) (n := 48) (by omega) (by omega) ?_
      exact W.iret (v := c_hld S (d * 5 + q)) hx hb hr (fun t9 ht9 hW9 => ⟨⟨c_hld S (d * 5 + q), (), rfl, ⟨by rw [k_duty, if_pos hw_2, if_pos hw_8], by rw [r_giveDuty, td, tq]⟩, cB_of hP hK hD ht9 hW9⟩, hS.F ht9⟩) hS.2.2 dX5_duty_20
abbrev rm_X5_points : Room := { frames := 7, cells := 8, slots := 48, locals := 111 }
abbrev rm_X5_addFood : Room := { frames := 7, cells := 8, slots := 48, locals := 112 }
set_option maxHeartbeats 4000000 in
set_option maxRecDepth 100000 in
theorem c_X5_addFood (l : Launch) (hl9 : l.stackTraces = false) (dC : Nat → ClassId) (dI : Nat → Nat → Nat) (a : Nat → Nat) (k : Nat → ClassId) (S : cs_S) (sz : Nat) (x0 : Int32) (hI : Inv S) : vx_Met l yX5_addFood wsX5_addFood rm_X5_addFood (va_Pc [.ref (a 0), .int x0] (cU dC dI sz (cb_w a k S) (cb_ty k))) (va_Qi (fun (r : Int32) (_ : Unit) => k_addFood S x0 = 0 ∧ r = nI (c_nf S)) (fun _ t => cB dC dI (va_A (cb_w a k S) sz) (cb_w a k (S_addFood S x0)) (cb_ty k) t) (va_A (cb_w a k S) sz)) (cX dC dI (cb_w a k S) (cb_ty k) (va_A (cb_w a k S) sz) (fun E => px [xE_A, xE_S] (k_addFood S x0) E)) 8 48 (va_A (cb_w a k S) sz) := by
  refine vx_ofW (cc := cX5_addFood) (maxL := 2) (ret := (some .int)) (by decide) rfl ?_
  intro p e s m args below meth c s₁ B hml htab hv
  obtain ⟨rfl, ⟨hsz, hP, hK, hD0⟩, hE⟩ := hv
  have hx := B.exec
  have hb := B.bytes
  have hr := B.returns
  have hts := atoms_spec (ws := wsX5_addFood) B.pre
  have hown : s.vm.findClass RX5 = some m.cls := findClass_of_methodNamed B.named
  have hlocks := B.notSynchronized
  subst hsz
  have hD := hD0.self (sz := s.heap.size)
  generalize hAe : va_A (cb_w a k S) s.heap.size = A at hD hE ⊢
  have hA : ∀ q : Nat, s.heap.size ≤ q → A q := fun q h => by rw [← hAe]; exact Or.inr h
  have hS : va_S A s.heap s.heap [] := va_S.rf
  obtain ⟨Q, hQ⟩ : ∃ Q, Q = vx_MQ below (va_Qi (fun (r : Int32) (_ : Unit) => k_addFood S x0 = 0 ∧ r = nI (c_nf S)) (fun _ t => cB dC dI A (cb_w a k (S_addFood S x0)) (cb_ty k) t) A) (cX dC dI (cb_w a k S) (cb_ty k) A (fun E => px [xE_A, xE_S] (k_addFood S x0) E)) ([.ref (a 0), .int x0] : List Value).toArray s 8 48 A := ⟨_, rfl⟩
  show W p l e rm_X5_addFood s m _ below meth c s.heap [] 0 0 (vx_MQ below _ _ _ _ _ _ _) _
  rw [← hQ]
  have i_X2 : ∀ w ∈ wsX20, w ∈ wsX5_addFood := fun w h => List.mem_cons_of_mem _ (List.mem_append_left _ (List.mem_append_left _ (List.mem_append_right _ h)))
  have i_X5 : ∀ w ∈ wsX50, w ∈ wsX5_addFood := fun w h => List.mem_cons_of_mem _ (List.mem_append_left _ (List.mem_append_left _ (List.mem_append_left _ (List.mem_append_right _ h))))
  obtain ⟨⟨hday, hnp, hns, hnt, hnf, hnm, hnb, hme⟩, hpat, hage, hten, hcnt, hplc, heat, hned, hhld, hbad, hbad0, hbag⟩ := id hI
  have f_0 := hts (.fieldLink RX5 33 "CampBook" "kitchen" "LCampBook$Kitchen;") (by decide +kernel)
  have f_1 := hts (.fieldLink RX5 151 "CampBook$Kitchen" "foods" "I") (by decide +kernel)
  have f_2 := hts (.fieldLink RX5 156 "CampBook$Kitchen" "stores" "[I") (by decide +kernel)
  have f_3 := hts (.classLink RX5 51 "java/lang/IllegalStateException") (by decide +kernel)
  have f_4 := hts (.initialized "java/lang/IllegalStateException") (by decide +kernel)
  have hl := lv_entry ([.ref (a 0), .int x0]) (n := 2) (Nat.le_of_ble_eq_true rfl)
  rw [lg_entry_eq]
  generalize (lg_sl ([.ref (a 0), .int x0]) ++ List.replicate (2 - (lg_sl ([.ref (a 0), .int x0])).length) Slot.unset).toArray = ls at hl ⊢
  have hl : lv_has ls 2 [(0, .ref (a 0)), (1, .int x0)] := hl
  refine lv_iload_n hx hb dX5_addFood_0 rfl (lv_at hl 1 rfl) ?_
  refine lv_iconst (v := nI 0) hx hb dX5_addFood_1 (by decide) ?_
  refine lv_sipush (v := nI 10000) hx hb dX5_addFood_2 (by decide) ?_
  have hF_5 : ∀ q, va_A ([] : va_W) s.heap.size q → A q := fun q h => hA q (Nat.le_trans hS.1 (va_A_nil h))
  refine vx_callv (vx_runS (As := [.int x0, .int (nI 0), .int (nI 10000)]) (rest := []) ⟨hx, hb, hml, hown, hts⟩ (c_X5_checkArgument l hl9 dC dI a k S s.heap.size x0 (nI 0) (nI 10000)) (va_cwS 3 hts gX5_addFood_X5_checkArgument rfl rfl rfl (by decide +kernel) ⟨(Nat.le_of_ble_eq_true rfl), (Nat.le_of_ble_eq_true rfl)⟩) ⟨cU_blind, fun U hU hW => ⟨rfl, cU_of (hK.sub (tys' := []) [] rfl) (hP.sub (ws' := []) [] rfl) (hD.sub (ws' := []) [] (by decide) rfl) hE hS hU hW hF_5⟩⟩ rfl rfl hl.1 rfl (lv_room (Nat.le_of_ble_eq_true rfl)) dX5_addFood_5 ⟨(by show 0 + 1 ≤ 8; omega), (by show 0 + 6 ≤ 48; omega)⟩) hS (fun q _ h => hF_5 q h) hF_5 (fun q _ h => hF_5 q h) (fun E ce q9 u8 t8 H_5 L_5_ ht hvm _ hB hz1 hk1 hS hce hcv hcl => ?_) (fun u8 t8 H_5 L_5_ ht hvm hw hB hz1 hk1 hS => ?_)
  · obtain ⟨hpx9, hB9⟩ := hB
    have hP := cW_keep hP hk1
    rw [hQ]
    exact vx_out (fun x hx => (htab x hx).elim) hlocks hce hcv hcl (fun t9 h9 ha9 => cX_out hP hK hD hS h9 ha9 ((by rw [hpx9.1]; exact px_of (n := 0) (by rw [k_addFood, if_neg (by rw [hpx9.2]; decide)]) rfl))) hS.2.2 (by omega) (by omega)
  · skip
    have hP := cW_keep hP hk1
    have hw_5 := hw
    refine lv_aload_n hx hb dX5_addFood_8 rfl (lv_at hl 0 rfl) ?_
    refine va_get (D := (dC, dI)) (ci := 5) (v := .ref (a 4)) (C := RX5) (T := TX5) (N := 6) hx hb hts i_X5 hown hK hP 0 rfl rfl 3 (by decide) f_0 (fun _ h9 => h9) rfl dX5_addFood_9 ?_
    refine va_get (D := (dC, dI)) (ci := 2) (v := .int (nI (c_nf S))) (C := RX2) (T := TX2) (N := 6) hx hb hts i_X2 hown hK hP 4 rfl rfl 0 (by decide) f_1 (fun _ h9 => h9) rfl dX5_addFood_12 ?_
    refine lv_bipush (v := nI 12) hx hb dX5_addFood_15 (by decide) ?_
    refine lv_icmp_lt (tgt := 30) hx hb dX5_addFood_17 (by decide) (fun c_17 => ?_) (fun c_17 => ?_)
    · have c_17 : (c_nf S) < 12 := cb_lt (by omega) (by omega) c_17
      refine lv_aload_n hx hb dX5_addFood_30 rfl (lv_at hl 0 rfl) ?_
      refine va_get (D := (dC, dI)) (ci := 5) (v := .ref (a 4)) (C := RX5) (T := TX5) (N := 6) hx hb hts i_X5 hown hK hP 0 rfl rfl 3 (by decide) f_0 (fun _ h9 => h9) rfl dX5_addFood_31 ?_
      refine va_get (D := (dC, dI)) (ci := 2) (v := .ref (a 16)) (C := RX2) (T := TX2) (N := 6) hx hb hts i_X2 hown hK hP 4 rfl rfl 4 (by decide) f_2 (fun _ h9 => h9) rfl dX5_addFood_34 ?_
      refine lv_aload_n hx hb dX5_addFood_37 rfl (lv_at hl 0 rfl) ?_
      refine va_get (D := (dC, dI)) (ci := 5) (v := .ref (a 4)) (C := RX5) (T := TX5) (N := 6) hx hb hts i_X5 hown hK hP 0 rfl rfl 3 (by decide) f_0 (fun _ h9 => h9) rfl dX5_addFood_38 ?_
      refine va_get (D := (dC, dI)) (ci := 2) (v := .int (nI (c_nf S))) (C := RX2) (T := TX2) (N := 6) hx hb hts i_X2 hown hK hP 4 rfl rfl 0 (by decide) f_1 (fun _ h9 => h9) rfl dX5_addFood_41 ?_
      refine lv_iload_n hx hb dX5_addFood_44 rfl (lv_at hl 1 rfl) ?_
      refine cb_iast hx hb hK hP hD hS 16 10 (f := c_sto S) rfl rfl (j := c_nf S) (by omega) (Nat.le_of_ble_eq_true rfl) dX5_addFood_45 (fun H locs hP hD hS => ?_)
      rw [wsC_sto] at hP hD
      have hP : va_P (dC, dI) vwCl (cb_W a k (s_sto S (upd (c_sto S) (c_nf S) x0)) (c_sl S) (c_pt S) (c_at S)) H := hP
      have hD : va_D A (cb_W a k (s_sto S (upd (c_sto S) (c_nf S) x0)) (c_sl S) (c_pt S) (c_at S)) := hD
      refine lv_aload_n hx hb dX5_addFood_46 rfl (lv_at hl 0 rfl) ?_
      refine va_get (D := (dC, dI)) (ci := 5) (v := .ref (a 4)) (C := RX5) (T := TX5) (N := 6) hx hb hts i_X5 hown hK hP 0 rfl rfl 3 (by decide) f_0 (fun _ h9 => h9) rfl dX5_addFood_47 ?_
      refine lv_dup hx hb dX5_addFood_50 rfl ?_
      refine va_get (D := (dC, dI)) (ci := 2) (v := .int (nI (c_nf S))) (C := RX2) (T := TX2) (N := 6) hx hb hts i_X2 hown hK hP 4 rfl rfl 0 (by decide) f_1 (fun _ h9 => h9) rfl dX5_addFood_51 ?_
      refine lv_iconst (v := nI 1) hx hb dX5_addFood_54 (by decide) ?_
      refine lv_iadd hx hb dX5_addFood_55 ?_
      refine cb_topi (nI_add _ _) ?_
      refine va_put (D := (dC, dI)) (ci := 2) (v := .int (nI ((c_nf S) + 1))) (ty := .int) (C := RX2) (T := TX2) (N := 6) hx hb hts i_X2 tyX2 tyX2_ok nmX2 hown hK hP hD hS 4 rfl rfl 0 (by decide) f_1 (fun _ h9 => h9) rfl (by decide +kernel) rfl rfl (Nat.le_of_ble_eq_true rfl) dX5_addFood_56 (fun H locs hP hD hS => ?_)
      rw [wsC_nf] at hP hD
      have hP : va_P (dC, dI) vwCl (cb_W a k (s_nf (s_sto S (upd (c_sto S) (c_nf S) x0)) ((c_nf S) + 1)) (c_sl S) (c_pt S) (c_at S)) H := hP
      have hD : va_D A (cb_W a k (s_nf (s_sto S (upd (c_sto S) (c_nf S) x0)) ((c_nf S) + 1)) (c_sl S) (c_pt S) (c_at S)) := hD
      refine lv_aload_n hx hb dX5_addFood_59 rfl (lv_at hl 0 rfl) ?_
      refine va_get (D := (dC, dI)) (ci := 5) (v := .ref (a 4)) (C := RX5) (T := TX5) (N := 6) hx hb hts i_X5 hown hK hP 0 rfl rfl 3 (by decide) f_0 (fun _ h9 => h9) rfl dX5_addFood_60 ?_
      refine va_get (D := (dC, dI)) (ci := 2) (v := .int (nI ((c_nf S) + 1))) (C := RX2) (T := TX2) (N := 6) hx hb hts i_X2 hown hK hP 4 rfl rfl 0 (by decide) f_1 (fun _ h9 => h9) rfl dX5_addFood_63 ?_
      refine lv_iconst (v := nI 1) hx hb dX5_addFood_66 (by decide) ?_
      refine lv_isub hx hb dX5_addFood_67 ?_
      have ew : (cb_W a k (s_nf (s_sto S (upd (c_sto S) (c_nf S) x0)) ((c_nf S) + 1)) (c_sl S) (c_pt S) (c_at S)) = (cb_w a k (S_addFood S x0)) := rfl
      have hP : va_P (dC, dI) vwCl (cb_w a k (S_addFood S x0)) H := by rw [← ew]; exact hP
      have hD : va_D A (cb_w a k (S_addFood S x0)) := by rw [← ew]; exact hD
      rw [hQ]
      refine vx_ret ?_
      refine W.widen (k := 8) (n := 48) (by omega) (by omega) ?_
      exact W.iret (v := (nI ((c_nf S) + 1)) - (nI 1)) hx hb hr (fun t9 ht9 hW9 => ⟨⟨(nI ((c_nf S) + 1)) - (nI 1), (), rfl, ⟨by rw [k_addFood, if_pos hw_5, if_pos c_17], by rw [pk_sub (by omega)]; rfl⟩, cB_of hP hK hD ht9 hW9⟩, hS.F ht9⟩) hS.2.2 dX5_addFood_68
    · have c_17 : 12 ≤ (c_nf S) := cb_nlt (by omega) (by omega) c_17
      obtain ⟨sa, hstr⟩ := hE.2.2.2.1 (154, "there are 12 foods") (by decide +kernel)
      have hpx : px [xE_A, xE_S] (k_addFood S x0) "java/lang/IllegalStateException" := (px_of (n := 1) (by rw [k_addFood, if_pos hw_5, if_neg (Nat.not_lt.mpr c_17)]) rfl)
      rw [hQ]
      exact vx_throwS (own := RX5) (cls := "java/lang/IllegalStateException") (names := ["java/lang/RuntimeException", "java/lang/Exception"]) (ik := 51) (is := 154) (ic := 55) hx hb hl9 hown (by decide) (by decide) f_3 f_4 hstr (cb_atS (fun w h => hts w (List.mem_cons_of_mem _ (List.mem_append_left _ (List.mem_append_right _ h)))) hE.2.2.1) cb_gdS hE.1 hE.2.1 hS (hl.1.trans hml.symm) dX5_addFood_20 dX5_addFood_23 dX5_addFood_24 dX5_addFood_26 dX5_addFood_29 (fun x hx => (htab x hx).elim) (Nat.le_of_ble_eq_true rfl) (Nat.le_of_ble_eq_true rfl) (by decide) (by decide) hlocks (fun t ha hz hk => cX_of hP hK hD hS ha hz hk hpx) hS.2.2 (by decide) (by decide)
abbrev rm_X5_buy : Room := { frames := 7, cells := 8, slots := 48, locals := 112 }
abbrev rm_X5_store : Room := { frames := 7, cells := 8, slots := 48, locals := 111 }
set_option maxHeartbeats 4000000 in
set_option maxRecDepth 100000 in
theorem c_X5_store (l : Launch) (hl9 : l.stackTraces = false) (dC : Nat → ClassId) (dI : Nat → Nat → Nat) (a : Nat → Nat) (k : Nat → ClassId) (S : cs_S) (sz : Nat) (x0 : Int32) (hI : Inv S) : vx_Met l yX5_store wsX5_store rm_X5_store (va_Pc [.ref (a 0), .int x0] (cU dC dI sz (cb_w a k S) (cb_ty k))) (va_Qi (fun (r : Int32) (_ : Unit) => k_store S x0 = 0 ∧ r = r_store S x0) (fun _ t => cB dC dI (va_A (cb_w a k S) sz) (cb_w a k S) (cb_ty k) t) (va_A (cb_w a k S) sz)) (cX dC dI (cb_w a k S) (cb_ty k) (va_A (cb_w a k S) sz) (fun E => px [xE_I] (k_store S x0) E)) 8 48 (va_A (cb_w a k S) sz) := by
  refine vx_ofW (cc := cX5_store) (maxL := 2) (ret := (some .int)) (by decide) rfl ?_
  intro p e s m args below meth c s₁ B hml htab hv
  obtain ⟨rfl, ⟨hsz, hP, hK, hD0⟩, hE⟩ := hv
  have hx := B.exec
  have hb := B.bytes
  have hr := B.returns
  have hts := atoms_spec (ws := wsX5_store) B.pre
  have hown : s.vm.findClass RX5 = some m.cls := findClass_of_methodNamed B.named
  have hlocks := B.notSynchronized
  subst hsz
  have hD := hD0.self (sz := s.heap.size)
  generalize hAe : va_A (cb_w a k S) s.heap.size = A at hD hE ⊢
  have hA : ∀ q : Nat, s.heap.size ≤ q → A q := fun q h => by rw [← hAe]; exact Or.inr h
  have hS : va_S A s.heap s.heap [] := va_S.rf
  obtain ⟨Q, hQ⟩ : ∃ Q, Q = vx_MQ below (va_Qi (fun (r : Int32) (_ : Unit) => k_store S x0 = 0 ∧ r = r_store S x0) (fun _ t => cB dC dI A (cb_w a k S) (cb_ty k) t) A) (cX dC dI (cb_w a k S) (cb_ty k) A (fun E => px [xE_I] (k_store S x0) E)) ([.ref (a 0), .int x0] : List Value).toArray s 8 48 A := ⟨_, rfl⟩
  show W p l e rm_X5_store s m _ below meth c s.heap [] 0 0 (vx_MQ below _ _ _ _ _ _ _) _
  rw [← hQ]
  have i_X2 : ∀ w ∈ wsX20, w ∈ wsX5_store := fun w h => List.mem_cons_of_mem _ (List.mem_append_left _ (List.mem_append_right _ h))
  have i_X5 : ∀ w ∈ wsX50, w ∈ wsX5_store := fun w h => List.mem_cons_of_mem _ (List.mem_append_left _ (List.mem_append_left _ (List.mem_append_right _ h)))
  obtain ⟨⟨hday, hnp, hns, hnt, hnf, hnm, hnb, hme⟩, hpat, hage, hten, hcnt, hplc, heat, hned, hhld, hbad, hbad0, hbag⟩ := id hI
  have f_0 := hts (.fieldLink RX5 33 "CampBook" "kitchen" "LCampBook$Kitchen;") (by decide +kernel)
  have f_1 := hts (.fieldLink RX5 151 "CampBook$Kitchen" "foods" "I") (by decide +kernel)
  have f_2 := hts (.fieldLink RX5 156 "CampBook$Kitchen" "stores" "[I") (by decide +kernel)
  have hl := lv_entry ([.ref (a 0), .int x0]) (n := 2) (Nat.le_of_ble_eq_true rfl)
  rw [lg_entry_eq]
  generalize (lg_sl ([.ref (a 0), .int x0]) ++ List.replicate (2 - (lg_sl ([.ref (a 0), .int x0])).length) Slot.unset).toArray = ls at hl ⊢
  have hl : lv_has ls 2 [(0, .ref (a 0)), (1, .int x0)] := hl
  refine lv_iload_n hx hb dX5_store_0 rfl (lv_at hl 1 rfl) ?_
  refine lv_aload_n hx hb dX5_store_1 rfl (lv_at hl 0 rfl) ?_
  refine va_get (D := (dC, dI)) (ci := 5) (v := .ref (a 4)) (C := RX5) (T := TX5) (N := 6) hx hb hts i_X5 hown hK hP 0 rfl rfl 3 (by decide) f_0 (fun _ h9 => h9) rfl dX5_store_2 ?_
  refine va_get (D := (dC, dI)) (ci := 2) (v := .int (nI (c_nf S))) (C := RX2) (T := TX2) (N := 6) hx hb hts i_X2 hown hK hP 4 rfl rfl 0 (by decide) f_1 (fun _ h9 => h9) rfl dX5_store_5 ?_
  have hF_8 : ∀ q, va_A ([] : va_W) s.heap.size q → A q := fun q h => hA q (Nat.le_trans hS.1 (va_A_nil h))
  refine vx_callv (vx_runS (As := [.int x0, .int (nI (c_nf S))]) (rest := []) ⟨hx, hb, hml, hown, hts⟩ (c_X5_checkNumber l hl9 dC dI a k S s.heap.size x0 (c_nf S) (by omega)) (va_cwS 2 hts gX5_store_X5_checkNumber rfl rfl rfl (by decide +kernel) ⟨(Nat.le_of_ble_eq_true rfl), (Nat.le_of_ble_eq_true rfl)⟩) ⟨cU_blind, fun U hU hW => ⟨rfl, cU_of (hK.sub (tys' := []) [] rfl) (hP.sub (ws' := []) [] rfl) (hD.sub (ws' := []) [] (by decide) rfl) hE hS hU hW hF_8⟩⟩ rfl rfl hl.1 rfl (lv_room (Nat.le_of_ble_eq_true rfl)) dX5_store_8 ⟨(by show 0 + 1 ≤ 8; omega), (by show 0 + 6 ≤ 48; omega)⟩) hS (fun q _ h => hF_8 q h) hF_8 (fun q _ h => hF_8 q h) (fun E ce q9 u8 t8 H_8 L_8_ ht hvm _ hB hz1 hk1 hS hce hcv hcl => ?_) (fun u8 t8 H_8 L_8_ ht hvm hw hB hz1 hk1 hS => ?_)
  · obtain ⟨hpx9, hB9⟩ := hB
    have hP := cW_keep hP hk1
    rw [hQ]
    exact vx_out (fun x hx => (htab x hx).elim) hlocks hce hcv hcl (fun t9 h9 ha9 => cX_out hP hK hD hS h9 ha9 ((by rw [hpx9.1]; exact px_of (n := 0) (by rw [k_store, if_neg (by rw [hpx9.2]; decide)]) rfl))) hS.2.2 (by omega) (by omega)
  · skip
    have hP := cW_keep hP hk1
    have hw_8 := hw
    obtain ⟨f, hf, ef⟩ := ix_t hw_8 (by omega)
    rw [ef] at hl
    have tf : toN x0 = f := by rw [ef]; exact tn (by omega)
    refine lv_aload_n hx hb dX5_store_11 rfl (lv_at hl 0 rfl) ?_
    refine va_get (D := (dC, dI)) (ci := 5) (v := .ref (a 4)) (C := RX5) (T := TX5) (N := 6) hx hb hts i_X5 hown hK hP 0 rfl rfl 3 (by decide) f_0 (fun _ h9 => h9) rfl dX5_store_12 ?_
    refine va_get (D := (dC, dI)) (ci := 2) (v := .ref (a 16)) (C := RX2) (T := TX2) (N := 6) hx hb hts i_X2 hown hK hP 4 rfl rfl 4 (by decide) f_2 (fun _ h9 => h9) rfl dX5_store_15 ?_
    refine lv_iload_n hx hb dX5_store_18 rfl (lv_at hl 1 rfl) ?_
    refine cb_iald hx hb hK hP 16 10 (f := c_sto S) rfl rfl (j := f) (by omega) (Nat.le_of_ble_eq_true rfl) dX5_store_19 ?_
    have ew : (cb_W a k S (c_sl S) (c_pt S) (c_at S)) = (cb_w a k S) := rfl
    have hP : va_P (dC, dI) vwCl (cb_w a k S) H_8 := by rw [← ew]; exact hP
    have hD : va_D A (cb_w a k S) := by rw [← ew]; exact hD
    rw [hQ]
    refine vx_ret ?_
    refine W.widen (k := 8) (n := 48) (by omega) (by omega) ?_
    exact W.iret (v := c_sto S f) hx hb hr (fun t9 ht9 hW9 => ⟨⟨c_sto S f, (), rfl, ⟨by rw [k_store, if_pos hw_8], by rw [r_store, tf]⟩, cB_of hP hK hD ht9 hW9⟩, hS.F ht9⟩) hS.2.2 dX5_store_20
abbrev rm_X5_diet : Room := { frames := 7, cells := 8, slots := 48, locals := 111 }
set_option maxHeartbeats 4000000 in
set_option maxRecDepth 100000 in
theorem c_X5_diet (l : Launch) (hl9 : l.stackTraces = false) (dC : Nat → ClassId) (dI : Nat → Nat → Nat) (a : Nat → Nat) (k : Nat → ClassId) (S : cs_S) (sz : Nat) (x0 : Int32) (x1 : Int32) (b9 : Bool) (hI : Inv S) : vx_Met l yX5_diet wsX5_diet rm_X5_diet (va_Pc [.ref (a 0), .int x0, .int x1, .int (bI b9)] (cU dC dI sz (cb_w a k S) (cb_ty k))) (va_Qi (fun (r : Int32) (_ : Unit) => k_diet S x0 x1 = 0 ∧ r = bI (r_diet S x0 x1)) (fun _ t => cB dC dI (va_A (cb_w a k S) sz) (cb_w a k (S_diet S x0 x1 b9)) (cb_ty k) t) (va_A (cb_w a k S) sz)) (cX dC dI (cb_w a k S) (cb_ty k) (va_A (cb_w a k S) sz) (fun E => px [xE_I] (k_diet S x0 x1) E)) 8 48 (va_A (cb_w a k S) sz) := by
  refine vx_ofW (cc := cX5_diet) (maxL := 6) (ret := (some .boolean)) (by decide) rfl ?_
  intro p e s m args below meth c s₁ B hml htab hv
  obtain ⟨rfl, ⟨hsz, hP, hK, hD0⟩, hE⟩ := hv
  have hx := B.exec
  have hb := B.bytes
  have hr := B.returns
  have hts := atoms_spec (ws := wsX5_diet) B.pre
  have hown : s.vm.findClass RX5 = some m.cls := findClass_of_methodNamed B.named
  have hlocks := B.notSynchronized
  subst hsz
  have hD := hD0.self (sz := s.heap.size)
  generalize hAe : va_A (cb_w a k S) s.heap.size = A at hD hE ⊢
  have hA : ∀ q : Nat, s.heap.size ≤ q → A q := fun q h => by rw [← hAe]; exact Or.inr h
  have hS : va_S A s.heap s.heap [] := va_S.rf
  obtain ⟨Q, hQ⟩ : ∃ Q, Q = vx_MQ below (va_Qi (fun (r : Int32) (_ : Unit) => k_diet S x0 x1 = 0 ∧ r = bI (r_diet S x0 x1)) (fun _ t => cB dC dI A (cb_w a k (S_diet S x0 x1 b9)) (cb_ty k) t) A) (cX dC dI (cb_w a k S) (cb_ty k) A (fun E => px [xE_I] (k_diet S x0 x1) E)) ([.ref (a 0), .int x0, .int x1, .int (bI b9)] : List Value).toArray s 8 48 A := ⟨_, rfl⟩
  show W p l e rm_X5_diet s m _ below meth c s.heap [] 0 0 (vx_MQ below _ _ _ _ _ _ _) _
  rw [← hQ]
  have i_X2 : ∀ w ∈ wsX20, w ∈ wsX5_diet := fun w h => List.mem_cons_of_mem _ (List.mem_append_left _ (List.mem_append_right _ h))
  have i_X3 : ∀ w ∈ wsX30, w ∈ wsX5_diet := fun w h => List.mem_cons_of_mem _ (List.mem_append_left _ (List.mem_append_left _ (List.mem_append_right _ h)))
  have i_X5 : ∀ w ∈ wsX50, w ∈ wsX5_diet := fun w h => List.mem_cons_of_mem _ (List.mem_append_left _ (List.mem_append_left _ (List.mem_append_left _ (List.mem_append_right _ h))))
  obtain ⟨⟨hday, hnp, hns, hnt, hnf, hnm, hnb, hme⟩, hpat, hage, hten, hcnt, hplc, heat, hned, hhld, hbad, hbad0, hbag⟩ := id hI
  have f_0 := hts (.fieldLink RX5 10 "CampBook" "people" "LCampBook$People;") (by decide +kernel)
  have f_1 := hts (.fieldLink RX5 66 "CampBook$People" "scouts" "I") (by decide +kernel)
  have f_2 := hts (.fieldLink RX5 33 "CampBook" "kitchen" "LCampBook$Kitchen;") (by decide +kernel)
  have f_3 := hts (.fieldLink RX5 151 "CampBook$Kitchen" "foods" "I") (by decide +kernel)
  have f_4 := hts (.fieldLink RX5 161 "CampBook$People" "refused" "[I") (by decide +kernel)
  have hl := lv_entry ([.ref (a 0), .int x0, .int x1, .int (bI b9)]) (n := 6) (Nat.le_of_ble_eq_true rfl)
  rw [lg_entry_eq]
  generalize (lg_sl ([.ref (a 0), .int x0, .int x1, .int (bI b9)]) ++ List.replicate (6 - (lg_sl ([.ref (a 0), .int x0, .int x1, .int (bI b9)])).length) Slot.unset).toArray = ls at hl ⊢
  have hl : lv_has ls 6 [(0, .ref (a 0)), (1, .int x0), (2, .int x1), (3, .int (bI b9))] := hl
  refine lv_iload_n hx hb dX5_diet_0 rfl (lv_at hl 1 rfl) ?_
  refine lv_aload_n hx hb dX5_diet_1 rfl (lv_at hl 0 rfl) ?_
  refine va_get (D := (dC, dI)) (ci := 5) (v := .ref (a 1)) (C := RX5) (T := TX5) (N := 6) hx hb hts i_X5 hown hK hP 0 rfl rfl 0 (by decide) f_0 (fun _ h9 => h9) rfl dX5_diet_2 ?_
  refine va_get (D := (dC, dI)) (ci := 3) (v := .int (nI (c_ns S))) (C := RX3) (T := TX3) (N := 8) hx hb hts i_X3 hown hK hP 1 rfl rfl 1 (by decide) f_1 (fun _ h9 => h9) rfl dX5_diet_5 ?_
  have hF_8 : ∀ q, va_A ([] : va_W) s.heap.size q → A q := fun q h => hA q (Nat.le_trans hS.1 (va_A_nil h))
  refine vx_callv (vx_runS (As := [.int x0, .int (nI (c_ns S))]) (rest := []) ⟨hx, hb, hml, hown, hts⟩ (c_X5_checkNumber l hl9 dC dI a k S s.heap.size x0 (c_ns S) (by omega)) (va_cwS 2 hts gX5_diet_X5_checkNumber rfl rfl rfl (by decide +kernel) ⟨(Nat.le_of_ble_eq_true rfl), (Nat.le_of_ble_eq_true rfl)⟩) ⟨cU_blind, fun U hU hW => ⟨rfl, cU_of (hK.sub (tys' := []) [] rfl) (hP.sub (ws' := []) [] rfl) (hD.sub (ws' := []) [] (by decide) rfl) hE hS hU hW hF_8⟩⟩ rfl rfl hl.1 rfl (lv_room (Nat.le_of_ble_eq_true rfl)) dX5_diet_8 ⟨(by show 0 + 1 ≤ 8; omega), (by show 0 + 6 ≤ 48; omega)⟩) hS (fun q _ h => hF_8 q h) hF_8 (fun q _ h => hF_8 q h) (fun E ce q9 u8 t8 H_8 L_8_ ht hvm _ hB hz1 hk1 hS hce hcv hcl => ?_) (fun u8 t8 H_8 L_8_ ht hvm hw hB hz1 hk1 hS => ?_)
  · obtain ⟨hpx9, hB9⟩ := hB
    have hP := cW_keep hP hk1
    rw [hQ]
    exact vx_out (fun x hx => (htab x hx).elim) hlocks hce hcv hcl (fun t9 h9 ha9 => cX_out hP hK hD hS h9 ha9 ((by rw [hpx9.1]; exact px_of (n := 0) (by rw [k_diet, if_neg (by rw [hpx9.2]; decide)]) rfl))) hS.2.2 (by omega) (by omega)
  · skip
    have hP := cW_keep hP hk1
    have hw_8 := hw
    obtain ⟨u, hu, eu⟩ := ix_t hw_8 (by omega)
    rw [eu] at hl
    have tu : toN x0 = u := by rw [eu]; exact tn (by omega)
    refine lv_iload_n hx hb dX5_diet_11 rfl (lv_at hl 2 rfl) ?_
    refine lv_aload_n hx hb dX5_diet_12 rfl (lv_at hl 0 rfl) ?_
    refine va_get (D := (dC, dI)) (ci := 5) (v := .ref (a 4)) (C := RX5) (T := TX5) (N := 6) hx hb hts i_X5 hown hK hP 0 rfl rfl 3 (by decide) f_2 (fun _ h9 => h9) rfl dX5_diet_13 ?_
    refine va_get (D := (dC, dI)) (ci := 2) (v := .int (nI (c_nf S))) (C := RX2) (T := TX2) (N := 6) hx hb hts i_X2 hown hK hP 4 rfl rfl 0 (by decide) f_3 (fun _ h9 => h9) rfl dX5_diet_16 ?_
    have hF_19 : ∀ q, va_A ([] : va_W) H_8.size q → A q := fun q h => hA q (Nat.le_trans hS.1 (va_A_nil h))
    refine vx_callv (vx_runS (As := [.int x1, .int (nI (c_nf S))]) (rest := []) ⟨hx, hb, hml, hown, hts⟩ (c_X5_checkNumber l hl9 dC dI a k S H_8.size x1 (c_nf S) (by omega)) (va_cwS 2 hts gX5_diet_X5_checkNumber rfl rfl rfl (by decide +kernel) ⟨(Nat.le_of_ble_eq_true rfl), (Nat.le_of_ble_eq_true rfl)⟩) ⟨cU_blind, fun U hU hW => ⟨rfl, cU_of (hK.sub (tys' := []) [] rfl) (hP.sub (ws' := []) [] rfl) (hD.sub (ws' := []) [] (by decide) rfl) hE hS hU hW hF_19⟩⟩ rfl rfl hl.1 rfl (lv_room (Nat.le_of_ble_eq_true rfl)) dX5_diet_19 ⟨(by show (0 + 1) + 1 ≤ 8; omega), (by show (0 + 6) + 6 ≤ 48; omega)⟩) hS (fun q _ h => hF_19 q h) hF_19 (fun q _ h => hF_19 q h) (fun E ce q9 u8 t8 H_19 L_19_ ht hvm _ hB hz1 hk1 hS hce hcv hcl => ?_) (fun u8 t8 H_19 L_19_ ht hvm hw hB hz1 hk1 hS => ?_)
    · obtain ⟨hpx9, hB9⟩ := hB
      have hP := cW_keep hP hk1
      rw [hQ]
      exact vx_out (fun x hx => (htab x hx).elim) hlocks hce hcv hcl (fun t9 h9 ha9 => cX_out hP hK hD hS h9 ha9 ((by rw [hpx9.1]; exact px_of (n := 0) (by rw [k_diet, if_pos hw_8, if_neg (by rw [hpx9.2]; decide)]) rfl))) hS.2.2 (by omega) (by omega)
    · skip
      have hP := cW_keep hP hk1
      have hw_19 := hw
      obtain ⟨f, hf, ef⟩ := ix_t hw_19 (by omega)
      rw [ef] at hl
      have tf : toN x1 = f := by rw [ef]; exact tn (by omega)
      refine lv_aload_n hx hb dX5_diet_22 rfl (lv_at hl 0 rfl) ?_
      refine va_get (D := (dC, dI)) (ci := 5) (v := .ref (a 1)) (C := RX5) (T := TX5) (N := 6) hx hb hts i_X5 hown hK hP 0 rfl rfl 0 (by decide) f_0 (fun _ h9 => h9) rfl dX5_diet_23 ?_
      refine va_get (D := (dC, dI)) (ci := 3) (v := .ref (a 9)) (C := RX3) (T := TX3) (N := 8) hx hb hts i_X3 hown hK hP 1 rfl rfl 5 (by decide) f_4 (fun _ h9 => h9) rfl dX5_diet_26 ?_
      refine lv_iload_n hx hb dX5_diet_29 rfl (lv_at hl 1 rfl) ?_
      refine cb_iald hx hb hK hP 9 3 (f := c_ref S) rfl rfl (j := u) (by omega) (Nat.le_of_ble_eq_true rfl) dX5_diet_30 ?_
      refine lv_istore (lv' := [(4, .int (c_ref S u)), (0, .ref (a 0)), (1, .int (nI u)), (2, .int (nI f)), (3, .int (bI b9))]) hx hb dX5_diet_31 hl (by decide) rfl (fun ls hl => ?_)
      refine lv_iconst (v := nI 1) hx hb dX5_diet_33 (by decide) ?_
      refine lv_iload_n hx hb dX5_diet_34 rfl (lv_at hl 3 rfl) ?_
      refine lv_ishl hx hb dX5_diet_35 ?_
      refine lv_istore (lv' := [(5, .int ((nI 1) <<< (nI f &&& 31))), (4, .int (c_ref S u)), (0, .ref (a 0)), (1, .int (nI u)), (2, .int (nI f)), (3, .int (bI b9))]) hx hb dX5_diet_36 hl (by decide) rfl (fun ls hl => ?_)
      refine lv_aload_n hx hb dX5_diet_38 rfl (lv_at hl 2 rfl) ?_
      refine va_get (D := (dC, dI)) (ci := 5) (v := .ref (a 1)) (C := RX5) (T := TX5) (N := 6) hx hb hts i_X5 hown hK hP 0 rfl rfl 0 (by decide) f_0 (fun _ h9 => h9) rfl dX5_diet_39 ?_
      refine va_get (D := (dC, dI)) (ci := 3) (v := .ref (a 9)) (C := RX3) (T := TX3) (N := 8) hx hb hts i_X3 hown hK hP 1 rfl rfl 5 (by decide) f_4 (fun _ h9 => h9) rfl dX5_diet_42 ?_
      refine lv_iload_n hx hb dX5_diet_45 rfl (lv_at hl 3 rfl) ?_
      refine lv_iload_n hx hb dX5_diet_46 rfl (lv_at hl 5 rfl) ?_
      refine lv_if_eq (tgt := 60) hx hb dX5_diet_47 (by decide) (fun c_47 => ?_) (fun c_47 => ?_)
      · have c_47 : b9 = false := bI_0 c_47
        refine lv_iload hx hb dX5_diet_60 (lv_at hl 1 rfl) ?_
        refine lv_iload hx hb dX5_diet_62 (lv_at hl 0 rfl) ?_
        refine lv_ior hx hb dX5_diet_64 ?_
        refine cb_iast hx hb hK hP hD hS 9 3 (f := c_ref S) rfl rfl (j := u) (by omega) (Nat.le_of_ble_eq_true rfl) dX5_diet_65 (fun H locs hP hD hS => ?_)
        rw [wsC_ref] at hP hD
        have hP : va_P (dC, dI) vwCl (cb_W a k (s_ref S (upd (c_ref S) u ((c_ref S u) ||| ((nI 1) <<< (nI f &&& 31))))) (c_sl S) (c_pt S) (c_at S)) H := hP
        have hD : va_D A (cb_W a k (s_ref S (upd (c_ref S) u ((c_ref S u) ||| ((nI 1) <<< (nI f &&& 31))))) (c_sl S) (c_pt S) (c_at S)) := hD
        refine lv_iload hx hb dX5_diet_66 (lv_at hl 1 rfl) ?_
        refine lv_iload hx hb dX5_diet_68 (lv_at hl 0 rfl) ?_
        refine lv_iand hx hb dX5_diet_70 ?_
        refine lv_if_ne (tgt := 78) hx hb dX5_diet_71 (by decide) (fun c_71 => ?_) (fun c_71 => ?_)
        · skip
          refine lv_iconst (v := nI 0) hx hb dX5_diet_78 (by decide) ?_
          have ew : (cb_W a k (s_ref S (upd (c_ref S) u ((c_ref S u) ||| ((nI 1) <<< (nI f &&& 31))))) (c_sl S) (c_pt S) (c_at S)) = (cb_w a k (S_diet S x0 x1 b9)) := (by rw [S_diet, tu, if_neg (by rw [c_47]; decide), ef]; first | done | rfl)
          have hP : va_P (dC, dI) vwCl (cb_w a k (S_diet S x0 x1 b9)) H := by rw [← ew]; exact hP
          have hD : va_D A (cb_w a k (S_diet S x0 x1 b9)) := by rw [← ew]; exact hD
          rw [hQ]
          refine vx_ret ?_
          refine W.widen (k := 8) (n := 48) (by omega) (by omega) ?_
          exact W.zret (v := nI 0) hx hb hr rfl (fun t9 ht9 hW9 => ⟨⟨nI 0, (), rfl, ⟨by rw [k_diet, if_pos hw_8, if_pos hw_19], bI_eq0 (by rw [r_diet, tu, tf]; cases hz : bt (c_ref S u) f with | true => rfl | false => exact absurd ((andbit (by omega)).mpr hz) c_71)⟩, cB_of hP hK hD ht9 hW9⟩, hS.F ht9⟩) hS.2.2 dX5_diet_79
        · skip
          refine lv_iconst (v := nI 1) hx hb dX5_diet_74 (by decide) ?_
          refine lv_goto (tgt := 79) hx hb dX5_diet_75 (by decide) ?_
          have ew : (cb_W a k (s_ref S (upd (c_ref S) u ((c_ref S u) ||| ((nI 1) <<< (nI f &&& 31))))) (c_sl S) (c_pt S) (c_at S)) = (cb_w a k (S_diet S x0 x1 b9)) := (by rw [S_diet, tu, if_neg (by rw [c_47]; decide), ef]; first | done | rfl)
          have hP : va_P (dC, dI) vwCl (cb_w a k (S_diet S x0 x1 b9)) H := by rw [← ew]; exact hP
          have hD : va_D A (cb_w a k (S_diet S x0 x1 b9)) := by rw [← ew]; exact hD
          rw [hQ]
          refine vx_ret ?_
          refine W.widen (k := 8) (n := 48) (by omega) (by omega) ?_
          exact W.zret (v := nI 1) hx hb hr rfl (fun t9 ht9 hW9 => ⟨⟨nI 1, (), rfl, ⟨by rw [k_diet, if_pos hw_8, if_pos hw_19], bI_eq1 (by rw [r_diet, tu, tf]; rw [(andbit (by omega)).mp c_71]; rfl)⟩, cB_of hP hK hD ht9 hW9⟩, hS.F ht9⟩) hS.2.2 dX5_diet_79
      · have c_47 : b9 = true := bI_n c_47
        refine lv_iload hx hb dX5_diet_50 (lv_at hl 1 rfl) ?_
        refine lv_iload hx hb dX5_diet_52 (lv_at hl 0 rfl) ?_
        refine lv_iconst (v := (-1)) hx hb dX5_diet_54 (by decide) ?_
        refine lv_ixor hx hb dX5_diet_55 ?_
        refine lv_iand hx hb dX5_diet_56 ?_
        refine lv_goto (tgt := 65) hx hb dX5_diet_57 (by decide) ?_
        refine cb_iast hx hb hK hP hD hS 9 3 (f := c_ref S) rfl rfl (j := u) (by omega) (Nat.le_of_ble_eq_true rfl) dX5_diet_65 (fun H locs hP hD hS => ?_)
        rw [wsC_ref] at hP hD
        have hP : va_P (dC, dI) vwCl (cb_W a k (s_ref S (upd (c_ref S) u ((c_ref S u) &&& (((nI 1) <<< (nI f &&& 31)) ^^^ (-1))))) (c_sl S) (c_pt S) (c_at S)) H := hP
        have hD : va_D A (cb_W a k (s_ref S (upd (c_ref S) u ((c_ref S u) &&& (((nI 1) <<< (nI f &&& 31)) ^^^ (-1))))) (c_sl S) (c_pt S) (c_at S)) := hD
        refine lv_iload hx hb dX5_diet_66 (lv_at hl 1 rfl) ?_
        refine lv_iload hx hb dX5_diet_68 (lv_at hl 0 rfl) ?_
        refine lv_iand hx hb dX5_diet_70 ?_
        refine lv_if_ne (tgt := 78) hx hb dX5_diet_71 (by decide) (fun c_71 => ?_) (fun c_71 => ?_)
        · skip
          refine lv_iconst (v := nI 0) hx hb dX5_diet_78 (by decide) ?_
          have ew : (cb_W a k (s_ref S (upd (c_ref S) u ((c_ref S u) &&& (((nI 1) <<< (nI f &&& 31)) ^^^ (-1))))) (c_sl S) (c_pt S) (c_at S)) = (cb_w a k (S_diet S x0 x1 b9)) := (by rw [S_diet, tu, if_pos c_47, ef]; first | done | rfl)
          have hP : va_P (dC, dI) vwCl (cb_w a k (S_diet S x0 x1 b9)) H := by rw [← ew]; exact hP
          have hD : va_D A (cb_w a k (S_diet S x0 x1 b9)) := by rw [← ew]; exact hD
          rw [hQ]
          refine vx_ret ?_
          refine W.widen (k := 8) (n := 48) (by omega) (by omega) ?_
          exact W.zret (v := nI 0) hx hb hr rfl (fun t9 ht9 hW9 => ⟨⟨nI 0, (), rfl, ⟨by rw [k_diet, if_pos hw_8, if_pos hw_19], bI_eq0 (by rw [r_diet, tu, tf]; cases hz : bt (c_ref S u) f with | true => rfl | false => exact absurd ((andbit (by omega)).mpr hz) c_71)⟩, cB_of hP hK hD ht9 hW9⟩, hS.F ht9⟩) hS.2.2 dX5_diet_79
        · skip
          refine lv_iconst (v := nI 1) hx hb dX5_diet_74 (by decide) ?_
          refine lv_goto (tgt := 79) hx hb dX5_diet_75 (by decide) ?_
          have ew : (cb_W a k (s_ref S (upd (c_ref S) u ((c_ref S u) &&& (((nI 1) <<< (nI f &&& 31)) ^^^ (-1))))) (c_sl S) (c_pt S) (c_at S)) = (cb_w a k (S_diet S x0 x1 b9)) := (by rw [S_diet, tu, if_pos c_47, ef]; first | done | rfl)
          have hP : va_P (dC, dI) vwCl (cb_w a k (S_diet S x0 x1 b9)) H := by rw [← ew]; exact hP
          have hD : va_D A (cb_w a k (S_diet S x0 x1 b9)) := by rw [← ew]; exact hD
          rw [hQ]
          refine vx_ret ?_
          refine W.widen (k := 8) (n := 48) (by omega) (by omega) ?_
          exact W.zret (v := nI 1) hx hb hr rfl (fun t9 ht9 hW9 => ⟨⟨nI 1, (), rfl, ⟨by rw [k_diet, if_pos hw_8, if_pos hw_19], bI_eq1 (by rw [r_diet, tu, tf]; rw [(andbit (by omega)).mp c_71]; rfl)⟩, cB_of hP hK hD ht9 hW9⟩, hS.F ht9⟩) hS.2.2 dX5_diet_79
abbrev rm_X5_addMeal : Room := { frames := 6, cells := 8, slots := 48, locals := 90 }
set_option maxHeartbeats 4000000 in
set_option maxRecDepth 100000 in
theorem c_X5_addMeal (l : Launch) (hl9 : l.stackTraces = false) (dC : Nat → ClassId) (dI : Nat → Nat → Nat) (a : Nat → Nat) (k : Nat → ClassId) (S : cs_S) (sz : Nat) (hI : Inv S) : vx_Met l yX5_addMeal wsX5_addMeal rm_X5_addMeal (va_Pc [.ref (a 0)] (cU dC dI sz (cb_w a k S) (cb_ty k))) (va_Qi (fun (r : Int32) (_ : Unit) => k_addMeal S = 0 ∧ r = nI (c_nm S)) (fun _ t => cB dC dI (va_A (cb_w a k S) sz) (cb_w a k (S_addMeal S)) (cb_ty k) t) (va_A (cb_w a k S) sz)) (cX dC dI (cb_w a k S) (cb_ty k) (va_A (cb_w a k S) sz) (fun E => px [xE_S] (k_addMeal S) E)) 8 48 (va_A (cb_w a k S) sz) := by
  refine vx_ofW (cc := cX5_addMeal) (maxL := 1) (ret := (some .int)) (by decide) rfl ?_
  intro p e s m args below meth c s₁ B hml htab hv
  obtain ⟨rfl, ⟨hsz, hP, hK, hD0⟩, hE⟩ := hv
  have hx := B.exec
  have hb := B.bytes
  have hr := B.returns
  have hts := atoms_spec (ws := wsX5_addMeal) B.pre
  have hown : s.vm.findClass RX5 = some m.cls := findClass_of_methodNamed B.named
  have hlocks := B.notSynchronized
  subst hsz
  have hD := hD0.self (sz := s.heap.size)
  generalize hAe : va_A (cb_w a k S) s.heap.size = A at hD hE ⊢
  have hA : ∀ q : Nat, s.heap.size ≤ q → A q := fun q h => by rw [← hAe]; exact Or.inr h
  have hS : va_S A s.heap s.heap [] := va_S.rf
  obtain ⟨Q, hQ⟩ : ∃ Q, Q = vx_MQ below (va_Qi (fun (r : Int32) (_ : Unit) => k_addMeal S = 0 ∧ r = nI (c_nm S)) (fun _ t => cB dC dI A (cb_w a k (S_addMeal S)) (cb_ty k) t) A) (cX dC dI (cb_w a k S) (cb_ty k) A (fun E => px [xE_S] (k_addMeal S) E)) ([.ref (a 0)] : List Value).toArray s 8 48 A := ⟨_, rfl⟩
  show W p l e rm_X5_addMeal s m _ below meth c s.heap [] 0 0 (vx_MQ below _ _ _ _ _ _ _) _
  rw [← hQ]
  have i_X2 : ∀ w ∈ wsX20, w ∈ wsX5_addMeal := fun w h => List.mem_cons_of_mem _ (List.mem_append_left _ (List.mem_append_right _ h))
  have i_X5 : ∀ w ∈ wsX50, w ∈ wsX5_addMeal := fun w h => List.mem_cons_of_mem _ (List.mem_append_left _ (List.mem_append_left _ (List.mem_append_right _ h)))
  obtain ⟨⟨hday, hnp, hns, hnt, hnf, hnm, hnb, hme⟩, hpat, hage, hten, hcnt, hplc, heat, hned, hhld, hbad, hbad0, hbag⟩ := id hI
  have f_0 := hts (.fieldLink RX5 33 "CampBook" "kitchen" "LCampBook$Kitchen;") (by decide +kernel)
  have f_1 := hts (.fieldLink RX5 164 "CampBook$Kitchen" "meals" "I") (by decide +kernel)
  have f_2 := hts (.classLink RX5 51 "java/lang/IllegalStateException") (by decide +kernel)
  have f_3 := hts (.initialized "java/lang/IllegalStateException") (by decide +kernel)
  have hl := lv_entry ([.ref (a 0)]) (n := 1) (Nat.le_of_ble_eq_true rfl)
  rw [lg_entry_eq]
  generalize (lg_sl ([.ref (a 0)]) ++ List.replicate (1 - (lg_sl ([.ref (a 0)])).length) Slot.unset).toArray = ls at hl ⊢
  have hl : lv_has ls 1 [(0, .ref (a 0))] := hl
  refine lv_aload_n hx hb dX5_addMeal_0 rfl (lv_at hl 0 rfl) ?_
  refine va_get (D := (dC, dI)) (ci := 5) (v := .ref (a 4)) (C := RX5) (T := TX5) (N := 6) hx hb hts i_X5 hown hK hP 0 rfl rfl 3 (by decide) f_0 (fun _ h9 => h9) rfl dX5_addMeal_1 ?_
  refine va_get (D := (dC, dI)) (ci := 2) (v := .int (nI (c_nm S))) (C := RX2) (T := TX2) (N := 6) hx hb hts i_X2 hown hK hP 4 rfl rfl 1 (by decide) f_1 (fun _ h9 => h9) rfl dX5_addMeal_4 ?_
  refine lv_bipush (v := nI 10) hx hb dX5_addMeal_7 (by decide) ?_
  refine lv_icmp_lt (tgt := 22) hx hb dX5_addMeal_9 (by decide) (fun c_9 => ?_) (fun c_9 => ?_)
  · have c_9 : (c_nm S) < 10 := cb_lt (by omega) (by omega) c_9
    refine lv_aload_n hx hb dX5_addMeal_22 rfl (lv_at hl 0 rfl) ?_
    refine va_get (D := (dC, dI)) (ci := 5) (v := .ref (a 4)) (C := RX5) (T := TX5) (N := 6) hx hb hts i_X5 hown hK hP 0 rfl rfl 3 (by decide) f_0 (fun _ h9 => h9) rfl dX5_addMeal_23 ?_
    refine lv_dup hx hb dX5_addMeal_26 rfl ?_
    refine va_get (D := (dC, dI)) (ci := 2) (v := .int (nI (c_nm S))) (C := RX2) (T := TX2) (N := 6) hx hb hts i_X2 hown hK hP 4 rfl rfl 1 (by decide) f_1 (fun _ h9 => h9) rfl dX5_addMeal_27 ?_
    refine lv_iconst (v := nI 1) hx hb dX5_addMeal_30 (by decide) ?_
    refine lv_iadd hx hb dX5_addMeal_31 ?_
    refine cb_topi (nI_add _ _) ?_
    refine va_put (D := (dC, dI)) (ci := 2) (v := .int (nI ((c_nm S) + 1))) (ty := .int) (C := RX2) (T := TX2) (N := 6) hx hb hts i_X2 tyX2 tyX2_ok nmX2 hown hK hP hD hS 4 rfl rfl 1 (by decide) f_1 (fun _ h9 => h9) rfl (by decide +kernel) rfl rfl (Nat.le_of_ble_eq_true rfl) dX5_addMeal_32 (fun H locs hP hD hS => ?_)
    rw [wsC_nm] at hP hD
    have hP : va_P (dC, dI) vwCl (cb_W a k (s_nm S ((c_nm S) + 1)) (c_sl S) (c_pt S) (c_at S)) H := hP
    have hD : va_D A (cb_W a k (s_nm S ((c_nm S) + 1)) (c_sl S) (c_pt S) (c_at S)) := hD
    refine lv_aload_n hx hb dX5_addMeal_35 rfl (lv_at hl 0 rfl) ?_
    refine va_get (D := (dC, dI)) (ci := 5) (v := .ref (a 4)) (C := RX5) (T := TX5) (N := 6) hx hb hts i_X5 hown hK hP 0 rfl rfl 3 (by decide) f_0 (fun _ h9 => h9) rfl dX5_addMeal_36 ?_
    refine va_get (D := (dC, dI)) (ci := 2) (v := .int (nI ((c_nm S) + 1))) (C := RX2) (T := TX2) (N := 6) hx hb hts i_X2 hown hK hP 4 rfl rfl 1 (by decide) f_1 (fun _ h9 => h9) rfl dX5_addMeal_39 ?_
    refine lv_iconst (v := nI 1) hx hb dX5_addMeal_42 (by decide) ?_
    refine lv_isub hx hb dX5_addMeal_43 ?_
    have ew : (cb_W a k (s_nm S ((c_nm S) + 1)) (c_sl S) (c_pt S) (c_at S)) = (cb_w a k (S_addMeal S)) := rfl
    have hP : va_P (dC, dI) vwCl (cb_w a k (S_addMeal S)) H := by rw [← ew]; exact hP
    have hD : va_D A (cb_w a k (S_addMeal S)) := by rw [← ew]; exact hD
    rw [hQ]
    refine vx_ret ?_
    refine W.widen (k := 8) (n := 48) (by omega) (by omega) ?_
    exact W.iret (v := (nI ((c_nm S) + 1)) - (nI 1)) hx hb hr (fun t9 ht9 hW9 => ⟨⟨(nI ((c_nm S) + 1)) - (nI 1), (), rfl, ⟨by rw [k_addMeal, if_pos c_9], by rw [pk_sub (by omega)]; rfl⟩, cB_of hP hK hD ht9 hW9⟩, hS.F ht9⟩) hS.2.2 dX5_addMeal_44
  · have c_9 : 10 ≤ (c_nm S) := cb_nlt (by omega) (by omega) c_9
    obtain ⟨sa, hstr⟩ := hE.2.2.2.1 (167, "there are 10 meals") (by decide +kernel)
    have hpx : px [xE_S] (k_addMeal S) "java/lang/IllegalStateException" := (px_of (n := 0) (by rw [k_addMeal, if_neg (Nat.not_lt.mpr c_9)]) rfl)
    rw [hQ]
    exact vx_throwS (own := RX5) (cls := "java/lang/IllegalStateException") (names := ["java/lang/RuntimeException", "java/lang/Exception"]) (ik := 51) (is := 167) (ic := 55) hx hb hl9 hown (by decide) (by decide) f_2 f_3 hstr (cb_atS (fun w h => hts w (List.mem_cons_of_mem _ (List.mem_append_right _ h))) hE.2.2.1) cb_gdS hE.1 hE.2.1 hS (hl.1.trans hml.symm) dX5_addMeal_12 dX5_addMeal_15 dX5_addMeal_16 dX5_addMeal_18 dX5_addMeal_21 (fun x hx => (htab x hx).elim) (Nat.le_of_ble_eq_true rfl) (Nat.le_of_ble_eq_true rfl) (by decide) (by decide) hlocks (fun t ha hz hk => cX_of hP hK hD hS ha hz hk hpx) hS.2.2 (by decide) (by decide)
abbrev rm_X5_need : Room := { frames := 7, cells := 8, slots := 48, locals := 112 }
set_option maxHeartbeats 4000000 in
set_option maxRecDepth 100000 in
theorem c_X5_need (l : Launch) (hl9 : l.stackTraces = false) (dC : Nat → ClassId) (dI : Nat → Nat → Nat) (a : Nat → Nat) (k : Nat → ClassId) (S : cs_S) (sz : Nat) (x0 : Int32) (x1 : Int32) (x2 : Int32) (hI : Inv S) : vx_Met l yX5_need wsX5_need rm_X5_need (va_Pc [.ref (a 0), .int x0, .int x1, .int x2] (cU dC dI sz (cb_w a k S) (cb_ty k))) (va_Qi (fun (r : Int32) (_ : Unit) => k_need S x0 x1 x2 = 0 ∧ r = r_need S x0 x1) (fun _ t => cB dC dI (va_A (cb_w a k S) sz) (cb_w a k (S_need S x0 x1 x2)) (cb_ty k) t) (va_A (cb_w a k S) sz)) (cX dC dI (cb_w a k S) (cb_ty k) (va_A (cb_w a k S) sz) (fun E => px [xE_I, xE_A] (k_need S x0 x1 x2) E)) 8 48 (va_A (cb_w a k S) sz) := by
  refine vx_ofW (cc := cX5_need) (maxL := 5) (ret := (some .int)) (by decide) rfl ?_
  intro p e s m args below meth c s₁ B hml htab hv
  obtain ⟨rfl, ⟨hsz, hP, hK, hD0⟩, hE⟩ := hv
  have hx := B.exec
  have hb := B.bytes
  have hr := B.returns
  have hts := atoms_spec (ws := wsX5_need) B.pre
  have hown : s.vm.findClass RX5 = some m.cls := findClass_of_methodNamed B.named
  have hlocks := B.notSynchronized
  subst hsz
  have hD := hD0.self (sz := s.heap.size)
  generalize hAe : va_A (cb_w a k S) s.heap.size = A at hD hE ⊢
  have hA : ∀ q : Nat, s.heap.size ≤ q → A q := fun q h => by rw [← hAe]; exact Or.inr h
  have hS : va_S A s.heap s.heap [] := va_S.rf
  obtain ⟨Q, hQ⟩ : ∃ Q, Q = vx_MQ below (va_Qi (fun (r : Int32) (_ : Unit) => k_need S x0 x1 x2 = 0 ∧ r = r_need S x0 x1) (fun _ t => cB dC dI A (cb_w a k (S_need S x0 x1 x2)) (cb_ty k) t) A) (cX dC dI (cb_w a k S) (cb_ty k) A (fun E => px [xE_I, xE_A] (k_need S x0 x1 x2) E)) ([.ref (a 0), .int x0, .int x1, .int x2] : List Value).toArray s 8 48 A := ⟨_, rfl⟩
  show W p l e rm_X5_need s m _ below meth c s.heap [] 0 0 (vx_MQ below _ _ _ _ _ _ _) _
  rw [← hQ]
  have i_X2 : ∀ w ∈ wsX20, w ∈ wsX5_need := fun w h => List.mem_cons_of_mem _ (List.mem_append_left _ (List.mem_append_left _ (List.mem_append_right _ h)))
  have i_X5 : ∀ w ∈ wsX50, w ∈ wsX5_need := fun w h => List.mem_cons_of_mem _ (List.mem_append_left _ (List.mem_append_left _ (List.mem_append_left _ (List.mem_append_right _ h))))
  obtain ⟨⟨hday, hnp, hns, hnt, hnf, hnm, hnb, hme⟩, hpat, hage, hten, hcnt, hplc, heat, hned, hhld, hbad, hbad0, hbag⟩ := id hI
  have f_0 := hts (.fieldLink RX5 33 "CampBook" "kitchen" "LCampBook$Kitchen;") (by decide +kernel)
  have f_1 := hts (.fieldLink RX5 164 "CampBook$Kitchen" "meals" "I") (by decide +kernel)
  have f_2 := hts (.fieldLink RX5 151 "CampBook$Kitchen" "foods" "I") (by decide +kernel)
  have f_3 := hts (.fieldLink RX5 172 "CampBook$Kitchen" "needs" "[I") (by decide +kernel)
  have hl := lv_entry ([.ref (a 0), .int x0, .int x1, .int x2]) (n := 5) (Nat.le_of_ble_eq_true rfl)
  rw [lg_entry_eq]
  generalize (lg_sl ([.ref (a 0), .int x0, .int x1, .int x2]) ++ List.replicate (5 - (lg_sl ([.ref (a 0), .int x0, .int x1, .int x2])).length) Slot.unset).toArray = ls at hl ⊢
  have hl : lv_has ls 5 [(0, .ref (a 0)), (1, .int x0), (2, .int x1), (3, .int x2)] := hl
  refine lv_iload_n hx hb dX5_need_0 rfl (lv_at hl 1 rfl) ?_
  refine lv_aload_n hx hb dX5_need_1 rfl (lv_at hl 0 rfl) ?_
  refine va_get (D := (dC, dI)) (ci := 5) (v := .ref (a 4)) (C := RX5) (T := TX5) (N := 6) hx hb hts i_X5 hown hK hP 0 rfl rfl 3 (by decide) f_0 (fun _ h9 => h9) rfl dX5_need_2 ?_
  refine va_get (D := (dC, dI)) (ci := 2) (v := .int (nI (c_nm S))) (C := RX2) (T := TX2) (N := 6) hx hb hts i_X2 hown hK hP 4 rfl rfl 1 (by decide) f_1 (fun _ h9 => h9) rfl dX5_need_5 ?_
  have hF_8 : ∀ q, va_A ([] : va_W) s.heap.size q → A q := fun q h => hA q (Nat.le_trans hS.1 (va_A_nil h))
  refine vx_callv (vx_runS (As := [.int x0, .int (nI (c_nm S))]) (rest := []) ⟨hx, hb, hml, hown, hts⟩ (c_X5_checkNumber l hl9 dC dI a k S s.heap.size x0 (c_nm S) (by omega)) (va_cwS 2 hts gX5_need_X5_checkNumber rfl rfl rfl (by decide +kernel) ⟨(Nat.le_of_ble_eq_true rfl), (Nat.le_of_ble_eq_true rfl)⟩) ⟨cU_blind, fun U hU hW => ⟨rfl, cU_of (hK.sub (tys' := []) [] rfl) (hP.sub (ws' := []) [] rfl) (hD.sub (ws' := []) [] (by decide) rfl) hE hS hU hW hF_8⟩⟩ rfl rfl hl.1 rfl (lv_room (Nat.le_of_ble_eq_true rfl)) dX5_need_8 ⟨(by show 0 + 1 ≤ 8; omega), (by show 0 + 6 ≤ 48; omega)⟩) hS (fun q _ h => hF_8 q h) hF_8 (fun q _ h => hF_8 q h) (fun E ce q9 u8 t8 H_8 L_8_ ht hvm _ hB hz1 hk1 hS hce hcv hcl => ?_) (fun u8 t8 H_8 L_8_ ht hvm hw hB hz1 hk1 hS => ?_)
  · obtain ⟨hpx9, hB9⟩ := hB
    have hP := cW_keep hP hk1
    rw [hQ]
    exact vx_out (fun x hx => (htab x hx).elim) hlocks hce hcv hcl (fun t9 h9 ha9 => cX_out hP hK hD hS h9 ha9 ((by rw [hpx9.1]; exact px_of (n := 0) (by rw [k_need, if_neg (by rw [hpx9.2]; decide)]) rfl))) hS.2.2 (by omega) (by omega)
  · skip
    have hP := cW_keep hP hk1
    have hw_8 := hw
    obtain ⟨mm, hmm, emm⟩ := ix_t hw_8 (by omega)
    rw [emm] at hl
    have tmm : toN x0 = mm := by rw [emm]; exact tn (by omega)
    refine lv_iload_n hx hb dX5_need_11 rfl (lv_at hl 2 rfl) ?_
    refine lv_aload_n hx hb dX5_need_12 rfl (lv_at hl 0 rfl) ?_
    refine va_get (D := (dC, dI)) (ci := 5) (v := .ref (a 4)) (C := RX5) (T := TX5) (N := 6) hx hb hts i_X5 hown hK hP 0 rfl rfl 3 (by decide) f_0 (fun _ h9 => h9) rfl dX5_need_13 ?_
    refine va_get (D := (dC, dI)) (ci := 2) (v := .int (nI (c_nf S))) (C := RX2) (T := TX2) (N := 6) hx hb hts i_X2 hown hK hP 4 rfl rfl 0 (by decide) f_2 (fun _ h9 => h9) rfl dX5_need_16 ?_
    have hF_19 : ∀ q, va_A ([] : va_W) H_8.size q → A q := fun q h => hA q (Nat.le_trans hS.1 (va_A_nil h))
    refine vx_callv (vx_runS (As := [.int x1, .int (nI (c_nf S))]) (rest := []) ⟨hx, hb, hml, hown, hts⟩ (c_X5_checkNumber l hl9 dC dI a k S H_8.size x1 (c_nf S) (by omega)) (va_cwS 2 hts gX5_need_X5_checkNumber rfl rfl rfl (by decide +kernel) ⟨(Nat.le_of_ble_eq_true rfl), (Nat.le_of_ble_eq_true rfl)⟩) ⟨cU_blind, fun U hU hW => ⟨rfl, cU_of (hK.sub (tys' := []) [] rfl) (hP.sub (ws' := []) [] rfl) (hD.sub (ws' := []) [] (by decide) rfl) hE hS hU hW hF_19⟩⟩ rfl rfl hl.1 rfl (lv_room (Nat.le_of_ble_eq_true rfl)) dX5_need_19 ⟨(by show (0 + 1) + 1 ≤ 8; omega), (by show (0 + 6) + 6 ≤ 48; omega)⟩) hS (fun q _ h => hF_19 q h) hF_19 (fun q _ h => hF_19 q h) (fun E ce q9 u8 t8 H_19 L_19_ ht hvm _ hB hz1 hk1 hS hce hcv hcl => ?_) (fun u8 t8 H_19 L_19_ ht hvm hw hB hz1 hk1 hS => ?_)
    · obtain ⟨hpx9, hB9⟩ := hB
      have hP := cW_keep hP hk1
      rw [hQ]
      exact vx_out (fun x hx => (htab x hx).elim) hlocks hce hcv hcl (fun t9 h9 ha9 => cX_out hP hK hD hS h9 ha9 ((by rw [hpx9.1]; exact px_of (n := 0) (by rw [k_need, if_pos hw_8, if_neg (by rw [hpx9.2]; decide)]) rfl))) hS.2.2 (by omega) (by omega)
    · skip
      have hP := cW_keep hP hk1
      have hw_19 := hw
      obtain ⟨f, hf, ef⟩ := ix_t hw_19 (by omega)
      rw [ef] at hl
      have tf : toN x1 = f := by rw [ef]; exact tn (by omega)
      refine lv_iload_n hx hb dX5_need_22 rfl (lv_at hl 3 rfl) ?_
      refine lv_iconst (v := nI 0) hx hb dX5_need_23 (by decide) ?_
      refine lv_bipush (v := nI 50) hx hb dX5_need_24 (by decide) ?_
      have hF_26 : ∀ q, va_A ([] : va_W) H_19.size q → A q := fun q h => hA q (Nat.le_trans hS.1 (va_A_nil h))
      refine vx_callv (vx_runS (As := [.int x2, .int (nI 0), .int (nI 50)]) (rest := []) ⟨hx, hb, hml, hown, hts⟩ (c_X5_checkArgument l hl9 dC dI a k S H_19.size x2 (nI 0) (nI 50)) (va_cwS 3 hts gX5_need_X5_checkArgument rfl rfl rfl (by decide +kernel) ⟨(Nat.le_of_ble_eq_true rfl), (Nat.le_of_ble_eq_true rfl)⟩) ⟨cU_blind, fun U hU hW => ⟨rfl, cU_of (hK.sub (tys' := []) [] rfl) (hP.sub (ws' := []) [] rfl) (hD.sub (ws' := []) [] (by decide) rfl) hE hS hU hW hF_26⟩⟩ rfl rfl hl.1 rfl (lv_room (Nat.le_of_ble_eq_true rfl)) dX5_need_26 ⟨(by show ((0 + 1) + 1) + 1 ≤ 8; omega), (by show ((0 + 6) + 6) + 6 ≤ 48; omega)⟩) hS (fun q _ h => hF_26 q h) hF_26 (fun q _ h => hF_26 q h) (fun E ce q9 u8 t8 H_26 L_26_ ht hvm _ hB hz1 hk1 hS hce hcv hcl => ?_) (fun u8 t8 H_26 L_26_ ht hvm hw hB hz1 hk1 hS => ?_)
      · obtain ⟨hpx9, hB9⟩ := hB
        have hP := cW_keep hP hk1
        rw [hQ]
        exact vx_out (fun x hx => (htab x hx).elim) hlocks hce hcv hcl (fun t9 h9 ha9 => cX_out hP hK hD hS h9 ha9 ((by rw [hpx9.1]; exact px_of (n := 1) (by rw [k_need, if_pos hw_8, if_pos hw_19, if_neg (by rw [hpx9.2]; decide)]) rfl))) hS.2.2 (by omega) (by omega)
      · skip
        have hP := cW_keep hP hk1
        have hw_26 := hw
        refine lv_aload_n hx hb dX5_need_29 rfl (lv_at hl 0 rfl) ?_
        refine va_get (D := (dC, dI)) (ci := 5) (v := .ref (a 4)) (C := RX5) (T := TX5) (N := 6) hx hb hts i_X5 hown hK hP 0 rfl rfl 3 (by decide) f_0 (fun _ h9 => h9) rfl dX5_need_30 ?_
        refine lv_iload_n hx hb dX5_need_33 rfl (lv_at hl 1 rfl) ?_
        refine lv_iload_n hx hb dX5_need_34 rfl (lv_at hl 2 rfl) ?_
        refine vp_callSi (W.runV (As := [.int (nI mm), .int (nI f)]) (rest := []) ⟨hx, hb, hml, hown, hts⟩ (c_X2_needOf l dC dI a k S mm f (by omega) (by omega)) (cwV 2 hts gX5_need_X2_needOf rfl rfl rfl (by decide +kernel) ⟨(Nat.le_of_ble_eq_true rfl), (Nat.le_of_ble_eq_true rfl)⟩) ⟨cR_blind, va_recv hK hP (ci := 2) (q0 := 4) rfl rfl, fun U hU hW => ⟨rfl, cR_of hK hP hU hW⟩⟩ rfl rfl hl.1 rfl (lv_room (Nat.le_of_ble_eq_true rfl)) dX5_need_35 ⟨(by show (((0 + 1) + 1) + 1) + 0 ≤ 8; omega), (by show (((0 + 6) + 6) + 6) + 0 ≤ 48; omega)⟩) (fun r er => ?_)
        subst er
        refine lv_istore (lv' := [(4, .int (c_ned S (mm * 12 + f))), (0, .ref (a 0)), (1, .int (nI mm)), (2, .int (nI f)), (3, .int x2)]) hx hb dX5_need_38 hl (by decide) rfl (fun ls hl => ?_)
        refine lv_aload_n hx hb dX5_need_40 rfl (lv_at hl 1 rfl) ?_
        refine va_get (D := (dC, dI)) (ci := 5) (v := .ref (a 4)) (C := RX5) (T := TX5) (N := 6) hx hb hts i_X5 hown hK hP 0 rfl rfl 3 (by decide) f_0 (fun _ h9 => h9) rfl dX5_need_41 ?_
        refine va_get (D := (dC, dI)) (ci := 2) (v := .ref (a 17)) (C := RX2) (T := TX2) (N := 6) hx hb hts i_X2 hown hK hP 4 rfl rfl 5 (by decide) f_3 (fun _ h9 => h9) rfl dX5_need_44 ?_
        refine lv_iload_n hx hb dX5_need_47 rfl (lv_at hl 2 rfl) ?_
        refine lv_bipush (v := nI 12) hx hb dX5_need_48 (by decide) ?_
        refine lv_imul hx hb dX5_need_50 ?_
        refine cb_topi (pk_mul _ _) ?_
        refine lv_iload_n hx hb dX5_need_51 rfl (lv_at hl 3 rfl) ?_
        refine lv_iadd hx hb dX5_need_52 ?_
        refine cb_topi (nI_add _ _) ?_
        refine lv_iload_n hx hb dX5_need_53 rfl (lv_at hl 4 rfl) ?_
        refine cb_iast hx hb hK hP hD hS 17 11 (f := c_ned S) rfl rfl (j := (mm * 12) + f) (by omega) (Nat.le_of_ble_eq_true rfl) dX5_need_54 (fun H locs hP hD hS => ?_)
        rw [wsC_ned] at hP hD
        have hP : va_P (dC, dI) vwCl (cb_W a k (s_ned S (upd (c_ned S) ((mm * 12) + f) x2)) (c_sl S) (c_pt S) (c_at S)) H := hP
        have hD : va_D A (cb_W a k (s_ned S (upd (c_ned S) ((mm * 12) + f) x2)) (c_sl S) (c_pt S) (c_at S)) := hD
        refine lv_iload hx hb dX5_need_55 (lv_at hl 0 rfl) ?_
        have ew : (cb_W a k (s_ned S (upd (c_ned S) ((mm * 12) + f) x2)) (c_sl S) (c_pt S) (c_at S)) = (cb_w a k (S_need S x0 x1 x2)) := (by rw [S_need, tmm, tf]; first | done | rfl)
        have hP : va_P (dC, dI) vwCl (cb_w a k (S_need S x0 x1 x2)) H := by rw [← ew]; exact hP
        have hD : va_D A (cb_w a k (S_need S x0 x1 x2)) := by rw [← ew]; exact hD
        rw [hQ]
        refine vx_ret ?_
        refine W.widen (k := 8) (n := 48) (by omega) (by omega) ?_
        exact W.iret (v := c_ned S (mm * 12 + f)) hx hb hr (fun t9 ht9 hW9 => ⟨⟨c_ned S (mm * 12 + f), (), rfl, ⟨by rw [k_need, if_pos hw_8, if_pos hw_19, if_pos hw_26], by rw [r_need, tmm, tf]⟩, cB_of hP hK hD ht9 hW9⟩, hS.F ht9⟩) hS.2.2 dX5_need_57
abbrev rm_X5_eaters : Room := { frames := 7, cells := 8, slots := 48, locals := 111 }
set_option maxHeartbeats 4000000 in
set_option maxRecDepth 100000 in
theorem c_X5_eaters (l : Launch) (hl9 : l.stackTraces = false) (dC : Nat → ClassId) (dI : Nat → Nat → Nat) (a : Nat → Nat) (k : Nat → ClassId) (S : cs_S) (sz : Nat) (x0 : Int32) (hI : Inv S) : vx_Met l yX5_eaters wsX5_eaters rm_X5_eaters (va_Pc [.ref (a 0), .int x0] (cU dC dI sz (cb_w a k S) (cb_ty k))) (va_Ql (fun (r : Int64) (_ : Unit) => k_eaters S x0 = 0 ∧ r = r_eaters S x0) (fun _ t => cB dC dI (va_A (cb_w a k S) sz) (cb_w a k S) (cb_ty k) t) (va_A (cb_w a k S) sz)) (cX dC dI (cb_w a k S) (cb_ty k) (va_A (cb_w a k S) sz) (fun E => px [xE_I] (k_eaters S x0) E)) 8 48 (va_A (cb_w a k S) sz) := by
  refine vx_ofW (cc := cX5_eaters) (maxL := 2) (ret := (some .long)) (by decide) rfl ?_
  intro p e s m args below meth c s₁ B hml htab hv
  obtain ⟨rfl, ⟨hsz, hP, hK, hD0⟩, hE⟩ := hv
  have hx := B.exec
  have hb := B.bytes
  have hr := B.returns
  have hts := atoms_spec (ws := wsX5_eaters) B.pre
  have hown : s.vm.findClass RX5 = some m.cls := findClass_of_methodNamed B.named
  have hlocks := B.notSynchronized
  subst hsz
  have hD := hD0.self (sz := s.heap.size)
  generalize hAe : va_A (cb_w a k S) s.heap.size = A at hD hE ⊢
  have hA : ∀ q : Nat, s.heap.size ≤ q → A q := fun q h => by rw [← hAe]; exact Or.inr h
  have hS : va_S A s.heap s.heap [] := va_S.rf
  obtain ⟨Q, hQ⟩ : ∃ Q, Q = vx_MQ below (va_Ql (fun (r : Int64) (_ : Unit) => k_eaters S x0 = 0 ∧ r = r_eaters S x0) (fun _ t => cB dC dI A (cb_w a k S) (cb_ty k) t) A) (cX dC dI (cb_w a k S) (cb_ty k) A (fun E => px [xE_I] (k_eaters S x0) E)) ([.ref (a 0), .int x0] : List Value).toArray s 8 48 A := ⟨_, rfl⟩
  show W p l e rm_X5_eaters s m _ below meth c s.heap [] 0 0 (vx_MQ below _ _ _ _ _ _ _) _
  rw [← hQ]
  have i_X2 : ∀ w ∈ wsX20, w ∈ wsX5_eaters := fun w h => List.mem_cons_of_mem _ (List.mem_append_left _ (List.mem_append_left _ (List.mem_append_right _ h)))
  have i_X5 : ∀ w ∈ wsX50, w ∈ wsX5_eaters := fun w h => List.mem_cons_of_mem _ (List.mem_append_left _ (List.mem_append_left _ (List.mem_append_left _ (List.mem_append_right _ h))))
  obtain ⟨⟨hday, hnp, hns, hnt, hnf, hnm, hnb, hme⟩, hpat, hage, hten, hcnt, hplc, heat, hned, hhld, hbad, hbad0, hbag⟩ := id hI
  have f_0 := hts (.fieldLink RX5 33 "CampBook" "kitchen" "LCampBook$Kitchen;") (by decide +kernel)
  have f_1 := hts (.fieldLink RX5 164 "CampBook$Kitchen" "meals" "I") (by decide +kernel)
  have f_2 := hts (.fieldLink RX5 10 "CampBook" "people" "LCampBook$People;") (by decide +kernel)
  have hl := lv_entry ([.ref (a 0), .int x0]) (n := 2) (Nat.le_of_ble_eq_true rfl)
  rw [lg_entry_eq]
  generalize (lg_sl ([.ref (a 0), .int x0]) ++ List.replicate (2 - (lg_sl ([.ref (a 0), .int x0])).length) Slot.unset).toArray = ls at hl ⊢
  have hl : lv_has ls 2 [(0, .ref (a 0)), (1, .int x0)] := hl
  refine lv_iload_n hx hb dX5_eaters_0 rfl (lv_at hl 1 rfl) ?_
  refine lv_aload_n hx hb dX5_eaters_1 rfl (lv_at hl 0 rfl) ?_
  refine va_get (D := (dC, dI)) (ci := 5) (v := .ref (a 4)) (C := RX5) (T := TX5) (N := 6) hx hb hts i_X5 hown hK hP 0 rfl rfl 3 (by decide) f_0 (fun _ h9 => h9) rfl dX5_eaters_2 ?_
  refine va_get (D := (dC, dI)) (ci := 2) (v := .int (nI (c_nm S))) (C := RX2) (T := TX2) (N := 6) hx hb hts i_X2 hown hK hP 4 rfl rfl 1 (by decide) f_1 (fun _ h9 => h9) rfl dX5_eaters_5 ?_
  have hF_8 : ∀ q, va_A ([] : va_W) s.heap.size q → A q := fun q h => hA q (Nat.le_trans hS.1 (va_A_nil h))
  refine vx_callv (vx_runS (As := [.int x0, .int (nI (c_nm S))]) (rest := []) ⟨hx, hb, hml, hown, hts⟩ (c_X5_checkNumber l hl9 dC dI a k S s.heap.size x0 (c_nm S) (by omega)) (va_cwS 2 hts gX5_eaters_X5_checkNumber rfl rfl rfl (by decide +kernel) ⟨(Nat.le_of_ble_eq_true rfl), (Nat.le_of_ble_eq_true rfl)⟩) ⟨cU_blind, fun U hU hW => ⟨rfl, cU_of (hK.sub (tys' := []) [] rfl) (hP.sub (ws' := []) [] rfl) (hD.sub (ws' := []) [] (by decide) rfl) hE hS hU hW hF_8⟩⟩ rfl rfl hl.1 rfl (lv_room (Nat.le_of_ble_eq_true rfl)) dX5_eaters_8 ⟨(by show 0 + 1 ≤ 8; omega), (by show 0 + 6 ≤ 48; omega)⟩) hS (fun q _ h => hF_8 q h) hF_8 (fun q _ h => hF_8 q h) (fun E ce q9 u8 t8 H_8 L_8_ ht hvm _ hB hz1 hk1 hS hce hcv hcl => ?_) (fun u8 t8 H_8 L_8_ ht hvm hw hB hz1 hk1 hS => ?_)
  · obtain ⟨hpx9, hB9⟩ := hB
    have hP := cW_keep hP hk1
    rw [hQ]
    exact vx_out (fun x hx => (htab x hx).elim) hlocks hce hcv hcl (fun t9 h9 ha9 => cX_out hP hK hD hS h9 ha9 ((by rw [hpx9.1]; exact px_of (n := 0) (by rw [k_eaters, if_neg (by rw [hpx9.2]; decide)]) rfl))) hS.2.2 (by omega) (by omega)
  · skip
    have hP := cW_keep hP hk1
    have hw_8 := hw
    obtain ⟨mm, hmm, emm⟩ := ix_t hw_8 (by omega)
    rw [emm] at hl
    have tmm : toN x0 = mm := by rw [emm]; exact tn (by omega)
    refine lv_aload_n hx hb dX5_eaters_11 rfl (lv_at hl 0 rfl) ?_
    refine va_get (D := (dC, dI)) (ci := 5) (v := .ref (a 4)) (C := RX5) (T := TX5) (N := 6) hx hb hts i_X5 hown hK hP 0 rfl rfl 3 (by decide) f_0 (fun _ h9 => h9) rfl dX5_eaters_12 ?_
    refine lv_iload_n hx hb dX5_eaters_15 rfl (lv_at hl 1 rfl) ?_
    refine lv_aload_n hx hb dX5_eaters_16 rfl (lv_at hl 0 rfl) ?_
    refine va_get (D := (dC, dI)) (ci := 5) (v := .ref (a 1)) (C := RX5) (T := TX5) (N := 6) hx hb hts i_X5 hown hK hP 0 rfl rfl 0 (by decide) f_2 (fun _ h9 => h9) rfl dX5_eaters_17 ?_
    refine vp_callSl (W.runV (As := [.int (nI mm), .ref (a 1)]) (rest := []) ⟨hx, hb, hml, hown, hts⟩ (c_X2_eatersOf l dC dI a k S mm (by omega) hI) (cwV 2 hts gX5_eaters_X2_eatersOf rfl rfl rfl (by decide +kernel) ⟨(Nat.le_of_ble_eq_true rfl), (Nat.le_of_ble_eq_true rfl)⟩) ⟨cR_blind, va_recv hK hP (ci := 2) (q0 := 4) rfl rfl, fun U hU hW => ⟨rfl, cR_of hK hP hU hW⟩⟩ rfl rfl hl.1 rfl (lv_room (Nat.le_of_ble_eq_true rfl)) dX5_eaters_20 ⟨(by show (0 + 1) + 0 ≤ 8; omega), (by show (0 + 6) + 0 ≤ 48; omega)⟩) (fun r er => ?_)
    subst er
    have ew : (cb_W a k S (c_sl S) (c_pt S) (c_at S)) = (cb_w a k S) := rfl
    have hP : va_P (dC, dI) vwCl (cb_w a k S) H_8 := by rw [← ew]; exact hP
    have hD : va_D A (cb_w a k S) := by rw [← ew]; exact hD
    rw [hQ]
    refine vx_ret ?_
    refine W.widen (k := 8) (n := 48) (by omega) (by omega) ?_
    exact W.lret (v := lN (bs (canE S mm) (c_ns S))) hx hb hr (fun t9 ht9 hW9 => ⟨⟨lN (bs (canE S mm) (c_ns S)), (), rfl, ⟨by rw [k_eaters, if_pos hw_8], by rw [r_eaters, tmm]; rfl⟩, cB_of hP hK hD ht9 hW9⟩, hS.F ht9⟩) hS.2.2 dX5_eaters_23
abbrev rm_X5_lacks : Room := { frames := 7, cells := 8, slots := 48, locals := 112 }
abbrev rm_X5_eat : Room := { frames := 7, cells := 8, slots := 48, locals := 111 }
set_option maxHeartbeats 4000000 in
set_option maxRecDepth 100000 in
theorem c_X5_eat (l : Launch) (hl9 : l.stackTraces = false) (dC : Nat → ClassId) (dI : Nat → Nat → Nat) (a : Nat → Nat) (k : Nat → ClassId) (S : cs_S) (sz : Nat) (x0 : Int32) (hI : Inv S) : vx_Met l yX5_eat wsX5_eat rm_X5_eat (va_Pc [.ref (a 0), .int x0] (cU dC dI sz (cb_w a k S) (cb_ty k))) (va_Qi (fun (r : Int32) (_ : Unit) => k_eat S x0 = 0 ∧ r = r_eat S x0) (fun _ t => cB dC dI (va_A (cb_w a k S) sz) (cb_w a k (S_eat S x0)) (cb_ty k) t) (va_A (cb_w a k S) sz)) (cX dC dI (cb_w a k S) (cb_ty k) (va_A (cb_w a k S) sz) (fun E => px [xE_I, xE_S] (k_eat S x0) E)) 8 48 (va_A (cb_w a k S) sz) := by
  refine vx_ofW (cc := cX5_eat) (maxL := 2) (ret := (some .int)) (by decide) rfl ?_
  intro p e s m args below meth c s₁ B hml htab hv
  obtain ⟨rfl, ⟨hsz, hP, hK, hD0⟩, hE⟩ := hv
  have hx := B.exec
  have hb := B.bytes
  have hr := B.returns
  have hts := atoms_spec (ws := wsX5_eat) B.pre
  have hown : s.vm.findClass RX5 = some m.cls := findClass_of_methodNamed B.named
  have hlocks := B.notSynchronized
  subst hsz
  have hD := hD0.self (sz := s.heap.size)
  generalize hAe : va_A (cb_w a k S) s.heap.size = A at hD hE ⊢
  have hA : ∀ q : Nat, s.heap.size ≤ q → A q := fun q h => by rw [← hAe]; exact Or.inr h
  have hS : va_S A s.heap s.heap [] := va_S.rf
  obtain ⟨Q, hQ⟩ : ∃ Q, Q = vx_MQ below (va_Qi (fun (r : Int32) (_ : Unit) => k_eat S x0 = 0 ∧ r = r_eat S x0) (fun _ t => cB dC dI A (cb_w a k (S_eat S x0)) (cb_ty k) t) A) (cX dC dI (cb_w a k S) (cb_ty k) A (fun E => px [xE_I, xE_S] (k_eat S x0) E)) ([.ref (a 0), .int x0] : List Value).toArray s 8 48 A := ⟨_, rfl⟩
  show W p l e rm_X5_eat s m _ below meth c s.heap [] 0 0 (vx_MQ below _ _ _ _ _ _ _) _
  rw [← hQ]
  have i_X2 : ∀ w ∈ wsX20, w ∈ wsX5_eat := fun w h => List.mem_cons_of_mem _ (List.mem_append_left _ (List.mem_append_left _ (List.mem_append_left _ (List.mem_append_right _ h))))
  have i_X5 : ∀ w ∈ wsX50, w ∈ wsX5_eat := fun w h => List.mem_cons_of_mem _ (List.mem_append_left _ (List.mem_append_left _ (List.mem_append_left _ (List.mem_append_left _ (List.mem_append_right _ h)))))
  obtain ⟨⟨hday, hnp, hns, hnt, hnf, hnm, hnb, hme⟩, hpat, hage, hten, hcnt, hplc, heat, hned, hhld, hbad, hbad0, hbag⟩ := id hI
  have f_0 := hts (.fieldLink RX5 33 "CampBook" "kitchen" "LCampBook$Kitchen;") (by decide +kernel)
  have f_1 := hts (.fieldLink RX5 164 "CampBook$Kitchen" "meals" "I") (by decide +kernel)
  have f_2 := hts (.fieldLink RX5 10 "CampBook" "people" "LCampBook$People;") (by decide +kernel)
  have f_3 := hts (.classLink RX5 51 "java/lang/IllegalStateException") (by decide +kernel)
  have f_4 := hts (.initialized "java/lang/IllegalStateException") (by decide +kernel)
  have hl := lv_entry ([.ref (a 0), .int x0]) (n := 2) (Nat.le_of_ble_eq_true rfl)
  rw [lg_entry_eq]
  generalize (lg_sl ([.ref (a 0), .int x0]) ++ List.replicate (2 - (lg_sl ([.ref (a 0), .int x0])).length) Slot.unset).toArray = ls at hl ⊢
  have hl : lv_has ls 2 [(0, .ref (a 0)), (1, .int x0)] := hl
  refine lv_iload_n hx hb dX5_eat_0 rfl (lv_at hl 1 rfl) ?_
  refine lv_aload_n hx hb dX5_eat_1 rfl (lv_at hl 0 rfl) ?_
  refine va_get (D := (dC, dI)) (ci := 5) (v := .ref (a 4)) (C := RX5) (T := TX5) (N := 6) hx hb hts i_X5 hown hK hP 0 rfl rfl 3 (by decide) f_0 (fun _ h9 => h9) rfl dX5_eat_2 ?_
  refine va_get (D := (dC, dI)) (ci := 2) (v := .int (nI (c_nm S))) (C := RX2) (T := TX2) (N := 6) hx hb hts i_X2 hown hK hP 4 rfl rfl 1 (by decide) f_1 (fun _ h9 => h9) rfl dX5_eat_5 ?_
  have hF_8 : ∀ q, va_A ([] : va_W) s.heap.size q → A q := fun q h => hA q (Nat.le_trans hS.1 (va_A_nil h))
  refine vx_callv (vx_runS (As := [.int x0, .int (nI (c_nm S))]) (rest := []) ⟨hx, hb, hml, hown, hts⟩ (c_X5_checkNumber l hl9 dC dI a k S s.heap.size x0 (c_nm S) (by omega)) (va_cwS 2 hts gX5_eat_X5_checkNumber rfl rfl rfl (by decide +kernel) ⟨(Nat.le_of_ble_eq_true rfl), (Nat.le_of_ble_eq_true rfl)⟩) ⟨cU_blind, fun U hU hW => ⟨rfl, cU_of (hK.sub (tys' := []) [] rfl) (hP.sub (ws' := []) [] rfl) (hD.sub (ws' := []) [] (by decide) rfl) hE hS hU hW hF_8⟩⟩ rfl rfl hl.1 rfl (lv_room (Nat.le_of_ble_eq_true rfl)) dX5_eat_8 ⟨(by show 0 + 1 ≤ 8; omega), (by show 0 + 6 ≤ 48; omega)⟩) hS (fun q _ h => hF_8 q h) hF_8 (fun q _ h => hF_8 q h) (fun E ce q9 u8 t8 H_8 L_8_ ht hvm _ hB hz1 hk1 hS hce hcv hcl => ?_) (fun u8 t8 H_8 L_8_ ht hvm hw hB hz1 hk1 hS => ?_)
  · obtain ⟨hpx9, hB9⟩ := hB
    have hP := cW_keep hP hk1
    rw [hQ]
    exact vx_out (fun x hx => (htab x hx).elim) hlocks hce hcv hcl (fun t9 h9 ha9 => cX_out hP hK hD hS h9 ha9 ((by rw [hpx9.1]; exact px_of (n := 0) (by rw [k_eat, if_neg (by rw [hpx9.2]; decide)]) rfl))) hS.2.2 (by omega) (by omega)
  · skip
    have hP := cW_keep hP hk1
    have hw_8 := hw
    obtain ⟨mm, hmm, emm⟩ := ix_t hw_8 (by omega)
    rw [emm] at hl
    have tmm : toN x0 = mm := by rw [emm]; exact tn (by omega)
    refine lv_aload_n hx hb dX5_eat_11 rfl (lv_at hl 0 rfl) ?_
    refine va_get (D := (dC, dI)) (ci := 5) (v := .ref (a 4)) (C := RX5) (T := TX5) (N := 6) hx hb hts i_X5 hown hK hP 0 rfl rfl 3 (by decide) f_0 (fun _ h9 => h9) rfl dX5_eat_12 ?_
    refine lv_iload_n hx hb dX5_eat_15 rfl (lv_at hl 1 rfl) ?_
    refine lv_aload_n hx hb dX5_eat_16 rfl (lv_at hl 0 rfl) ?_
    refine va_get (D := (dC, dI)) (ci := 5) (v := .ref (a 1)) (C := RX5) (T := TX5) (N := 6) hx hb hts i_X5 hown hK hP 0 rfl rfl 0 (by decide) f_2 (fun _ h9 => h9) rfl dX5_eat_17 ?_
    refine vp_callSi (W.runV (As := [.int (nI mm), .ref (a 1)]) (rest := []) ⟨hx, hb, hml, hown, hts⟩ (c_X2_canBeEaten l dC dI a k S mm (by omega) hI) (cwV 2 hts gX5_eat_X2_canBeEaten rfl rfl rfl (by decide +kernel) ⟨(Nat.le_of_ble_eq_true rfl), (Nat.le_of_ble_eq_true rfl)⟩) ⟨cR_blind, va_recv hK hP (ci := 2) (q0 := 4) rfl rfl, fun U hU hW => ⟨rfl, cR_of hK hP hU hW⟩⟩ rfl rfl hl.1 rfl (lv_room (Nat.le_of_ble_eq_true rfl)) dX5_eat_20 ⟨(by show (0 + 1) + 0 ≤ 8; omega), (by show (0 + 6) + 0 ≤ 48; omega)⟩) (fun r er => ?_)
    subst er
    refine lv_if_ne (tgt := 36) hx hb dX5_eat_23 (by decide) (fun c_23 => ?_) (fun c_23 => ?_)
    · have c_23 : (canBE S mm) = true := bI_n c_23
      refine lv_aload_n hx hb dX5_eat_36 rfl (lv_at hl 0 rfl) ?_
      refine va_get (D := (dC, dI)) (ci := 5) (v := .ref (a 4)) (C := RX5) (T := TX5) (N := 6) hx hb hts i_X5 hown hK hP 0 rfl rfl 3 (by decide) f_0 (fun _ h9 => h9) rfl dX5_eat_37 ?_
      refine lv_iload_n hx hb dX5_eat_40 rfl (lv_at hl 1 rfl) ?_
      refine lv_aload_n hx hb dX5_eat_41 rfl (lv_at hl 0 rfl) ?_
      refine va_get (D := (dC, dI)) (ci := 5) (v := .ref (a 1)) (C := RX5) (T := TX5) (N := 6) hx hb hts i_X5 hown hK hP 0 rfl rfl 0 (by decide) f_2 (fun _ h9 => h9) rfl dX5_eat_42 ?_
      have hF_45 : ∀ q, va_A (cb_w a k S) H_8.size q → A q := va_free hD hS hA [0, 1, 2, 3, 4, 5, 6, 7, 8, 9, 10, 11, 12, 13, 14, 15, 16, 17, 18, 19] rfl
      refine va_calli (va_runV (As := [.int (nI mm), .ref (a 1)]) (rest := []) ⟨hx, hb, hml, hown, hts⟩ (c_X2_serve l dC dI a k S H_8.size mm (by omega) hI) (cwV 2 hts gX5_eat_X2_serve rfl rfl rfl (by decide +kernel) ⟨(Nat.le_of_ble_eq_true rfl), (Nat.le_of_ble_eq_true rfl)⟩) ⟨cT_blind, va_recv hK hP (ci := 2) (q0 := 4) rfl rfl, fun U hU hW => ⟨rfl, cT_of hK hP hD hU hW⟩⟩ rfl rfl hl.1 rfl (lv_room (Nat.le_of_ble_eq_true rfl)) dX5_eat_45 ⟨(by show (0 + 1) + 0 ≤ 8; omega), (by show (0 + 6) + 0 ≤ 48; omega)⟩) hS (fun q _ h => hF_45 q h) hF_45 (fun r_45 u8 t8 H_45 L_45_ ht hvm hw hB hz1 hk1 hS => ?_)
      obtain ⟨hP, -, hD9⟩ := hB
      rw [ht] at hP
      have hD := hD9.weaken (B := A) (fun _ q _ h => hF_45 q.1 h)
      have hP : va_P (dC, dI) vwCl (cb_W a k (s_eat (s_me (s_sto S (sv S mm (c_nf S))) (c_me S + 1)) (eatM S mm)) (c_sl (s_eat (s_me (s_sto S (sv S mm (c_nf S))) (c_me S + 1)) (eatM S mm))) (c_pt (s_eat (s_me (s_sto S (sv S mm (c_nf S))) (c_me S + 1)) (eatM S mm))) (c_at (s_eat (s_me (s_sto S (sv S mm (c_nf S))) (c_me S + 1)) (eatM S mm)))) H_45 := hP
      have hD : va_D A (cb_W a k (s_eat (s_me (s_sto S (sv S mm (c_nf S))) (c_me S + 1)) (eatM S mm)) (c_sl (s_eat (s_me (s_sto S (sv S mm (c_nf S))) (c_me S + 1)) (eatM S mm))) (c_pt (s_eat (s_me (s_sto S (sv S mm (c_nf S))) (c_me S + 1)) (eatM S mm))) (c_at (s_eat (s_me (s_sto S (sv S mm (c_nf S))) (c_me S + 1)) (eatM S mm)))) := hD
      subst hw
      have ew : (cb_W a k (s_eat (s_me (s_sto S (sv S mm (c_nf S))) (c_me S + 1)) (eatM S mm)) (c_sl (s_eat (s_me (s_sto S (sv S mm (c_nf S))) (c_me S + 1)) (eatM S mm))) (c_pt (s_eat (s_me (s_sto S (sv S mm (c_nf S))) (c_me S + 1)) (eatM S mm))) (c_at (s_eat (s_me (s_sto S (sv S mm (c_nf S))) (c_me S + 1)) (eatM S mm)))) = (cb_w a k (S_eat S x0)) := (by rw [S_eat, tmm]; first | done | rfl)
      have hP : va_P (dC, dI) vwCl (cb_w a k (S_eat S x0)) H_45 := by rw [← ew]; exact hP
      have hD : va_D A (cb_w a k (S_eat S x0)) := by rw [← ew]; exact hD
      rw [hQ]
      refine vx_ret ?_
      refine W.widen (k := 8) (n := 48) (by omega) (by omega) ?_
      exact W.iret (v := nI (cntE S mm)) hx hb hr (fun t9 ht9 hW9 => ⟨⟨nI (cntE S mm), (), rfl, ⟨by rw [k_eat, if_pos hw_8, tmm, if_pos c_23], by rw [r_eat, tmm]⟩, cB_of hP hK hD ht9 hW9⟩, hS.F ht9⟩) hS.2.2 dX5_eat_48
    · have c_23 : (canBE S mm) = false := bI_0 c_23
      obtain ⟨sa, hstr⟩ := hE.2.2.2.1 (194, "the meal cannot be eaten now") (by decide +kernel)
      have hpx : px [xE_I, xE_S] (k_eat S x0) "java/lang/IllegalStateException" := (px_of (n := 1) (by rw [k_eat, if_pos hw_8, tmm, if_neg (by rw [c_23]; decide)]) rfl)
      rw [hQ]
      exact vx_throwS (own := RX5) (cls := "java/lang/IllegalStateException") (names := ["java/lang/RuntimeException", "java/lang/Exception"]) (ik := 51) (is := 194) (ic := 55) hx hb hl9 hown (by decide) (by decide) f_3 f_4 hstr (cb_atS (fun w h => hts w (List.mem_cons_of_mem _ (List.mem_append_left _ (List.mem_append_right _ h)))) hE.2.2.1) cb_gdS hE.1 hE.2.1 hS (hl.1.trans hml.symm) dX5_eat_26 dX5_eat_29 dX5_eat_30 dX5_eat_32 dX5_eat_35 (fun x hx => (htab x hx).elim) (Nat.le_of_ble_eq_true rfl) (Nat.le_of_ble_eq_true rfl) (by decide) (by decide) hlocks (fun t ha hz hk => cX_of hP hK hD hS ha hz hk hpx) hS.2.2 (by decide) (by decide)
abbrev rm_X5_table : Room := { frames := 7, cells := 8, slots := 48, locals := 119 }
set_option maxHeartbeats 4000000 in
set_option maxRecDepth 100000 in
theorem c_X5_table (l : Launch) (hl9 : l.stackTraces = false) (dC : Nat → ClassId) (dI : Nat → Nat → Nat) (a : Nat → Nat) (k : Nat → ClassId) (S : cs_S) (sz : Nat) (x0 : Int32) (hI : Inv S) : vx_Met l yX5_table wsX5_table rm_X5_table (va_Pc [.ref (a 0), .int x0] (cU dC dI sz (cb_w a k S) (cb_ty k))) (va_Qi (fun (r : Int32) (_ : Unit) => k_table x0 = 0 ∧ r = r_table S x0) (fun _ t => cB dC dI (va_A (cb_w a k S) sz) (cb_w a k S) (cb_ty k) t) (va_A (cb_w a k S) sz)) (cX dC dI (cb_w a k S) (cb_ty k) (va_A (cb_w a k S) sz) (fun E => px [xE_I] (k_table x0) E)) 8 48 (va_A (cb_w a k S) sz) := by
  refine vx_ofW (cc := cX5_table) (maxL := 2) (ret := (some .int)) (by decide) rfl ?_
  intro p e s m args below meth c s₁ B hml htab hv
  obtain ⟨rfl, ⟨hsz, hP, hK, hD0⟩, hE⟩ := hv
  have hx := B.exec
  have hb := B.bytes
  have hr := B.returns
  have hts := atoms_spec (ws := wsX5_table) B.pre
  have hown : s.vm.findClass RX5 = some m.cls := findClass_of_methodNamed B.named
  have hlocks := B.notSynchronized
  subst hsz
  have hD := hD0.self (sz := s.heap.size)
  generalize hAe : va_A (cb_w a k S) s.heap.size = A at hD hE ⊢
  have hA : ∀ q : Nat, s.heap.size ≤ q → A q := fun q h => by rw [← hAe]; exact Or.inr h
  have hS : va_S A s.heap s.heap [] := va_S.rf
  obtain ⟨Q, hQ⟩ : ∃ Q, Q = vx_MQ below (va_Qi (fun (r : Int32) (_ : Unit) => k_table x0 = 0 ∧ r = r_table S x0) (fun _ t => cB dC dI A (cb_w a k S) (cb_ty k) t) A) (cX dC dI (cb_w a k S) (cb_ty k) A (fun E => px [xE_I] (k_table x0) E)) ([.ref (a 0), .int x0] : List Value).toArray s 8 48 A := ⟨_, rfl⟩
  show W p l e rm_X5_table s m _ below meth c s.heap [] 0 0 (vx_MQ below _ _ _ _ _ _ _) _
  rw [← hQ]
  have i_X2 : ∀ w ∈ wsX20, w ∈ wsX5_table := fun w h => List.mem_cons_of_mem _ (List.mem_append_left _ (List.mem_append_left _ (List.mem_append_right _ h)))
  have i_X5 : ∀ w ∈ wsX50, w ∈ wsX5_table := fun w h => List.mem_cons_of_mem _ (List.mem_append_left _ (List.mem_append_left _ (List.mem_append_left _ (List.mem_append_right _ h))))
  obtain ⟨⟨hday, hnp, hns, hnt, hnf, hnm, hnb, hme⟩, hpat, hage, hten, hcnt, hplc, heat, hned, hhld, hbad, hbad0, hbag⟩ := id hI
  have f_0 := hts (.fieldLink RX5 33 "CampBook" "kitchen" "LCampBook$Kitchen;") (by decide +kernel)
  have f_1 := hts (.fieldLink RX5 202 "CampBook$Kitchen" "mealsToday" "I") (by decide +kernel)
  have f_2 := hts (.fieldLink RX5 10 "CampBook" "people" "LCampBook$People;") (by decide +kernel)
  have hl := lv_entry ([.ref (a 0), .int x0]) (n := 2) (Nat.le_of_ble_eq_true rfl)
  rw [lg_entry_eq]
  generalize (lg_sl ([.ref (a 0), .int x0]) ++ List.replicate (2 - (lg_sl ([.ref (a 0), .int x0])).length) Slot.unset).toArray = ls at hl ⊢
  have hl : lv_has ls 2 [(0, .ref (a 0)), (1, .int x0)] := hl
  refine lv_iload_n hx hb dX5_table_0 rfl (lv_at hl 1 rfl) ?_
  refine lv_iconst (v := nI 3) hx hb dX5_table_1 (by decide) ?_
  have hF_2 : ∀ q, va_A ([] : va_W) s.heap.size q → A q := fun q h => hA q (Nat.le_trans hS.1 (va_A_nil h))
  refine vx_callv (vx_runS (As := [.int x0, .int (nI 3)]) (rest := []) ⟨hx, hb, hml, hown, hts⟩ (c_X5_checkNumber l hl9 dC dI a k S s.heap.size x0 3 (by omega)) (va_cwS 2 hts gX5_table_X5_checkNumber rfl rfl rfl (by decide +kernel) ⟨(Nat.le_of_ble_eq_true rfl), (Nat.le_of_ble_eq_true rfl)⟩) ⟨cU_blind, fun U hU hW => ⟨rfl, cU_of (hK.sub (tys' := []) [] rfl) (hP.sub (ws' := []) [] rfl) (hD.sub (ws' := []) [] (by decide) rfl) hE hS hU hW hF_2⟩⟩ rfl rfl hl.1 rfl (lv_room (Nat.le_of_ble_eq_true rfl)) dX5_table_2 ⟨(by show 0 + 1 ≤ 8; omega), (by show 0 + 6 ≤ 48; omega)⟩) hS (fun q _ h => hF_2 q h) hF_2 (fun q _ h => hF_2 q h) (fun E ce q9 u8 t8 H_2 L_2_ ht hvm _ hB hz1 hk1 hS hce hcv hcl => ?_) (fun u8 t8 H_2 L_2_ ht hvm hw hB hz1 hk1 hS => ?_)
  · obtain ⟨hpx9, hB9⟩ := hB
    have hP := cW_keep hP hk1
    rw [hQ]
    exact vx_out (fun x hx => (htab x hx).elim) hlocks hce hcv hcl (fun t9 h9 ha9 => cX_out hP hK hD hS h9 ha9 ((by rw [hpx9.1]; exact px_of (n := 0) (by rw [k_table, if_neg (by rw [hpx9.2]; decide)]) rfl))) hS.2.2 (by omega) (by omega)
  · skip
    have hP := cW_keep hP hk1
    have hw_2 := hw
    obtain ⟨w9, hw9, ew9⟩ := ix_t hw_2 (by omega)
    rw [ew9] at hl
    have tw9 : toN x0 = w9 := by rw [ew9]; exact tn (by omega)
    refine lv_iload_n hx hb dX5_table_5 rfl (lv_at hl 1 rfl) ?_
    rcases (show w9 = 0 ∨ w9 = 1 ∨ w9 = 2 by omega) with rfl | rfl | rfl
    · refine lv_lookup (tgt := 32) (x := nI 0) (off := 26) hx hb dX5_table_6 rfl (by decide) (by decide) ?_
      refine lv_aload_n hx hb dX5_table_32 rfl (lv_at hl 0 rfl) ?_
      refine vp_callSi (W.runV (As := []) (rest := []) ⟨hx, hb, hml, hown, hts⟩ (c_X5_hungryScouts l dC dI a k S hI) (cwV 0 hts gX5_table_X5_hungryScouts rfl rfl rfl (by decide +kernel) ⟨(Nat.le_of_ble_eq_true rfl), (Nat.le_of_ble_eq_true rfl)⟩) ⟨cR_blind, va_recv hK hP (ci := 5) (q0 := 0) rfl rfl, fun U hU hW => ⟨rfl, cR_of hK hP hU hW⟩⟩ rfl rfl hl.1 rfl (lv_room (Nat.le_of_ble_eq_true rfl)) dX5_table_33 ⟨(by show (0 + 1) + 0 ≤ 8; omega), (by show (0 + 6) + 0 ≤ 48; omega)⟩) (fun r er => ?_)
      subst er
      have ew : (cb_W a k S (c_sl S) (c_pt S) (c_at S)) = (cb_w a k S) := rfl
      have hP : va_P (dC, dI) vwCl (cb_w a k S) H_2 := by rw [← ew]; exact hP
      have hD : va_D A (cb_w a k S) := by rw [← ew]; exact hD
      rw [hQ]
      refine vx_ret ?_
      refine W.widen (k := 8) (n := 48) (by omega) (by omega) ?_
      exact W.iret (v := nI (c_hung S)) hx hb hr (fun t9 ht9 hW9 => ⟨⟨nI (c_hung S), (), rfl, ⟨by rw [k_table, if_pos hw_2], by rw [r_table, tw9]; rfl⟩, cB_of hP hK hD ht9 hW9⟩, hS.F ht9⟩) hS.2.2 dX5_table_36
    · refine lv_lookup (tgt := 37) (x := nI 1) (off := 31) hx hb dX5_table_6 rfl (by decide) (by decide) ?_
      refine lv_aload_n hx hb dX5_table_37 rfl (lv_at hl 0 rfl) ?_
      refine va_get (D := (dC, dI)) (ci := 5) (v := .ref (a 4)) (C := RX5) (T := TX5) (N := 6) hx hb hts i_X5 hown hK hP 0 rfl rfl 3 (by decide) f_0 (fun _ h9 => h9) rfl dX5_table_38 ?_
      refine va_get (D := (dC, dI)) (ci := 2) (v := .int (nI (c_me S))) (C := RX2) (T := TX2) (N := 6) hx hb hts i_X2 hown hK hP 4 rfl rfl 2 (by decide) f_1 (fun _ h9 => h9) rfl dX5_table_41 ?_
      have ew : (cb_W a k S (c_sl S) (c_pt S) (c_at S)) = (cb_w a k S) := rfl
      have hP : va_P (dC, dI) vwCl (cb_w a k S) H_2 := by rw [← ew]; exact hP
      have hD : va_D A (cb_w a k S) := by rw [← ew]; exact hD
      rw [hQ]
      refine vx_ret ?_
      refine W.widen (k := 8) (n := 48) (by omega) (by omega) ?_
      exact W.iret (v := nI (c_me S)) hx hb hr (fun t9 ht9 hW9 => ⟨⟨nI (c_me S), (), rfl, ⟨by rw [k_table, if_pos hw_2], by rw [r_table, tw9]; rfl⟩, cB_of hP hK hD ht9 hW9⟩, hS.F ht9⟩) hS.2.2 dX5_table_44
    · refine lv_lookup (tgt := 45) (x := nI 2) (off := 39) hx hb dX5_table_6 rfl (by decide) (by decide) ?_
      refine lv_aload_n hx hb dX5_table_45 rfl (lv_at hl 0 rfl) ?_
      refine va_get (D := (dC, dI)) (ci := 5) (v := .ref (a 4)) (C := RX5) (T := TX5) (N := 6) hx hb hts i_X5 hown hK hP 0 rfl rfl 3 (by decide) f_0 (fun _ h9 => h9) rfl dX5_table_46 ?_
      refine lv_aload_n hx hb dX5_table_49 rfl (lv_at hl 0 rfl) ?_
      refine va_get (D := (dC, dI)) (ci := 5) (v := .ref (a 1)) (C := RX5) (T := TX5) (N := 6) hx hb hts i_X5 hown hK hP 0 rfl rfl 0 (by decide) f_2 (fun _ h9 => h9) rfl dX5_table_50 ?_
      refine vp_callSi (W.runV (As := [.ref (a 1)]) (rest := []) ⟨hx, hb, hml, hown, hts⟩ (c_X2_bestMeal l dC dI a k S hI) (cwV 1 hts gX5_table_X2_bestMeal rfl rfl rfl (by decide +kernel) ⟨(Nat.le_of_ble_eq_true rfl), (Nat.le_of_ble_eq_true rfl)⟩) ⟨cR_blind, va_recv hK hP (ci := 2) (q0 := 4) rfl rfl, fun U hU hW => ⟨rfl, cR_of hK hP hU hW⟩⟩ rfl rfl hl.1 rfl (lv_room (Nat.le_of_ble_eq_true rfl)) dX5_table_53 ⟨(by show (0 + 1) + 0 ≤ 8; omega), (by show (0 + 6) + 0 ≤ 48; omega)⟩) (fun r er => ?_)
      subst er
      have ew : (cb_W a k S (c_sl S) (c_pt S) (c_at S)) = (cb_w a k S) := rfl
      have hP : va_P (dC, dI) vwCl (cb_w a k S) H_2 := by rw [← ew]; exact hP
      have hD : va_D A (cb_w a k S) := by rw [← ew]; exact hD
      rw [hQ]
      refine vx_ret ?_
      refine W.widen (k := 8) (n := 48) (by omega) (by omega) ?_
      exact W.iret (v := oI (bM S (c_nm S))) hx hb hr (fun t9 ht9 hW9 => ⟨⟨oI (bM S (c_nm S)), (), rfl, ⟨by rw [k_table, if_pos hw_2], by rw [r_table, tw9]; rfl⟩, cB_of hP hK hD ht9 hW9⟩, hS.F ht9⟩) hS.2.2 dX5_table_56
abbrev rm_X5_addBadge : Room := { frames := 7, cells := 8, slots := 48, locals := 112 }
set_option maxHeartbeats 4000000 in
set_option maxRecDepth 100000 in
theorem c_X5_addBadge (l : Launch) (hl9 : l.stackTraces = false) (dC : Nat → ClassId) (dI : Nat → Nat → Nat) (a : Nat → Nat) (k : Nat → ClassId) (S : cs_S) (sz : Nat) (x0 : Int32) (hI : Inv S) : vx_Met l yX5_addBadge wsX5_addBadge rm_X5_addBadge (va_Pc [.ref (a 0), .int x0] (cU dC dI sz (cb_w a k S) (cb_ty k))) (va_Qi (fun (r : Int32) (_ : Unit) => k_addBadge S x0 = 0 ∧ r = nI (c_nb S)) (fun _ t => cB dC dI (va_A (cb_w a k S) sz) (cb_w a k (S_addBadge S x0)) (cb_ty k) t) (va_A (cb_w a k S) sz)) (cX dC dI (cb_w a k S) (cb_ty k) (va_A (cb_w a k S) sz) (fun E => px [xE_A, xE_S] (k_addBadge S x0) E)) 8 48 (va_A (cb_w a k S) sz) := by
  refine vx_ofW (cc := cX5_addBadge) (maxL := 2) (ret := (some .int)) (by decide) rfl ?_
  intro p e s m args below meth c s₁ B hml htab hv
  obtain ⟨rfl, ⟨hsz, hP, hK, hD0⟩, hE⟩ := hv
  have hx := B.exec
  have hb := B.bytes
  have hr := B.returns
  have hts := atoms_spec (ws := wsX5_addBadge) B.pre
  have hown : s.vm.findClass RX5 = some m.cls := findClass_of_methodNamed B.named
  have hlocks := B.notSynchronized
  subst hsz
  have hD := hD0.self (sz := s.heap.size)
  generalize hAe : va_A (cb_w a k S) s.heap.size = A at hD hE ⊢
  have hA : ∀ q : Nat, s.heap.size ≤ q → A q := fun q h => by rw [← hAe]; exact Or.inr h
  have hS : va_S A s.heap s.heap [] := va_S.rf
  obtain ⟨Q, hQ⟩ : ∃ Q, Q = vx_MQ below (va_Qi (fun (r : Int32) (_ : Unit) => k_addBadge S x0 = 0 ∧ r = nI (c_nb S)) (fun _ t => cB dC dI A (cb_w a k (S_addBadge S x0)) (cb_ty k) t) A) (cX dC dI (cb_w a k S) (cb_ty k) A (fun E => px [xE_A, xE_S] (k_addBadge S x0) E)) ([.ref (a 0), .int x0] : List Value).toArray s 8 48 A := ⟨_, rfl⟩
  show W p l e rm_X5_addBadge s m _ below meth c s.heap [] 0 0 (vx_MQ below _ _ _ _ _ _ _) _
  rw [← hQ]
  have i_X0 : ∀ w ∈ wsX00, w ∈ wsX5_addBadge := fun w h => List.mem_cons_of_mem _ (List.mem_append_left _ (List.mem_append_left _ (List.mem_append_right _ h)))
  have i_X5 : ∀ w ∈ wsX50, w ∈ wsX5_addBadge := fun w h => List.mem_cons_of_mem _ (List.mem_append_left _ (List.mem_append_left _ (List.mem_append_left _ (List.mem_append_right _ h))))
  obtain ⟨⟨hday, hnp, hns, hnt, hnf, hnm, hnb, hme⟩, hpat, hage, hten, hcnt, hplc, heat, hned, hhld, hbad, hbad0, hbag⟩ := id hI
  have f_0 := hts (.fieldLink RX5 40 "CampBook" "badges" "LCampBook$Badges;") (by decide +kernel)
  have f_1 := hts (.fieldLink RX5 209 "CampBook$Badges" "size" "I") (by decide +kernel)
  have f_2 := hts (.fieldLink RX5 212 "CampBook$Badges" "leastAge" "[I") (by decide +kernel)
  have f_3 := hts (.classLink RX5 51 "java/lang/IllegalStateException") (by decide +kernel)
  have f_4 := hts (.initialized "java/lang/IllegalStateException") (by decide +kernel)
  have hl := lv_entry ([.ref (a 0), .int x0]) (n := 2) (Nat.le_of_ble_eq_true rfl)
  rw [lg_entry_eq]
  generalize (lg_sl ([.ref (a 0), .int x0]) ++ List.replicate (2 - (lg_sl ([.ref (a 0), .int x0])).length) Slot.unset).toArray = ls at hl ⊢
  have hl : lv_has ls 2 [(0, .ref (a 0)), (1, .int x0)] := hl
  refine lv_iload_n hx hb dX5_addBadge_0 rfl (lv_at hl 1 rfl) ?_
  refine lv_bipush (v := nI 6) hx hb dX5_addBadge_1 (by decide) ?_
  refine lv_bipush (v := nI 17) hx hb dX5_addBadge_3 (by decide) ?_
  have hF_5 : ∀ q, va_A ([] : va_W) s.heap.size q → A q := fun q h => hA q (Nat.le_trans hS.1 (va_A_nil h))
  refine vx_callv (vx_runS (As := [.int x0, .int (nI 6), .int (nI 17)]) (rest := []) ⟨hx, hb, hml, hown, hts⟩ (c_X5_checkArgument l hl9 dC dI a k S s.heap.size x0 (nI 6) (nI 17)) (va_cwS 3 hts gX5_addBadge_X5_checkArgument rfl rfl rfl (by decide +kernel) ⟨(Nat.le_of_ble_eq_true rfl), (Nat.le_of_ble_eq_true rfl)⟩) ⟨cU_blind, fun U hU hW => ⟨rfl, cU_of (hK.sub (tys' := []) [] rfl) (hP.sub (ws' := []) [] rfl) (hD.sub (ws' := []) [] (by decide) rfl) hE hS hU hW hF_5⟩⟩ rfl rfl hl.1 rfl (lv_room (Nat.le_of_ble_eq_true rfl)) dX5_addBadge_5 ⟨(by show 0 + 1 ≤ 8; omega), (by show 0 + 6 ≤ 48; omega)⟩) hS (fun q _ h => hF_5 q h) hF_5 (fun q _ h => hF_5 q h) (fun E ce q9 u8 t8 H_5 L_5_ ht hvm _ hB hz1 hk1 hS hce hcv hcl => ?_) (fun u8 t8 H_5 L_5_ ht hvm hw hB hz1 hk1 hS => ?_)
  · obtain ⟨hpx9, hB9⟩ := hB
    have hP := cW_keep hP hk1
    rw [hQ]
    exact vx_out (fun x hx => (htab x hx).elim) hlocks hce hcv hcl (fun t9 h9 ha9 => cX_out hP hK hD hS h9 ha9 ((by rw [hpx9.1]; exact px_of (n := 0) (by rw [k_addBadge, if_neg (by rw [hpx9.2]; decide)]) rfl))) hS.2.2 (by omega) (by omega)
  · skip
    have hP := cW_keep hP hk1
    have hw_5 := hw
    refine lv_aload_n hx hb dX5_addBadge_8 rfl (lv_at hl 0 rfl) ?_
    refine va_get (D := (dC, dI)) (ci := 5) (v := .ref (a 5)) (C := RX5) (T := TX5) (N := 6) hx hb hts i_X5 hown hK hP 0 rfl rfl 4 (by decide) f_0 (fun _ h9 => h9) rfl dX5_addBadge_9 ?_
    refine va_get (D := (dC, dI)) (ci := 0) (v := .int (nI (c_nb S))) (C := RX0) (T := TX0) (N := 3) hx hb hts i_X0 hown hK hP 5 rfl rfl 0 (by decide) f_1 (fun _ h9 => h9) rfl dX5_addBadge_12 ?_
    refine lv_bipush (v := nI 8) hx hb dX5_addBadge_15 (by decide) ?_
    refine lv_icmp_lt (tgt := 30) hx hb dX5_addBadge_17 (by decide) (fun c_17 => ?_) (fun c_17 => ?_)
    · have c_17 : (c_nb S) < 8 := cb_lt (by omega) (by omega) c_17
      refine lv_aload_n hx hb dX5_addBadge_30 rfl (lv_at hl 0 rfl) ?_
      refine va_get (D := (dC, dI)) (ci := 5) (v := .ref (a 5)) (C := RX5) (T := TX5) (N := 6) hx hb hts i_X5 hown hK hP 0 rfl rfl 4 (by decide) f_0 (fun _ h9 => h9) rfl dX5_addBadge_31 ?_
      refine va_get (D := (dC, dI)) (ci := 0) (v := .ref (a 18)) (C := RX0) (T := TX0) (N := 3) hx hb hts i_X0 hown hK hP 5 rfl rfl 1 (by decide) f_2 (fun _ h9 => h9) rfl dX5_addBadge_34 ?_
      refine lv_aload_n hx hb dX5_addBadge_37 rfl (lv_at hl 0 rfl) ?_
      refine va_get (D := (dC, dI)) (ci := 5) (v := .ref (a 5)) (C := RX5) (T := TX5) (N := 6) hx hb hts i_X5 hown hK hP 0 rfl rfl 4 (by decide) f_0 (fun _ h9 => h9) rfl dX5_addBadge_38 ?_
      refine va_get (D := (dC, dI)) (ci := 0) (v := .int (nI (c_nb S))) (C := RX0) (T := TX0) (N := 3) hx hb hts i_X0 hown hK hP 5 rfl rfl 0 (by decide) f_1 (fun _ h9 => h9) rfl dX5_addBadge_41 ?_
      refine lv_iload_n hx hb dX5_addBadge_44 rfl (lv_at hl 1 rfl) ?_
      refine cb_iast hx hb hK hP hD hS 18 12 (f := c_lag S) rfl rfl (j := c_nb S) (by omega) (Nat.le_of_ble_eq_true rfl) dX5_addBadge_45 (fun H locs hP hD hS => ?_)
      rw [wsC_lag] at hP hD
      have hP : va_P (dC, dI) vwCl (cb_W a k (s_lag S (upd (c_lag S) (c_nb S) x0)) (c_sl S) (c_pt S) (c_at S)) H := hP
      have hD : va_D A (cb_W a k (s_lag S (upd (c_lag S) (c_nb S) x0)) (c_sl S) (c_pt S) (c_at S)) := hD
      refine lv_aload_n hx hb dX5_addBadge_46 rfl (lv_at hl 0 rfl) ?_
      refine va_get (D := (dC, dI)) (ci := 5) (v := .ref (a 5)) (C := RX5) (T := TX5) (N := 6) hx hb hts i_X5 hown hK hP 0 rfl rfl 4 (by decide) f_0 (fun _ h9 => h9) rfl dX5_addBadge_47 ?_
      refine lv_dup hx hb dX5_addBadge_50 rfl ?_
      refine va_get (D := (dC, dI)) (ci := 0) (v := .int (nI (c_nb S))) (C := RX0) (T := TX0) (N := 3) hx hb hts i_X0 hown hK hP 5 rfl rfl 0 (by decide) f_1 (fun _ h9 => h9) rfl dX5_addBadge_51 ?_
      refine lv_iconst (v := nI 1) hx hb dX5_addBadge_54 (by decide) ?_
      refine lv_iadd hx hb dX5_addBadge_55 ?_
      refine cb_topi (nI_add _ _) ?_
      refine va_put (D := (dC, dI)) (ci := 0) (v := .int (nI ((c_nb S) + 1))) (ty := .int) (C := RX0) (T := TX0) (N := 3) hx hb hts i_X0 tyX0 tyX0_ok nmX0 hown hK hP hD hS 5 rfl rfl 0 (by decide) f_1 (fun _ h9 => h9) rfl (by decide +kernel) rfl rfl (Nat.le_of_ble_eq_true rfl) dX5_addBadge_56 (fun H locs hP hD hS => ?_)
      rw [wsC_nb] at hP hD
      have hP : va_P (dC, dI) vwCl (cb_W a k (s_nb (s_lag S (upd (c_lag S) (c_nb S) x0)) ((c_nb S) + 1)) (c_sl S) (c_pt S) (c_at S)) H := hP
      have hD : va_D A (cb_W a k (s_nb (s_lag S (upd (c_lag S) (c_nb S) x0)) ((c_nb S) + 1)) (c_sl S) (c_pt S) (c_at S)) := hD
      refine lv_aload_n hx hb dX5_addBadge_59 rfl (lv_at hl 0 rfl) ?_
      refine va_get (D := (dC, dI)) (ci := 5) (v := .ref (a 5)) (C := RX5) (T := TX5) (N := 6) hx hb hts i_X5 hown hK hP 0 rfl rfl 4 (by decide) f_0 (fun _ h9 => h9) rfl dX5_addBadge_60 ?_
      refine va_get (D := (dC, dI)) (ci := 0) (v := .int (nI ((c_nb S) + 1))) (C := RX0) (T := TX0) (N := 3) hx hb hts i_X0 hown hK hP 5 rfl rfl 0 (by decide) f_1 (fun _ h9 => h9) rfl dX5_addBadge_63 ?_
      refine lv_iconst (v := nI 1) hx hb dX5_addBadge_66 (by decide) ?_
      refine lv_isub hx hb dX5_addBadge_67 ?_
      have ew : (cb_W a k (s_nb (s_lag S (upd (c_lag S) (c_nb S) x0)) ((c_nb S) + 1)) (c_sl S) (c_pt S) (c_at S)) = (cb_w a k (S_addBadge S x0)) := rfl
      have hP : va_P (dC, dI) vwCl (cb_w a k (S_addBadge S x0)) H := by rw [← ew]; exact hP
      have hD : va_D A (cb_w a k (S_addBadge S x0)) := by rw [← ew]; exact hD
      rw [hQ]
      refine vx_ret ?_
      refine W.widen (k := 8) (n := 48) (by omega) (by omega) ?_
      exact W.iret (v := (nI ((c_nb S) + 1)) - (nI 1)) hx hb hr (fun t9 ht9 hW9 => ⟨⟨(nI ((c_nb S) + 1)) - (nI 1), (), rfl, ⟨by rw [k_addBadge, if_pos hw_5, if_pos c_17], by rw [pk_sub (by omega)]; rfl⟩, cB_of hP hK hD ht9 hW9⟩, hS.F ht9⟩) hS.2.2 dX5_addBadge_68
    · have c_17 : 8 ≤ (c_nb S) := cb_nlt (by omega) (by omega) c_17
      obtain ⟨sa, hstr⟩ := hE.2.2.2.1 (210, "there are 8 badges") (by decide +kernel)
      have hpx : px [xE_A, xE_S] (k_addBadge S x0) "java/lang/IllegalStateException" := (px_of (n := 1) (by rw [k_addBadge, if_pos hw_5, if_neg (Nat.not_lt.mpr c_17)]) rfl)
      rw [hQ]
      exact vx_throwS (own := RX5) (cls := "java/lang/IllegalStateException") (names := ["java/lang/RuntimeException", "java/lang/Exception"]) (ik := 51) (is := 210) (ic := 55) hx hb hl9 hown (by decide) (by decide) f_3 f_4 hstr (cb_atS (fun w h => hts w (List.mem_cons_of_mem _ (List.mem_append_left _ (List.mem_append_right _ h)))) hE.2.2.1) cb_gdS hE.1 hE.2.1 hS (hl.1.trans hml.symm) dX5_addBadge_20 dX5_addBadge_23 dX5_addBadge_24 dX5_addBadge_26 dX5_addBadge_29 (fun x hx => (htab x hx).elim) (Nat.le_of_ble_eq_true rfl) (Nat.le_of_ble_eq_true rfl) (by decide) (by decide) hlocks (fun t ha hz hk => cX_of hP hK hD hS ha hz hk hpx) hS.2.2 (by decide) (by decide)
abbrev rm_X5_want : Room := { frames := 7, cells := 8, slots := 48, locals := 112 }
set_option maxHeartbeats 4000000 in
set_option maxRecDepth 100000 in
theorem c_X5_want (l : Launch) (hl9 : l.stackTraces = false) (dC : Nat → ClassId) (dI : Nat → Nat → Nat) (a : Nat → Nat) (k : Nat → ClassId) (S : cs_S) (sz : Nat) (x0 : Int32) (x1 : Int32) (x2 : Int32) (hI : Inv S) : vx_Met l yX5_want wsX5_want rm_X5_want (va_Pc [.ref (a 0), .int x0, .int x1, .int x2] (cU dC dI sz (cb_w a k S) (cb_ty k))) (va_Qi (fun (r : Int32) (_ : Unit) => k_want S x0 x1 x2 = 0 ∧ r = r_want S x0 x1) (fun _ t => cB dC dI (va_A (cb_w a k S) sz) (cb_w a k (S_want S x0 x1 x2)) (cb_ty k) t) (va_A (cb_w a k S) sz)) (cX dC dI (cb_w a k S) (cb_ty k) (va_A (cb_w a k S) sz) (fun E => px [xE_I, xE_A] (k_want S x0 x1 x2) E)) 8 48 (va_A (cb_w a k S) sz) := by
  refine vx_ofW (cc := cX5_want) (maxL := 6) (ret := (some .int)) (by decide) rfl ?_
  intro p e s m args below meth c s₁ B hml htab hv
  obtain ⟨rfl, ⟨hsz, hP, hK, hD0⟩, hE⟩ := hv
  have hx := B.exec
  have hb := B.bytes
  have hr := B.returns
  have hts := atoms_spec (ws := wsX5_want) B.pre
  have hown : s.vm.findClass RX5 = some m.cls := findClass_of_methodNamed B.named
  have hlocks := B.notSynchronized
  subst hsz
  have hD := hD0.self (sz := s.heap.size)
  generalize hAe : va_A (cb_w a k S) s.heap.size = A at hD hE ⊢
  have hA : ∀ q : Nat, s.heap.size ≤ q → A q := fun q h => by rw [← hAe]; exact Or.inr h
  have hS : va_S A s.heap s.heap [] := va_S.rf
  obtain ⟨Q, hQ⟩ : ∃ Q, Q = vx_MQ below (va_Qi (fun (r : Int32) (_ : Unit) => k_want S x0 x1 x2 = 0 ∧ r = r_want S x0 x1) (fun _ t => cB dC dI A (cb_w a k (S_want S x0 x1 x2)) (cb_ty k) t) A) (cX dC dI (cb_w a k S) (cb_ty k) A (fun E => px [xE_I, xE_A] (k_want S x0 x1 x2) E)) ([.ref (a 0), .int x0, .int x1, .int x2] : List Value).toArray s 8 48 A := ⟨_, rfl⟩
  show W p l e rm_X5_want s m _ below meth c s.heap [] 0 0 (vx_MQ below _ _ _ _ _ _ _) _
  rw [← hQ]
  have i_X0 : ∀ w ∈ wsX00, w ∈ wsX5_want := fun w h => List.mem_cons_of_mem _ (List.mem_append_left _ (List.mem_append_left _ (List.mem_append_right _ h)))
  have i_X5 : ∀ w ∈ wsX50, w ∈ wsX5_want := fun w h => List.mem_cons_of_mem _ (List.mem_append_left _ (List.mem_append_left _ (List.mem_append_left _ (List.mem_append_right _ h))))
  obtain ⟨⟨hday, hnp, hns, hnt, hnf, hnm, hnb, hme⟩, hpat, hage, hten, hcnt, hplc, heat, hned, hhld, hbad, hbad0, hbag⟩ := id hI
  have f_0 := hts (.fieldLink RX5 40 "CampBook" "badges" "LCampBook$Badges;") (by decide +kernel)
  have f_1 := hts (.fieldLink RX5 209 "CampBook$Badges" "size" "I") (by decide +kernel)
  have f_2 := hts (.fieldLink RX5 215 "CampBook$Badges" "wants" "[I") (by decide +kernel)
  have hl := lv_entry ([.ref (a 0), .int x0, .int x1, .int x2]) (n := 6) (Nat.le_of_ble_eq_true rfl)
  rw [lg_entry_eq]
  generalize (lg_sl ([.ref (a 0), .int x0, .int x1, .int x2]) ++ List.replicate (6 - (lg_sl ([.ref (a 0), .int x0, .int x1, .int x2])).length) Slot.unset).toArray = ls at hl ⊢
  have hl : lv_has ls 6 [(0, .ref (a 0)), (1, .int x0), (2, .int x1), (3, .int x2)] := hl
  refine lv_iload_n hx hb dX5_want_0 rfl (lv_at hl 1 rfl) ?_
  refine lv_aload_n hx hb dX5_want_1 rfl (lv_at hl 0 rfl) ?_
  refine va_get (D := (dC, dI)) (ci := 5) (v := .ref (a 5)) (C := RX5) (T := TX5) (N := 6) hx hb hts i_X5 hown hK hP 0 rfl rfl 4 (by decide) f_0 (fun _ h9 => h9) rfl dX5_want_2 ?_
  refine va_get (D := (dC, dI)) (ci := 0) (v := .int (nI (c_nb S))) (C := RX0) (T := TX0) (N := 3) hx hb hts i_X0 hown hK hP 5 rfl rfl 0 (by decide) f_1 (fun _ h9 => h9) rfl dX5_want_5 ?_
  have hF_8 : ∀ q, va_A ([] : va_W) s.heap.size q → A q := fun q h => hA q (Nat.le_trans hS.1 (va_A_nil h))
  refine vx_callv (vx_runS (As := [.int x0, .int (nI (c_nb S))]) (rest := []) ⟨hx, hb, hml, hown, hts⟩ (c_X5_checkNumber l hl9 dC dI a k S s.heap.size x0 (c_nb S) (by omega)) (va_cwS 2 hts gX5_want_X5_checkNumber rfl rfl rfl (by decide +kernel) ⟨(Nat.le_of_ble_eq_true rfl), (Nat.le_of_ble_eq_true rfl)⟩) ⟨cU_blind, fun U hU hW => ⟨rfl, cU_of (hK.sub (tys' := []) [] rfl) (hP.sub (ws' := []) [] rfl) (hD.sub (ws' := []) [] (by decide) rfl) hE hS hU hW hF_8⟩⟩ rfl rfl hl.1 rfl (lv_room (Nat.le_of_ble_eq_true rfl)) dX5_want_8 ⟨(by show 0 + 1 ≤ 8; omega), (by show 0 + 6 ≤ 48; omega)⟩) hS (fun q _ h => hF_8 q h) hF_8 (fun q _ h => hF_8 q h) (fun E ce q9 u8 t8 H_8 L_8_ ht hvm _ hB hz1 hk1 hS hce hcv hcl => ?_) (fun u8 t8 H_8 L_8_ ht hvm hw hB hz1 hk1 hS => ?_)
  · obtain ⟨hpx9, hB9⟩ := hB
    have hP := cW_keep hP hk1
    rw [hQ]
    exact vx_out (fun x hx => (htab x hx).elim) hlocks hce hcv hcl (fun t9 h9 ha9 => cX_out hP hK hD hS h9 ha9 ((by rw [hpx9.1]; exact px_of (n := 0) (by rw [k_want, if_neg (by rw [hpx9.2]; decide)]) rfl))) hS.2.2 (by omega) (by omega)
  · skip
    have hP := cW_keep hP hk1
    have hw_8 := hw
    obtain ⟨bb, hbb, ebb⟩ := ix_t hw_8 (by omega)
    rw [ebb] at hl
    have tbb : toN x0 = bb := by rw [ebb]; exact tn (by omega)
    refine lv_iload_n hx hb dX5_want_11 rfl (lv_at hl 2 rfl) ?_
    refine lv_bipush (v := nI 10) hx hb dX5_want_12 (by decide) ?_
    have hF_14 : ∀ q, va_A ([] : va_W) H_8.size q → A q := fun q h => hA q (Nat.le_trans hS.1 (va_A_nil h))
    refine vx_callv (vx_runS (As := [.int x1, .int (nI 10)]) (rest := []) ⟨hx, hb, hml, hown, hts⟩ (c_X5_checkNumber l hl9 dC dI a k S H_8.size x1 10 (by omega)) (va_cwS 2 hts gX5_want_X5_checkNumber rfl rfl rfl (by decide +kernel) ⟨(Nat.le_of_ble_eq_true rfl), (Nat.le_of_ble_eq_true rfl)⟩) ⟨cU_blind, fun U hU hW => ⟨rfl, cU_of (hK.sub (tys' := []) [] rfl) (hP.sub (ws' := []) [] rfl) (hD.sub (ws' := []) [] (by decide) rfl) hE hS hU hW hF_14⟩⟩ rfl rfl hl.1 rfl (lv_room (Nat.le_of_ble_eq_true rfl)) dX5_want_14 ⟨(by show (0 + 1) + 1 ≤ 8; omega), (by show (0 + 6) + 6 ≤ 48; omega)⟩) hS (fun q _ h => hF_14 q h) hF_14 (fun q _ h => hF_14 q h) (fun E ce q9 u8 t8 H_14 L_14_ ht hvm _ hB hz1 hk1 hS hce hcv hcl => ?_) (fun u8 t8 H_14 L_14_ ht hvm hw hB hz1 hk1 hS => ?_)
    · obtain ⟨hpx9, hB9⟩ := hB
      have hP := cW_keep hP hk1
      rw [hQ]
      exact vx_out (fun x hx => (htab x hx).elim) hlocks hce hcv hcl (fun t9 h9 ha9 => cX_out hP hK hD hS h9 ha9 ((by rw [hpx9.1]; exact px_of (n := 0) (by rw [k_want, if_pos hw_8, if_neg (by rw [hpx9.2]; decide)]) rfl))) hS.2.2 (by omega) (by omega)
    · skip
      have hP := cW_keep hP hk1
      have hw_14 := hw
      obtain ⟨jj, hjj, ejj⟩ := ix_t hw_14 (by omega)
      rw [ejj] at hl
      have tjj : toN x1 = jj := by rw [ejj]; exact tn (by omega)
      refine lv_iload_n hx hb dX5_want_17 rfl (lv_at hl 3 rfl) ?_
      refine lv_iconst (v := nI 0) hx hb dX5_want_18 (by decide) ?_
      refine lv_bipush (v := nI 100) hx hb dX5_want_19 (by decide) ?_
      have hF_21 : ∀ q, va_A ([] : va_W) H_14.size q → A q := fun q h => hA q (Nat.le_trans hS.1 (va_A_nil h))
      refine vx_callv (vx_runS (As := [.int x2, .int (nI 0), .int (nI 100)]) (rest := []) ⟨hx, hb, hml, hown, hts⟩ (c_X5_checkArgument l hl9 dC dI a k S H_14.size x2 (nI 0) (nI 100)) (va_cwS 3 hts gX5_want_X5_checkArgument rfl rfl rfl (by decide +kernel) ⟨(Nat.le_of_ble_eq_true rfl), (Nat.le_of_ble_eq_true rfl)⟩) ⟨cU_blind, fun U hU hW => ⟨rfl, cU_of (hK.sub (tys' := []) [] rfl) (hP.sub (ws' := []) [] rfl) (hD.sub (ws' := []) [] (by decide) rfl) hE hS hU hW hF_21⟩⟩ rfl rfl hl.1 rfl (lv_room (Nat.le_of_ble_eq_true rfl)) dX5_want_21 ⟨(by show ((0 + 1) + 1) + 1 ≤ 8; omega), (by show ((0 + 6) + 6) + 6 ≤ 48; omega)⟩) hS (fun q _ h => hF_21 q h) hF_21 (fun q _ h => hF_21 q h) (fun E ce q9 u8 t8 H_21 L_21_ ht hvm _ hB hz1 hk1 hS hce hcv hcl => ?_) (fun u8 t8 H_21 L_21_ ht hvm hw hB hz1 hk1 hS => ?_)
      · obtain ⟨hpx9, hB9⟩ := hB
        have hP := cW_keep hP hk1
        rw [hQ]
        exact vx_out (fun x hx => (htab x hx).elim) hlocks hce hcv hcl (fun t9 h9 ha9 => cX_out hP hK hD hS h9 ha9 ((by rw [hpx9.1]; exact px_of (n := 1) (by rw [k_want, if_pos hw_8, if_pos hw_14, if_neg (by rw [hpx9.2]; decide)]) rfl))) hS.2.2 (by omega) (by omega)
      · skip
        have hP := cW_keep hP hk1
        have hw_21 := hw
        refine lv_iload_n hx hb dX5_want_24 rfl (lv_at hl 1 rfl) ?_
        refine lv_bipush (v := nI 10) hx hb dX5_want_25 (by decide) ?_
        refine lv_imul hx hb dX5_want_27 ?_
        refine cb_topi (pk_mul _ _) ?_
        refine lv_iload_n hx hb dX5_want_28 rfl (lv_at hl 2 rfl) ?_
        refine lv_iadd hx hb dX5_want_29 ?_
        refine cb_topi (nI_add _ _) ?_
        refine lv_istore (lv' := [(4, .int (nI ((bb * 10) + jj))), (0, .ref (a 0)), (1, .int (nI bb)), (2, .int (nI jj)), (3, .int x2)]) hx hb dX5_want_30 hl (by decide) rfl (fun ls hl => ?_)
        refine lv_aload_n hx hb dX5_want_32 rfl (lv_at hl 1 rfl) ?_
        refine va_get (D := (dC, dI)) (ci := 5) (v := .ref (a 5)) (C := RX5) (T := TX5) (N := 6) hx hb hts i_X5 hown hK hP 0 rfl rfl 4 (by decide) f_0 (fun _ h9 => h9) rfl dX5_want_33 ?_
        refine va_get (D := (dC, dI)) (ci := 0) (v := .ref (a 19)) (C := RX0) (T := TX0) (N := 3) hx hb hts i_X0 hown hK hP 5 rfl rfl 2 (by decide) f_2 (fun _ h9 => h9) rfl dX5_want_36 ?_
        refine lv_iload hx hb dX5_want_39 (lv_at hl 0 rfl) ?_
        refine cb_iald hx hb hK hP 19 13 (f := c_wnt S) rfl rfl (j := (bb * 10) + jj) (by omega) (Nat.le_of_ble_eq_true rfl) dX5_want_41 ?_
        refine lv_istore (lv' := [(5, .int (c_wnt S ((bb * 10) + jj))), (4, .int (nI ((bb * 10) + jj))), (0, .ref (a 0)), (1, .int (nI bb)), (2, .int (nI jj)), (3, .int x2)]) hx hb dX5_want_42 hl (by decide) rfl (fun ls hl => ?_)
        refine lv_aload_n hx hb dX5_want_44 rfl (lv_at hl 2 rfl) ?_
        refine va_get (D := (dC, dI)) (ci := 5) (v := .ref (a 5)) (C := RX5) (T := TX5) (N := 6) hx hb hts i_X5 hown hK hP 0 rfl rfl 4 (by decide) f_0 (fun _ h9 => h9) rfl dX5_want_45 ?_
        refine va_get (D := (dC, dI)) (ci := 0) (v := .ref (a 19)) (C := RX0) (T := TX0) (N := 3) hx hb hts i_X0 hown hK hP 5 rfl rfl 2 (by decide) f_2 (fun _ h9 => h9) rfl dX5_want_48 ?_
        refine lv_iload hx hb dX5_want_51 (lv_at hl 1 rfl) ?_
        refine lv_iload_n hx hb dX5_want_53 rfl (lv_at hl 5 rfl) ?_
        refine cb_iast hx hb hK hP hD hS 19 13 (f := c_wnt S) rfl rfl (j := (bb * 10) + jj) (by omega) (Nat.le_of_ble_eq_true rfl) dX5_want_54 (fun H locs hP hD hS => ?_)
        rw [wsC_wnt] at hP hD
        have hP : va_P (dC, dI) vwCl (cb_W a k (s_wnt S (upd (c_wnt S) ((bb * 10) + jj) x2)) (c_sl S) (c_pt S) (c_at S)) H := hP
        have hD : va_D A (cb_W a k (s_wnt S (upd (c_wnt S) ((bb * 10) + jj) x2)) (c_sl S) (c_pt S) (c_at S)) := hD
        refine lv_iload hx hb dX5_want_55 (lv_at hl 0 rfl) ?_
        have ew : (cb_W a k (s_wnt S (upd (c_wnt S) ((bb * 10) + jj) x2)) (c_sl S) (c_pt S) (c_at S)) = (cb_w a k (S_want S x0 x1 x2)) := (by rw [S_want, tbb, tjj]; first | done | rfl)
        have hP : va_P (dC, dI) vwCl (cb_w a k (S_want S x0 x1 x2)) H := by rw [← ew]; exact hP
        have hD : va_D A (cb_w a k (S_want S x0 x1 x2)) := by rw [← ew]; exact hD
        rw [hQ]
        refine vx_ret ?_
        refine W.widen (k := 8) (n := 48) (by omega) (by omega) ?_
        exact W.iret (v := c_wnt S ((bb * 10) + jj)) hx hb hr (fun t9 ht9 hW9 => ⟨⟨c_wnt S ((bb * 10) + jj), (), rfl, ⟨by rw [k_want, if_pos hw_8, if_pos hw_14, if_pos hw_21], by rw [r_want, tbb, tjj]⟩, cB_of hP hK hD ht9 hW9⟩, hS.F ht9⟩) hS.2.2 dX5_want_57
abbrev rm_X5_practise : Room := { frames := 7, cells := 8, slots := 48, locals := 112 }
set_option maxHeartbeats 4000000 in
set_option maxRecDepth 100000 in
theorem c_X5_practise (l : Launch) (hl9 : l.stackTraces = false) (dC : Nat → ClassId) (dI : Nat → Nat → Nat) (a : Nat → Nat) (k : Nat → ClassId) (S : cs_S) (sz : Nat) (x0 : Int32) (x1 : Int32) (x2 : Int32) (hI : Inv S) : vx_Met l yX5_practise wsX5_practise rm_X5_practise (va_Pc [.ref (a 0), .int x0, .int x1, .int x2] (cU dC dI sz (cb_w a k S) (cb_ty k))) (va_Qi (fun (r : Int32) (_ : Unit) => k_practise S x0 x1 x2 = 0 ∧ r = r_practise S x0) (fun _ t => cB dC dI (va_A (cb_w a k S) sz) (cb_w a k (S_practise S x0 x1 x2)) (cb_ty k) t) (va_A (cb_w a k S) sz)) (cX dC dI (cb_w a k S) (cb_ty k) (va_A (cb_w a k S) sz) (fun E => px [xE_I, xE_A] (k_practise S x0 x1 x2) E)) 8 48 (va_A (cb_w a k S) sz) := by
  refine vx_ofW (cc := cX5_practise) (maxL := 4) (ret := (some .int)) (by decide) rfl ?_
  intro p e s m args below meth c s₁ B hml htab hv
  obtain ⟨rfl, ⟨hsz, hP, hK, hD0⟩, hE⟩ := hv
  have hx := B.exec
  have hb := B.bytes
  have hr := B.returns
  have hts := atoms_spec (ws := wsX5_practise) B.pre
  have hown : s.vm.findClass RX5 = some m.cls := findClass_of_methodNamed B.named
  have hlocks := B.notSynchronized
  subst hsz
  have hD := hD0.self (sz := s.heap.size)
  generalize hAe : va_A (cb_w a k S) s.heap.size = A at hD hE ⊢
  have hA : ∀ q : Nat, s.heap.size ≤ q → A q := fun q h => by rw [← hAe]; exact Or.inr h
  have hS : va_S A s.heap s.heap [] := va_S.rf
  obtain ⟨Q, hQ⟩ : ∃ Q, Q = vx_MQ below (va_Qi (fun (r : Int32) (_ : Unit) => k_practise S x0 x1 x2 = 0 ∧ r = r_practise S x0) (fun _ t => cB dC dI A (cb_w a k (S_practise S x0 x1 x2)) (cb_ty k) t) A) (cX dC dI (cb_w a k S) (cb_ty k) A (fun E => px [xE_I, xE_A] (k_practise S x0 x1 x2) E)) ([.ref (a 0), .int x0, .int x1, .int x2] : List Value).toArray s 8 48 A := ⟨_, rfl⟩
  show W p l e rm_X5_practise s m _ below meth c s.heap [] 0 0 (vx_MQ below _ _ _ _ _ _ _) _
  rw [← hQ]
  have i_X3 : ∀ w ∈ wsX30, w ∈ wsX5_practise := fun w h => List.mem_cons_of_mem _ (List.mem_append_left _ (List.mem_append_left _ (List.mem_append_right _ h)))
  have i_X5 : ∀ w ∈ wsX50, w ∈ wsX5_practise := fun w h => List.mem_cons_of_mem _ (List.mem_append_left _ (List.mem_append_left _ (List.mem_append_left _ (List.mem_append_right _ h))))
  obtain ⟨⟨hday, hnp, hns, hnt, hnf, hnm, hnb, hme⟩, hpat, hage, hten, hcnt, hplc, heat, hned, hhld, hbad, hbad0, hbag⟩ := id hI
  have f_0 := hts (.fieldLink RX5 10 "CampBook" "people" "LCampBook$People;") (by decide +kernel)
  have f_1 := hts (.fieldLink RX5 48 "CampBook$People" "patrols" "I") (by decide +kernel)
  have hl := lv_entry ([.ref (a 0), .int x0, .int x1, .int x2]) (n := 4) (Nat.le_of_ble_eq_true rfl)
  rw [lg_entry_eq]
  generalize (lg_sl ([.ref (a 0), .int x0, .int x1, .int x2]) ++ List.replicate (4 - (lg_sl ([.ref (a 0), .int x0, .int x1, .int x2])).length) Slot.unset).toArray = ls at hl ⊢
  have hl : lv_has ls 4 [(0, .ref (a 0)), (1, .int x0), (2, .int x1), (3, .int x2)] := hl
  refine lv_iload_n hx hb dX5_practise_0 rfl (lv_at hl 1 rfl) ?_
  refine lv_aload_n hx hb dX5_practise_1 rfl (lv_at hl 0 rfl) ?_
  refine va_get (D := (dC, dI)) (ci := 5) (v := .ref (a 1)) (C := RX5) (T := TX5) (N := 6) hx hb hts i_X5 hown hK hP 0 rfl rfl 0 (by decide) f_0 (fun _ h9 => h9) rfl dX5_practise_2 ?_
  refine va_get (D := (dC, dI)) (ci := 3) (v := .int (nI (c_np S))) (C := RX3) (T := TX3) (N := 8) hx hb hts i_X3 hown hK hP 1 rfl rfl 0 (by decide) f_1 (fun _ h9 => h9) rfl dX5_practise_5 ?_
  have hF_8 : ∀ q, va_A ([] : va_W) s.heap.size q → A q := fun q h => hA q (Nat.le_trans hS.1 (va_A_nil h))
  refine vx_callv (vx_runS (As := [.int x0, .int (nI (c_np S))]) (rest := []) ⟨hx, hb, hml, hown, hts⟩ (c_X5_checkNumber l hl9 dC dI a k S s.heap.size x0 (c_np S) (by omega)) (va_cwS 2 hts gX5_practise_X5_checkNumber rfl rfl rfl (by decide +kernel) ⟨(Nat.le_of_ble_eq_true rfl), (Nat.le_of_ble_eq_true rfl)⟩) ⟨cU_blind, fun U hU hW => ⟨rfl, cU_of (hK.sub (tys' := []) [] rfl) (hP.sub (ws' := []) [] rfl) (hD.sub (ws' := []) [] (by decide) rfl) hE hS hU hW hF_8⟩⟩ rfl rfl hl.1 rfl (lv_room (Nat.le_of_ble_eq_true rfl)) dX5_practise_8 ⟨(by show 0 + 1 ≤ 8; omega), (by show 0 + 6 ≤ 48; omega)⟩) hS (fun q _ h => hF_8 q h) hF_8 (fun q _ h => hF_8 q h) (fun E ce q9 u8 t8 H_8 L_8_ ht hvm _ hB hz1 hk1 hS hce hcv hcl => ?_) (fun u8 t8 H_8 L_8_ ht hvm hw hB hz1 hk1 hS => ?_)
  · obtain ⟨hpx9, hB9⟩ := hB
    have hP := cW_keep hP hk1
    rw [hQ]
    exact vx_out (fun x hx => (htab x hx).elim) hlocks hce hcv hcl (fun t9 h9 ha9 => cX_out hP hK hD hS h9 ha9 ((by rw [hpx9.1]; exact px_of (n := 0) (by rw [k_practise, if_neg (by rw [hpx9.2]; decide)]) rfl))) hS.2.2 (by omega) (by omega)
  · skip
    have hP := cW_keep hP hk1
    have hw_8 := hw
    obtain ⟨pp, hpp, epp⟩ := ix_t hw_8 (by omega)
    rw [epp] at hl
    have tpp : toN x0 = pp := by rw [epp]; exact tn (by omega)
    refine lv_iload_n hx hb dX5_practise_11 rfl (lv_at hl 2 rfl) ?_
    refine lv_bipush (v := nI 10) hx hb dX5_practise_12 (by decide) ?_
    have hF_14 : ∀ q, va_A ([] : va_W) H_8.size q → A q := fun q h => hA q (Nat.le_trans hS.1 (va_A_nil h))
    refine vx_callv (vx_runS (As := [.int x1, .int (nI 10)]) (rest := []) ⟨hx, hb, hml, hown, hts⟩ (c_X5_checkNumber l hl9 dC dI a k S H_8.size x1 10 (by omega)) (va_cwS 2 hts gX5_practise_X5_checkNumber rfl rfl rfl (by decide +kernel) ⟨(Nat.le_of_ble_eq_true rfl), (Nat.le_of_ble_eq_true rfl)⟩) ⟨cU_blind, fun U hU hW => ⟨rfl, cU_of (hK.sub (tys' := []) [] rfl) (hP.sub (ws' := []) [] rfl) (hD.sub (ws' := []) [] (by decide) rfl) hE hS hU hW hF_14⟩⟩ rfl rfl hl.1 rfl (lv_room (Nat.le_of_ble_eq_true rfl)) dX5_practise_14 ⟨(by show (0 + 1) + 1 ≤ 8; omega), (by show (0 + 6) + 6 ≤ 48; omega)⟩) hS (fun q _ h => hF_14 q h) hF_14 (fun q _ h => hF_14 q h) (fun E ce q9 u8 t8 H_14 L_14_ ht hvm _ hB hz1 hk1 hS hce hcv hcl => ?_) (fun u8 t8 H_14 L_14_ ht hvm hw hB hz1 hk1 hS => ?_)
    · obtain ⟨hpx9, hB9⟩ := hB
      have hP := cW_keep hP hk1
      rw [hQ]
      exact vx_out (fun x hx => (htab x hx).elim) hlocks hce hcv hcl (fun t9 h9 ha9 => cX_out hP hK hD hS h9 ha9 ((by rw [hpx9.1]; exact px_of (n := 0) (by rw [k_practise, if_pos hw_8, if_neg (by rw [hpx9.2]; decide)]) rfl))) hS.2.2 (by omega) (by omega)
    · skip
      have hP := cW_keep hP hk1
      have hw_14 := hw
      obtain ⟨jj, hjj, ejj⟩ := ix_t hw_14 (by omega)
      rw [ejj] at hl
      have tjj : toN x1 = jj := by rw [ejj]; exact tn (by omega)
      refine lv_iload_n hx hb dX5_practise_17 rfl (lv_at hl 3 rfl) ?_
      refine lv_iconst (v := nI 1) hx hb dX5_practise_18 (by decide) ?_
      refine lv_bipush (v := nI 24) hx hb dX5_practise_19 (by decide) ?_
      have hF_21 : ∀ q, va_A ([] : va_W) H_14.size q → A q := fun q h => hA q (Nat.le_trans hS.1 (va_A_nil h))
      refine vx_callv (vx_runS (As := [.int x2, .int (nI 1), .int (nI 24)]) (rest := []) ⟨hx, hb, hml, hown, hts⟩ (c_X5_checkArgument l hl9 dC dI a k S H_14.size x2 (nI 1) (nI 24)) (va_cwS 3 hts gX5_practise_X5_checkArgument rfl rfl rfl (by decide +kernel) ⟨(Nat.le_of_ble_eq_true rfl), (Nat.le_of_ble_eq_true rfl)⟩) ⟨cU_blind, fun U hU hW => ⟨rfl, cU_of (hK.sub (tys' := []) [] rfl) (hP.sub (ws' := []) [] rfl) (hD.sub (ws' := []) [] (by decide) rfl) hE hS hU hW hF_21⟩⟩ rfl rfl hl.1 rfl (lv_room (Nat.le_of_ble_eq_true rfl)) dX5_practise_21 ⟨(by show ((0 + 1) + 1) + 1 ≤ 8; omega), (by show ((0 + 6) + 6) + 6 ≤ 48; omega)⟩) hS (fun q _ h => hF_21 q h) hF_21 (fun q _ h => hF_21 q h) (fun E ce q9 u8 t8 H_21 L_21_ ht hvm _ hB hz1 hk1 hS hce hcv hcl => ?_) (fun u8 t8 H_21 L_21_ ht hvm hw hB hz1 hk1 hS => ?_)
      · obtain ⟨hpx9, hB9⟩ := hB
        have hP := cW_keep hP hk1
        rw [hQ]
        exact vx_out (fun x hx => (htab x hx).elim) hlocks hce hcv hcl (fun t9 h9 ha9 => cX_out hP hK hD hS h9 ha9 ((by rw [hpx9.1]; exact px_of (n := 1) (by rw [k_practise, if_pos hw_8, if_pos hw_14, if_neg (by rw [hpx9.2]; decide)]) rfl))) hS.2.2 (by omega) (by omega)
      · skip
        have hP := cW_keep hP hk1
        have hw_21 := hw
        refine lv_aload_n hx hb dX5_practise_24 rfl (lv_at hl 0 rfl) ?_
        refine va_get (D := (dC, dI)) (ci := 5) (v := .ref (a 1)) (C := RX5) (T := TX5) (N := 6) hx hb hts i_X5 hown hK hP 0 rfl rfl 0 (by decide) f_0 (fun _ h9 => h9) rfl dX5_practise_25 ?_
        refine lv_iload_n hx hb dX5_practise_28 rfl (lv_at hl 1 rfl) ?_
        refine lv_iload_n hx hb dX5_practise_29 rfl (lv_at hl 2 rfl) ?_
        refine lv_iload_n hx hb dX5_practise_30 rfl (lv_at hl 3 rfl) ?_
        have hF_31 : ∀ q, va_A (cb_w a k S) H_21.size q → A q := va_free hD hS hA [0, 1, 2, 3, 4, 5, 6, 7, 8, 9, 10, 11, 12, 13, 14, 15, 16, 17, 18, 19] rfl
        refine va_calli (va_runV (As := [.int (nI pp), .int (nI jj), .int x2]) (rest := []) ⟨hx, hb, hml, hown, hts⟩ (c_X3_train l dC dI a k S H_21.size pp jj x2 (by omega) (by omega) (by omega)) (cwV 3 hts gX5_practise_X3_train rfl rfl rfl (by decide +kernel) ⟨(Nat.le_of_ble_eq_true rfl), (Nat.le_of_ble_eq_true rfl)⟩) ⟨cT_blind, va_recv hK hP (ci := 3) (q0 := 1) rfl rfl, fun U hU hW => ⟨rfl, cT_of hK hP hD hU hW⟩⟩ rfl rfl hl.1 rfl (lv_room (Nat.le_of_ble_eq_true rfl)) dX5_practise_31 ⟨(by show (((0 + 1) + 1) + 1) + 0 ≤ 8; omega), (by show (((0 + 6) + 6) + 6) + 0 ≤ 48; omega)⟩) hS (fun q _ h => hF_31 q h) hF_31 (fun r_31 u8 t8 H_31 L_31_ ht hvm hw hB hz1 hk1 hS => ?_)
        obtain ⟨hP, -, hD9⟩ := hB
        rw [ht] at hP
        have hD := hD9.weaken (B := A) (fun _ q _ h => hF_31 q.1 h)
        have hP : va_P (dC, dI) vwCl (cb_W a k (s_hrs S (trn S pp jj x2 (c_ns S))) (c_sl (s_hrs S (trn S pp jj x2 (c_ns S)))) (c_pt (s_hrs S (trn S pp jj x2 (c_ns S)))) (c_at (s_hrs S (trn S pp jj x2 (c_ns S))))) H_31 := hP
        have hD : va_D A (cb_W a k (s_hrs S (trn S pp jj x2 (c_ns S))) (c_sl (s_hrs S (trn S pp jj x2 (c_ns S)))) (c_pt (s_hrs S (trn S pp jj x2 (c_ns S)))) (c_at (s_hrs S (trn S pp jj x2 (c_ns S))))) := hD
        subst hw
        have ew : (cb_W a k (s_hrs S (trn S pp jj x2 (c_ns S))) (c_sl (s_hrs S (trn S pp jj x2 (c_ns S)))) (c_pt (s_hrs S (trn S pp jj x2 (c_ns S)))) (c_at (s_hrs S (trn S pp jj x2 (c_ns S))))) = (cb_w a k (S_practise S x0 x1 x2)) := (by rw [S_practise, tpp, tjj]; first | done | rfl)
        have hP : va_P (dC, dI) vwCl (cb_w a k (S_practise S x0 x1 x2)) H_31 := by rw [← ew]; exact hP
        have hD : va_D A (cb_w a k (S_practise S x0 x1 x2)) := by rw [← ew]; exact hD
        rw [hQ]
        refine vx_ret ?_
        refine W.widen (k := 8) (n := 48) (by omega) (by omega) ?_
        exact W.iret (v := nI (fb_ct (inP S pp) (c_ns S))) hx hb hr (fun t9 ht9 hW9 => ⟨⟨nI (fb_ct (inP S pp) (c_ns S)), (), rfl, ⟨by rw [k_practise, if_pos hw_8, if_pos hw_14, if_pos hw_21], by rw [r_practise, tpp]⟩, cB_of hP hK hD ht9 hW9⟩, hS.F ht9⟩) hS.2.2 dX5_practise_34
abbrev rm_X5_away : Room := { frames := 7, cells := 8, slots := 48, locals := 111 }
set_option maxHeartbeats 4000000 in
set_option maxRecDepth 100000 in
theorem c_X5_away (l : Launch) (hl9 : l.stackTraces = false) (dC : Nat → ClassId) (dI : Nat → Nat → Nat) (a : Nat → Nat) (k : Nat → ClassId) (S : cs_S) (sz : Nat) (x0 : Int32) (x1 : Int32) (hI : Inv S) : vx_Met l yX5_away wsX5_away rm_X5_away (va_Pc [.ref (a 0), .int x0, .int x1] (cU dC dI sz (cb_w a k S) (cb_ty k))) (va_Qi (fun (r : Int32) (_ : Unit) => k_away S x0 x1 = 0 ∧ r = r_away S x0 x1) (fun _ t => cB dC dI (va_A (cb_w a k S) sz) (cb_w a k S) (cb_ty k) t) (va_A (cb_w a k S) sz)) (cX dC dI (cb_w a k S) (cb_ty k) (va_A (cb_w a k S) sz) (fun E => px [xE_I] (k_away S x0 x1) E)) 8 48 (va_A (cb_w a k S) sz) := by
  refine vx_ofW (cc := cX5_away) (maxL := 3) (ret := (some .int)) (by decide) rfl ?_
  intro p e s m args below meth c s₁ B hml htab hv
  obtain ⟨rfl, ⟨hsz, hP, hK, hD0⟩, hE⟩ := hv
  have hx := B.exec
  have hb := B.bytes
  have hr := B.returns
  have hts := atoms_spec (ws := wsX5_away) B.pre
  have hown : s.vm.findClass RX5 = some m.cls := findClass_of_methodNamed B.named
  have hlocks := B.notSynchronized
  subst hsz
  have hD := hD0.self (sz := s.heap.size)
  generalize hAe : va_A (cb_w a k S) s.heap.size = A at hD hE ⊢
  have hA : ∀ q : Nat, s.heap.size ≤ q → A q := fun q h => by rw [← hAe]; exact Or.inr h
  have hS : va_S A s.heap s.heap [] := va_S.rf
  obtain ⟨Q, hQ⟩ : ∃ Q, Q = vx_MQ below (va_Qi (fun (r : Int32) (_ : Unit) => k_away S x0 x1 = 0 ∧ r = r_away S x0 x1) (fun _ t => cB dC dI A (cb_w a k S) (cb_ty k) t) A) (cX dC dI (cb_w a k S) (cb_ty k) A (fun E => px [xE_I] (k_away S x0 x1) E)) ([.ref (a 0), .int x0, .int x1] : List Value).toArray s 8 48 A := ⟨_, rfl⟩
  show W p l e rm_X5_away s m _ below meth c s.heap [] 0 0 (vx_MQ below _ _ _ _ _ _ _) _
  rw [← hQ]
  have i_X0 : ∀ w ∈ wsX00, w ∈ wsX5_away := fun w h => List.mem_cons_of_mem _ (List.mem_append_left _ (List.mem_append_right _ h))
  have i_X3 : ∀ w ∈ wsX30, w ∈ wsX5_away := fun w h => List.mem_cons_of_mem _ (List.mem_append_left _ (List.mem_append_left _ (List.mem_append_right _ h)))
  have i_X5 : ∀ w ∈ wsX50, w ∈ wsX5_away := fun w h => List.mem_cons_of_mem _ (List.mem_append_left _ (List.mem_append_left _ (List.mem_append_left _ (List.mem_append_right _ h))))
  obtain ⟨⟨hday, hnp, hns, hnt, hnf, hnm, hnb, hme⟩, hpat, hage, hten, hcnt, hplc, heat, hned, hhld, hbad, hbad0, hbag⟩ := id hI
  have f_0 := hts (.fieldLink RX5 10 "CampBook" "people" "LCampBook$People;") (by decide +kernel)
  have f_1 := hts (.fieldLink RX5 66 "CampBook$People" "scouts" "I") (by decide +kernel)
  have f_2 := hts (.fieldLink RX5 40 "CampBook" "badges" "LCampBook$Badges;") (by decide +kernel)
  have f_3 := hts (.fieldLink RX5 209 "CampBook$Badges" "size" "I") (by decide +kernel)
  have hl := lv_entry ([.ref (a 0), .int x0, .int x1]) (n := 3) (Nat.le_of_ble_eq_true rfl)
  rw [lg_entry_eq]
  generalize (lg_sl ([.ref (a 0), .int x0, .int x1]) ++ List.replicate (3 - (lg_sl ([.ref (a 0), .int x0, .int x1])).length) Slot.unset).toArray = ls at hl ⊢
  have hl : lv_has ls 3 [(0, .ref (a 0)), (1, .int x0), (2, .int x1)] := hl
  refine lv_iload_n hx hb dX5_away_0 rfl (lv_at hl 1 rfl) ?_
  refine lv_aload_n hx hb dX5_away_1 rfl (lv_at hl 0 rfl) ?_
  refine va_get (D := (dC, dI)) (ci := 5) (v := .ref (a 1)) (C := RX5) (T := TX5) (N := 6) hx hb hts i_X5 hown hK hP 0 rfl rfl 0 (by decide) f_0 (fun _ h9 => h9) rfl dX5_away_2 ?_
  refine va_get (D := (dC, dI)) (ci := 3) (v := .int (nI (c_ns S))) (C := RX3) (T := TX3) (N := 8) hx hb hts i_X3 hown hK hP 1 rfl rfl 1 (by decide) f_1 (fun _ h9 => h9) rfl dX5_away_5 ?_
  have hF_8 : ∀ q, va_A ([] : va_W) s.heap.size q → A q := fun q h => hA q (Nat.le_trans hS.1 (va_A_nil h))
  refine vx_callv (vx_runS (As := [.int x0, .int (nI (c_ns S))]) (rest := []) ⟨hx, hb, hml, hown, hts⟩ (c_X5_checkNumber l hl9 dC dI a k S s.heap.size x0 (c_ns S) (by omega)) (va_cwS 2 hts gX5_away_X5_checkNumber rfl rfl rfl (by decide +kernel) ⟨(Nat.le_of_ble_eq_true rfl), (Nat.le_of_ble_eq_true rfl)⟩) ⟨cU_blind, fun U hU hW => ⟨rfl, cU_of (hK.sub (tys' := []) [] rfl) (hP.sub (ws' := []) [] rfl) (hD.sub (ws' := []) [] (by decide) rfl) hE hS hU hW hF_8⟩⟩ rfl rfl hl.1 rfl (lv_room (Nat.le_of_ble_eq_true rfl)) dX5_away_8 ⟨(by show 0 + 1 ≤ 8; omega), (by show 0 + 6 ≤ 48; omega)⟩) hS (fun q _ h => hF_8 q h) hF_8 (fun q _ h => hF_8 q h) (fun E ce q9 u8 t8 H_8 L_8_ ht hvm _ hB hz1 hk1 hS hce hcv hcl => ?_) (fun u8 t8 H_8 L_8_ ht hvm hw hB hz1 hk1 hS => ?_)
  · obtain ⟨hpx9, hB9⟩ := hB
    have hP := cW_keep hP hk1
    rw [hQ]
    exact vx_out (fun x hx => (htab x hx).elim) hlocks hce hcv hcl (fun t9 h9 ha9 => cX_out hP hK hD hS h9 ha9 ((by rw [hpx9.1]; exact px_of (n := 0) (by rw [k_away, if_neg (by rw [hpx9.2]; decide)]) rfl))) hS.2.2 (by omega) (by omega)
  · skip
    have hP := cW_keep hP hk1
    have hw_8 := hw
    obtain ⟨u, hu, eu⟩ := ix_t hw_8 (by omega)
    rw [eu] at hl
    have tu : toN x0 = u := by rw [eu]; exact tn (by omega)
    refine lv_iload_n hx hb dX5_away_11 rfl (lv_at hl 2 rfl) ?_
    refine lv_aload_n hx hb dX5_away_12 rfl (lv_at hl 0 rfl) ?_
    refine va_get (D := (dC, dI)) (ci := 5) (v := .ref (a 5)) (C := RX5) (T := TX5) (N := 6) hx hb hts i_X5 hown hK hP 0 rfl rfl 4 (by decide) f_2 (fun _ h9 => h9) rfl dX5_away_13 ?_
    refine va_get (D := (dC, dI)) (ci := 0) (v := .int (nI (c_nb S))) (C := RX0) (T := TX0) (N := 3) hx hb hts i_X0 hown hK hP 5 rfl rfl 0 (by decide) f_3 (fun _ h9 => h9) rfl dX5_away_16 ?_
    have hF_19 : ∀ q, va_A ([] : va_W) H_8.size q → A q := fun q h => hA q (Nat.le_trans hS.1 (va_A_nil h))
    refine vx_callv (vx_runS (As := [.int x1, .int (nI (c_nb S))]) (rest := []) ⟨hx, hb, hml, hown, hts⟩ (c_X5_checkNumber l hl9 dC dI a k S H_8.size x1 (c_nb S) (by omega)) (va_cwS 2 hts gX5_away_X5_checkNumber rfl rfl rfl (by decide +kernel) ⟨(Nat.le_of_ble_eq_true rfl), (Nat.le_of_ble_eq_true rfl)⟩) ⟨cU_blind, fun U hU hW => ⟨rfl, cU_of (hK.sub (tys' := []) [] rfl) (hP.sub (ws' := []) [] rfl) (hD.sub (ws' := []) [] (by decide) rfl) hE hS hU hW hF_19⟩⟩ rfl rfl hl.1 rfl (lv_room (Nat.le_of_ble_eq_true rfl)) dX5_away_19 ⟨(by show (0 + 1) + 1 ≤ 8; omega), (by show (0 + 6) + 6 ≤ 48; omega)⟩) hS (fun q _ h => hF_19 q h) hF_19 (fun q _ h => hF_19 q h) (fun E ce q9 u8 t8 H_19 L_19_ ht hvm _ hB hz1 hk1 hS hce hcv hcl => ?_) (fun u8 t8 H_19 L_19_ ht hvm hw hB hz1 hk1 hS => ?_)
    · obtain ⟨hpx9, hB9⟩ := hB
      have hP := cW_keep hP hk1
      rw [hQ]
      exact vx_out (fun x hx => (htab x hx).elim) hlocks hce hcv hcl (fun t9 h9 ha9 => cX_out hP hK hD hS h9 ha9 ((by rw [hpx9.1]; exact px_of (n := 0) (by rw [k_away, if_pos hw_8, if_neg (by rw [hpx9.2]; decide)]) rfl))) hS.2.2 (by omega) (by omega)
    · skip
      have hP := cW_keep hP hk1
      have hw_19 := hw
      obtain ⟨bb, hbb, ebb⟩ := ix_t hw_19 (by omega)
      rw [ebb] at hl
      have tbb : toN x1 = bb := by rw [ebb]; exact tn (by omega)
      refine lv_aload_n hx hb dX5_away_22 rfl (lv_at hl 0 rfl) ?_
      refine va_get (D := (dC, dI)) (ci := 5) (v := .ref (a 5)) (C := RX5) (T := TX5) (N := 6) hx hb hts i_X5 hown hK hP 0 rfl rfl 4 (by decide) f_2 (fun _ h9 => h9) rfl dX5_away_23 ?_
      refine lv_iload_n hx hb dX5_away_26 rfl (lv_at hl 1 rfl) ?_
      refine lv_iload_n hx hb dX5_away_27 rfl (lv_at hl 2 rfl) ?_
      refine lv_aload_n hx hb dX5_away_28 rfl (lv_at hl 0 rfl) ?_
      refine va_get (D := (dC, dI)) (ci := 5) (v := .ref (a 1)) (C := RX5) (T := TX5) (N := 6) hx hb hts i_X5 hown hK hP 0 rfl rfl 0 (by decide) f_0 (fun _ h9 => h9) rfl dX5_away_29 ?_
      refine vp_callSi (W.runV (As := [.int (nI u), .int (nI bb), .ref (a 1)]) (rest := []) ⟨hx, hb, hml, hown, hts⟩ (c_X0_distance l dC dI a k S u bb (by omega) (by omega)) (cwV 3 hts gX5_away_X0_distance rfl rfl rfl (by decide +kernel) ⟨(Nat.le_of_ble_eq_true rfl), (Nat.le_of_ble_eq_true rfl)⟩) ⟨cR_blind, va_recv hK hP (ci := 0) (q0 := 5) rfl rfl, fun U hU hW => ⟨rfl, cR_of hK hP hU hW⟩⟩ rfl rfl hl.1 rfl (lv_room (Nat.le_of_ble_eq_true rfl)) dX5_away_32 ⟨(by show ((0 + 1) + 1) + 0 ≤ 8; omega), (by show ((0 + 6) + 6) + 0 ≤ 48; omega)⟩) (fun r er => ?_)
      subst er
      have ew : (cb_W a k S (c_sl S) (c_pt S) (c_at S)) = (cb_w a k S) := rfl
      have hP : va_P (dC, dI) vwCl (cb_w a k S) H_19 := by rw [← ew]; exact hP
      have hD : va_D A (cb_w a k S) := by rw [← ew]; exact hD
      rw [hQ]
      refine vx_ret ?_
      refine W.widen (k := 8) (n := 48) (by omega) (by omega) ?_
      exact W.iret (v := dist S u bb) hx hb hr (fun t9 ht9 hW9 => ⟨⟨dist S u bb, (), rfl, ⟨by rw [k_away, if_pos hw_8, if_pos hw_19], by rw [r_away, tu, tbb]⟩, cB_of hP hK hD ht9 hW9⟩, hS.F ht9⟩) hS.2.2 dX5_away_35
end CBM
