section CBM
abbrev rm_X5_sleep : Room := { frames := 8, cells := 8, slots := 48, locals := 132 }
set_option maxHeartbeats 4000000 in
set_option maxRecDepth 100000 in
theorem c_X5_sleep (l : Launch) (hl9 : l.stackTraces = false) (dC : Nat → ClassId) (dI : Nat → Nat → Nat) (a : Nat → Nat) (k : Nat → ClassId) (S : cs_S) (sz : Nat) (x0 : Int32) (x1 : Int32) (hI : Inv S) : vx_Met l yX5_sleep wsX5_sleep rm_X5_sleep (va_Pc [.ref (a 0), .int x0, .int x1] (cU dC dI sz (cb_w a k S) (cb_ty k))) (va_Qi (fun (r : Int32) (_ : Unit) => k_sleep S x0 x1 = 0 ∧ r = r_sleep S x0) (fun _ t => cB dC dI (va_A (cb_w a k S) sz) (cb_w a k (S_sleep S x0 x1)) (cb_ty k) t) (va_A (cb_w a k S) sz)) (cX dC dI (cb_w a k S) (cb_ty k) (va_A (cb_w a k S) sz) (fun E => px [xE_I, xE_S] (k_sleep S x0 x1) E)) 8 48 (va_A (cb_w a k S) sz) := by
  refine vx_ofW (cc := cX5_sleep) (maxL := 4) (ret := (some .int)) (by decide) rfl ?_
  intro p e s m args below meth c s₁ B hml htab hv
  obtain ⟨rfl, ⟨hsz, hP, hK, hD0⟩, hE⟩ := hv
  have hx := B.exec
  have hb := B.bytes
  have hr := B.returns
  have hts := atoms_spec (ws := wsX5_sleep) B.pre
  have hown : s.vm.findClass RX5 = some m.cls := findClass_of_methodNamed B.named
  have hlocks := B.notSynchronized
  subst hsz
  have hD := hD0.self (sz := s.heap.size)
  generalize hAe : va_A (cb_w a k S) s.heap.size = A at hD hE ⊢
  have hA : ∀ q : Nat, s.heap.size ≤ q → A q := fun q h => by rw [← hAe]; exact Or.inr h
  have hS : va_S A s.heap s.heap [] := va_S.rf
  obtain ⟨Q, hQ⟩ : ∃ Q, Q = vx_MQ below (va_Qi (fun (r : Int32) (_ : Unit) => k_sleep S x0 x1 = 0 ∧ r = r_sleep S x0) (fun _ t => cB dC dI A (cb_w a k (S_sleep S x0 x1)) (cb_ty k) t) A) (cX dC dI (cb_w a k S) (cb_ty k) A (fun E => px [xE_I, xE_S] (k_sleep S x0 x1) E)) ([.ref (a 0), .int x0, .int x1] : List Value).toArray s 8 48 A := ⟨_, rfl⟩
  show W p l e rm_X5_sleep s m _ below meth c s.heap [] 0 0 (vx_MQ below _ _ _ _ _ _ _) _
  rw [← hQ]
  have i_X3 : ∀ w ∈ wsX30, w ∈ wsX5_sleep := fun w h => List.mem_cons_of_mem _ (List.mem_append_left _ (List.mem_append_left _ (List.mem_append_left _ (List.mem_append_right _ h))))
  have i_X4 : ∀ w ∈ wsX40, w ∈ wsX5_sleep := fun w h => List.mem_cons_of_mem _ (List.mem_append_left _ (List.mem_append_left _ (List.mem_append_right _ h)))
  have i_X5 : ∀ w ∈ wsX50, w ∈ wsX5_sleep := fun w h => List.mem_cons_of_mem _ (List.mem_append_left _ (List.mem_append_left _ (List.mem_append_left _ (List.mem_append_left _ (List.mem_append_right _ h)))))
  obtain ⟨⟨hday, hnp, hns, hnt, hnf, hnm, hnb, hme⟩, hpat, hage, hten, hcnt, hplc, heat, hned, hhld, hbad, hbad0, hbag⟩ := id hI
  have f_0 := hts (.fieldLink RX5 10 "CampBook" "people" "LCampBook$People;") (by decide +kernel)
  have f_1 := hts (.fieldLink RX5 66 "CampBook$People" "scouts" "I") (by decide +kernel)
  have f_2 := hts (.fieldLink RX5 19 "CampBook" "tents" "LCampBook$Tents;") (by decide +kernel)
  have f_3 := hts (.fieldLink RX5 79 "CampBook$Tents" "size" "I") (by decide +kernel)
  have f_4 := hts (.classLink RX5 51 "java/lang/IllegalStateException") (by decide +kernel)
  have f_5 := hts (.initialized "java/lang/IllegalStateException") (by decide +kernel)
  have hl := lv_entry ([.ref (a 0), .int x0, .int x1]) (n := 4) (Nat.le_of_ble_eq_true rfl)
  rw [lg_entry_eq]
  generalize (lg_sl ([.ref (a 0), .int x0, .int x1]) ++ List.replicate (4 - (lg_sl ([.ref (a 0), .int x0, .int x1])).length) Slot.unset).toArray = ls at hl ⊢
  have hl : lv_has ls 4 [(0, .ref (a 0)), (1, .int x0), (2, .int x1)] := hl
  refine lv_iload_n hx hb dX5_sleep_0 rfl (lv_at hl 1 rfl) ?_
  refine lv_aload_n hx hb dX5_sleep_1 rfl (lv_at hl 0 rfl) ?_
  refine va_get (D := (dC, dI)) (ci := 5) (v := .ref (a 1)) (C := RX5) (T := TX5) (N := 6) hx hb hts i_X5 hown hK hP 0 rfl rfl 0 (by decide) f_0 (fun _ h9 => h9) rfl dX5_sleep_2 ?_
  refine va_get (D := (dC, dI)) (ci := 3) (v := .int (nI (c_ns S))) (C := RX3) (T := TX3) (N := 8) hx hb hts i_X3 hown hK hP 1 rfl rfl 1 (by decide) f_1 (fun _ h9 => h9) rfl dX5_sleep_5 ?_
  have hF_8 : ∀ q, va_A ([] : va_W) s.heap.size q → A q := fun q h => hA q (Nat.le_trans hS.1 (va_A_nil h))
  refine vx_callv (vx_runS (As := [.int x0, .int (nI (c_ns S))]) (rest := []) ⟨hx, hb, hml, hown, hts⟩ (c_X5_checkNumber l hl9 dC dI a k S s.heap.size x0 (c_ns S) (by omega)) (va_cwS 2 hts gX5_sleep_X5_checkNumber rfl rfl rfl (by decide +kernel) ⟨(Nat.le_of_ble_eq_true rfl), (Nat.le_of_ble_eq_true rfl)⟩) ⟨cU_blind, fun U hU hW => ⟨rfl, cU_of (hK.sub (tys' := []) [] rfl) (hP.sub (ws' := []) [] rfl) (hD.sub (ws' := []) [] (by decide) rfl) hE hS hU hW hF_8⟩⟩ rfl rfl hl.1 rfl (lv_room (Nat.le_of_ble_eq_true rfl)) dX5_sleep_8 ⟨(by show 0 + 1 ≤ 8; omega), (by show 0 + 6 ≤ 48; omega)⟩) hS (fun q _ h => hF_8 q h) hF_8 (fun q _ h => hF_8 q h) (fun E ce q9 u8 t8 H_8 L_8_ ht hvm _ hB hz1 hk1 hS hce hcv hcl => ?_) (fun u8 t8 H_8 L_8_ ht hvm hw hB hz1 hk1 hS => ?_)
  · obtain ⟨hpx9, hB9⟩ := hB
    have hP := cW_keep hP hk1
    rw [hQ]
    exact vx_out (fun x hx => (htab x hx).elim) hlocks hce hcv hcl (fun t9 h9 ha9 => cX_out hP hK hD hS h9 ha9 ((by rw [hpx9.1]; exact px_of (n := 0) (by rw [k_sleep, if_neg (by rw [hpx9.2]; decide)]) rfl))) hS.2.2 (by omega) (by omega)
  · skip
    have hP := cW_keep hP hk1
    have hw_8 := hw
    obtain ⟨u, hu, eu⟩ := ix_t hw_8 (by omega)
    rw [eu] at hl
    have tu : toN x0 = u := by rw [eu]; exact tn (by omega)
    refine lv_iload_n hx hb dX5_sleep_11 rfl (lv_at hl 2 rfl) ?_
    refine lv_aload_n hx hb dX5_sleep_12 rfl (lv_at hl 0 rfl) ?_
    refine va_get (D := (dC, dI)) (ci := 5) (v := .ref (a 2)) (C := RX5) (T := TX5) (N := 6) hx hb hts i_X5 hown hK hP 0 rfl rfl 1 (by decide) f_2 (fun _ h9 => h9) rfl dX5_sleep_13 ?_
    refine va_get (D := (dC, dI)) (ci := 4) (v := .int (nI (c_nt S))) (C := RX4) (T := TX4) (N := 3) hx hb hts i_X4 hown hK hP 2 rfl rfl 0 (by decide) f_3 (fun _ h9 => h9) rfl dX5_sleep_16 ?_
    have hF_19 : ∀ q, va_A ([] : va_W) H_8.size q → A q := fun q h => hA q (Nat.le_trans hS.1 (va_A_nil h))
    refine vx_callv (vx_runS (As := [.int x1, .int (nI (c_nt S))]) (rest := []) ⟨hx, hb, hml, hown, hts⟩ (c_X5_checkNumberOrNone l hl9 dC dI a k S H_8.size x1 (c_nt S) (by omega)) (va_cwS 2 hts gX5_sleep_X5_checkNumberOrNone rfl rfl rfl (by decide +kernel) ⟨(Nat.le_of_ble_eq_true rfl), (Nat.le_of_ble_eq_true rfl)⟩) ⟨cU_blind, fun U hU hW => ⟨rfl, cU_of (hK.sub (tys' := []) [] rfl) (hP.sub (ws' := []) [] rfl) (hD.sub (ws' := []) [] (by decide) rfl) hE hS hU hW hF_19⟩⟩ rfl rfl hl.1 rfl (lv_room (Nat.le_of_ble_eq_true rfl)) dX5_sleep_19 ⟨(by show (0 + 1) + 1 ≤ 8; omega), (by show (0 + 6) + 6 ≤ 48; omega)⟩) hS (fun q _ h => hF_19 q h) hF_19 (fun q _ h => hF_19 q h) (fun E ce q9 u8 t8 H_19 L_19_ ht hvm _ hB hz1 hk1 hS hce hcv hcl => ?_) (fun u8 t8 H_19 L_19_ ht hvm hw hB hz1 hk1 hS => ?_)
    · obtain ⟨hpx9, hB9⟩ := hB
      have hP := cW_keep hP hk1
      rw [hQ]
      exact vx_out (fun x hx => (htab x hx).elim) hlocks hce hcv hcl (fun t9 h9 ha9 => cX_out hP hK hD hS h9 ha9 ((by rw [hpx9.1]; exact px_of (n := 0) (by rw [k_sleep, if_pos hw_8, if_neg (fun z => z.elim hpx9.2.1 (fun z => by rw [hpx9.2.2] at z; exact absurd z (by decide)))]) rfl))) hS.2.2 (by omega) (by omega)
    · skip
      have hP := cW_keep hP hk1
      have hw_19 := hw
      refine lv_aload_n hx hb dX5_sleep_22 rfl (lv_at hl 0 rfl) ?_
      refine va_get (D := (dC, dI)) (ci := 5) (v := .ref (a 2)) (C := RX5) (T := TX5) (N := 6) hx hb hts i_X5 hown hK hP 0 rfl rfl 1 (by decide) f_2 (fun _ h9 => h9) rfl dX5_sleep_23 ?_
      refine lv_iload_n hx hb dX5_sleep_26 rfl (lv_at hl 1 rfl) ?_
      refine vp_callSi (W.runV (As := [.int (nI u)]) (rest := []) ⟨hx, hb, hml, hown, hts⟩ (c_X4_tentOf l dC dI a k S u (by omega) hI) (cwV 1 hts gX5_sleep_X4_tentOf rfl rfl rfl (by decide +kernel) ⟨(Nat.le_of_ble_eq_true rfl), (Nat.le_of_ble_eq_true rfl)⟩) ⟨cR_blind, va_recv hK hP (ci := 4) (q0 := 2) rfl rfl, fun U hU hW => ⟨rfl, cR_of hK hP hU hW⟩⟩ rfl rfl hl.1 rfl (lv_room (Nat.le_of_ble_eq_true rfl)) dX5_sleep_27 ⟨(by show ((0 + 1) + 1) + 0 ≤ 8; omega), (by show ((0 + 6) + 6) + 0 ≤ 48; omega)⟩) (fun r er => ?_)
      subst er
      refine lv_istore_n (lv' := [(3, .int (c_ten S u)), (0, .ref (a 0)), (1, .int (nI u)), (2, .int x1)]) hx hb dX5_sleep_30 rfl hl (by decide) rfl (fun ls hl => ?_)
      refine lv_iload_n hx hb dX5_sleep_31 rfl (lv_at hl 0 rfl) ?_
      refine lv_iload_n hx hb dX5_sleep_32 rfl (lv_at hl 3 rfl) ?_
      refine lv_icmp_ne (tgt := 46) hx hb dX5_sleep_33 (by decide) (fun c_33 => ?_) (fun c_33 => ?_)
      · skip
        refine lv_iload_n hx hb dX5_sleep_46 rfl (lv_at hl 3 rfl) ?_
        refine lv_iconst (v := (-1)) hx hb dX5_sleep_47 (by decide) ?_
        refine lv_icmp_eq (tgt := 77) hx hb dX5_sleep_48 (by decide) (fun c_48 => ?_) (fun c_48 => ?_)
        · skip
          refine lv_aload_n hx hb dX5_sleep_77 rfl (lv_at hl 1 rfl) ?_
          refine va_get (D := (dC, dI)) (ci := 5) (v := .ref (a 2)) (C := RX5) (T := TX5) (N := 6) hx hb hts i_X5 hown hK hP 0 rfl rfl 1 (by decide) f_2 (fun _ h9 => h9) rfl dX5_sleep_78 ?_
          refine lv_iload_n hx hb dX5_sleep_81 rfl (lv_at hl 0 rfl) ?_
          refine lv_iload_n hx hb dX5_sleep_82 rfl (lv_at hl 2 rfl) ?_
          have hF_83 : ∀ q, va_A (cb_w a k S) H_19.size q → A q := va_free hD hS hA [0, 1, 2, 3, 4, 5, 6, 7, 8, 9, 10, 11, 12, 13, 14, 15, 16, 17, 18, 19] rfl
          refine va_callv (va_runV (As := [.int (c_ten S u), .int (nI u)]) (rest := []) ⟨hx, hb, hml, hown, hts⟩ (c_X4_leave l dC dI a k S H_19.size u (by omega) hI) (cwV 2 hts gX5_sleep_X4_leave rfl rfl rfl (by decide +kernel) ⟨(Nat.le_of_ble_eq_true rfl), (Nat.le_of_ble_eq_true rfl)⟩) ⟨cT_blind, va_recv hK hP (ci := 4) (q0 := 2) rfl rfl, fun U hU hW => ⟨rfl, cT_of hK hP hD hU hW⟩⟩ rfl rfl hl.1 rfl (lv_room (Nat.le_of_ble_eq_true rfl)) dX5_sleep_83 ⟨(by show ((0 + 1) + 1) + 0 ≤ 8; omega), (by show ((0 + 6) + 6) + 0 ≤ 48; omega)⟩) hS (fun q _ h => hF_83 q h) hF_83 (fun u8 t8 H_83 L_83_ ht hvm hw hB hz1 hk1 hS => ?_)
          obtain ⟨hP, -, hD9⟩ := hB
          rw [ht] at hP
          have hD := hD9.weaken (B := A) (fun _ q _ h => hF_83 q.1 h)
          have hP : va_P (dC, dI) vwCl (cb_W a k (s_ten S (upd (c_ten S) u (-1))) (c_sl (s_ten S (upd (c_ten S) u (-1)))) (c_pt (s_ten S (upd (c_ten S) u (-1)))) (c_at (s_ten S (upd (c_ten S) u (-1))))) H_83 := hP
          have hD : va_D A (cb_W a k (s_ten S (upd (c_ten S) u (-1))) (c_sl (s_ten S (upd (c_ten S) u (-1)))) (c_pt (s_ten S (upd (c_ten S) u (-1)))) (c_at (s_ten S (upd (c_ten S) u (-1))))) := hD
          have hw_83 := hw
          refine lv_aload_n hx hb dX5_sleep_86 rfl (lv_at hl 1 rfl) ?_
          refine va_get (D := (dC, dI)) (ci := 5) (v := .ref (a 2)) (C := RX5) (T := TX5) (N := 6) hx hb hts i_X5 hown hK hP 0 rfl rfl 1 (by decide) f_2 (fun _ h9 => h9) rfl dX5_sleep_87 ?_
          refine lv_iload_n hx hb dX5_sleep_90 rfl (lv_at hl 3 rfl) ?_
          refine lv_iload_n hx hb dX5_sleep_91 rfl (lv_at hl 2 rfl) ?_
          have hF_92 : ∀ q, va_A (cb_w a k (s_ten S (upd (c_ten S) u (-1)))) H_83.size q → A q := va_free hD hS hA [0, 1, 2, 3, 4, 5, 6, 7, 8, 9, 10, 11, 12, 13, 14, 15, 16, 17, 18, 19] rfl
          refine va_callv (va_runV (As := [.int x1, .int (nI u)]) (rest := []) ⟨hx, hb, hml, hown, hts⟩ (c_X4_enter l dC dI a k (s_ten S (upd (c_ten S) u (-1))) H_83.size u x1 hu (inv_leave hI) (by first | exact Or.inl c_48 | exact Or.inr ⟨t, ht9, rfl⟩) pk_us) (cwV 2 hts gX5_sleep_X4_enter rfl rfl rfl (by decide +kernel) ⟨(Nat.le_of_ble_eq_true rfl), (Nat.le_of_ble_eq_true rfl)⟩) ⟨cT_blind, va_recv hK hP (ci := 4) (q0 := 2) rfl rfl, fun U hU hW => ⟨rfl, cT_of hK hP hD hU hW⟩⟩ rfl rfl hl.1 rfl (lv_room (Nat.le_of_ble_eq_true rfl)) dX5_sleep_92 ⟨(by show ((0 + 1) + 1) + 0 ≤ 8; omega), (by show ((0 + 6) + 6) + 0 ≤ 48; omega)⟩) hS (fun q _ h => hF_92 q h) hF_92 (fun u8 t8 H_92 L_92_ ht hvm hw hB hz1 hk1 hS => ?_)
          obtain ⟨hP, -, hD9⟩ := hB
          rw [ht] at hP
          have hD := hD9.weaken (B := A) (fun _ q _ h => hF_92 q.1 h)
          have hP : va_P (dC, dI) vwCl (cb_W a k (s_ten (s_ten S (upd (c_ten S) u (-1))) (upd (c_ten (s_ten S (upd (c_ten S) u (-1)))) u x1)) (c_sl (s_ten (s_ten S (upd (c_ten S) u (-1))) (upd (c_ten (s_ten S (upd (c_ten S) u (-1)))) u x1))) (c_pt (s_ten (s_ten S (upd (c_ten S) u (-1))) (upd (c_ten (s_ten S (upd (c_ten S) u (-1)))) u x1))) (c_at (s_ten (s_ten S (upd (c_ten S) u (-1))) (upd (c_ten (s_ten S (upd (c_ten S) u (-1)))) u x1)))) H_92 := hP
          have hD : va_D A (cb_W a k (s_ten (s_ten S (upd (c_ten S) u (-1))) (upd (c_ten (s_ten S (upd (c_ten S) u (-1)))) u x1)) (c_sl (s_ten (s_ten S (upd (c_ten S) u (-1))) (upd (c_ten (s_ten S (upd (c_ten S) u (-1)))) u x1))) (c_pt (s_ten (s_ten S (upd (c_ten S) u (-1))) (upd (c_ten (s_ten S (upd (c_ten S) u (-1)))) u x1))) (c_at (s_ten (s_ten S (upd (c_ten S) u (-1))) (upd (c_ten (s_ten S (upd (c_ten S) u (-1)))) u x1)))) := hD
          have hw_92 := hw
          refine lv_iload_n hx hb dX5_sleep_95 rfl (lv_at hl 0 rfl) ?_
          have ew : (cb_W a k (s_ten (s_ten S (upd (c_ten S) u (-1))) (upd (c_ten (s_ten S (upd (c_ten S) u (-1)))) u x1)) (c_sl (s_ten (s_ten S (upd (c_ten S) u (-1))) (upd (c_ten (s_ten S (upd (c_ten S) u (-1)))) u x1))) (c_pt (s_ten (s_ten S (upd (c_ten S) u (-1))) (upd (c_ten (s_ten S (upd (c_ten S) u (-1)))) u x1))) (c_at (s_ten (s_ten S (upd (c_ten S) u (-1))) (upd (c_ten (s_ten S (upd (c_ten S) u (-1)))) u x1)))) = (cb_w a k (S_sleep S x0 x1)) := (by rw [S_sleep, tu]; show cb_w a k (s_ten (s_ten S (upd (c_ten S) u (-1))) (upd (c_ten (s_ten S (upd (c_ten S) u (-1)))) u _)) = _; rw [ten_twice])
          have hP : va_P (dC, dI) vwCl (cb_w a k (S_sleep S x0 x1)) H_92 := by rw [← ew]; exact hP
          have hD : va_D A (cb_w a k (S_sleep S x0 x1)) := by rw [← ew]; exact hD
          rw [hQ]
          refine vx_ret ?_
          refine W.widen (k := 8) (n := 48) (by omega) (by omega) ?_
          exact W.iret (v := c_ten S u) hx hb hr (fun t9 ht9 hW9 => ⟨⟨c_ten S u, (), rfl, ⟨by rw [k_sleep, if_pos hw_8, if_pos hw_19, tu, if_neg c_33, if_pos (Or.inl c_48)], by rw [r_sleep, tu]⟩, cB_of hP hK hD ht9 hW9⟩, hS.F ht9⟩) hS.2.2 dX5_sleep_96
        · skip
          rcases hw_19 with q9 | q9; exact absurd q9 c_48
          obtain ⟨t, ht9, et⟩ := ix_t q9 (by omega)
          rw [et] at hl
          have hw_19 : x1 = -1 ∨ ix x1 (c_nt S) = true := Or.inr q9
          have tt : toN x1 = t := by rw [et]; exact tn (by omega)
          refine lv_aload_n hx hb dX5_sleep_51 rfl (lv_at hl 1 rfl) ?_
          refine va_get (D := (dC, dI)) (ci := 5) (v := .ref (a 2)) (C := RX5) (T := TX5) (N := 6) hx hb hts i_X5 hown hK hP 0 rfl rfl 1 (by decide) f_2 (fun _ h9 => h9) rfl dX5_sleep_52 ?_
          refine lv_iload_n hx hb dX5_sleep_55 rfl (lv_at hl 3 rfl) ?_
          refine lv_iload_n hx hb dX5_sleep_56 rfl (lv_at hl 2 rfl) ?_
          refine lv_aload_n hx hb dX5_sleep_57 rfl (lv_at hl 1 rfl) ?_
          refine va_get (D := (dC, dI)) (ci := 5) (v := .ref (a 1)) (C := RX5) (T := TX5) (N := 6) hx hb hts i_X5 hown hK hP 0 rfl rfl 0 (by decide) f_0 (fun _ h9 => h9) rfl dX5_sleep_58 ?_
          refine vp_callSi (W.runV (As := [.int (nI t), .int (nI u), .ref (a 1)]) (rest := []) ⟨hx, hb, hml, hown, hts⟩ (c_X4_canTake l dC dI a k S t u (by omega) (by omega) hI) (cwV 3 hts gX5_sleep_X4_canTake rfl rfl rfl (by decide +kernel) ⟨(Nat.le_of_ble_eq_true rfl), (Nat.le_of_ble_eq_true rfl)⟩) ⟨cR_blind, va_recv hK hP (ci := 4) (q0 := 2) rfl rfl, fun U hU hW => ⟨rfl, cR_of hK hP hU hW⟩⟩ rfl rfl hl.1 rfl (lv_room (Nat.le_of_ble_eq_true rfl)) dX5_sleep_61 ⟨(by show ((0 + 1) + 1) + 0 ≤ 8; omega), (by show ((0 + 6) + 6) + 0 ≤ 48; omega)⟩) (fun r er => ?_)
          subst er
          refine lv_if_ne (tgt := 77) hx hb dX5_sleep_64 (by decide) (fun c_64 => ?_) (fun c_64 => ?_)
          · have c_64 : (canT S u t) = true := bI_n c_64
            refine lv_aload_n hx hb dX5_sleep_77 rfl (lv_at hl 1 rfl) ?_
            refine va_get (D := (dC, dI)) (ci := 5) (v := .ref (a 2)) (C := RX5) (T := TX5) (N := 6) hx hb hts i_X5 hown hK hP 0 rfl rfl 1 (by decide) f_2 (fun _ h9 => h9) rfl dX5_sleep_78 ?_
            refine lv_iload_n hx hb dX5_sleep_81 rfl (lv_at hl 0 rfl) ?_
            refine lv_iload_n hx hb dX5_sleep_82 rfl (lv_at hl 2 rfl) ?_
            have hF_83 : ∀ q, va_A (cb_w a k S) H_19.size q → A q := va_free hD hS hA [0, 1, 2, 3, 4, 5, 6, 7, 8, 9, 10, 11, 12, 13, 14, 15, 16, 17, 18, 19] rfl
            refine va_callv (va_runV (As := [.int (c_ten S u), .int (nI u)]) (rest := []) ⟨hx, hb, hml, hown, hts⟩ (c_X4_leave l dC dI a k S H_19.size u (by omega) hI) (cwV 2 hts gX5_sleep_X4_leave rfl rfl rfl (by decide +kernel) ⟨(Nat.le_of_ble_eq_true rfl), (Nat.le_of_ble_eq_true rfl)⟩) ⟨cT_blind, va_recv hK hP (ci := 4) (q0 := 2) rfl rfl, fun U hU hW => ⟨rfl, cT_of hK hP hD hU hW⟩⟩ rfl rfl hl.1 rfl (lv_room (Nat.le_of_ble_eq_true rfl)) dX5_sleep_83 ⟨(by show ((0 + 1) + 1) + 0 ≤ 8; omega), (by show ((0 + 6) + 6) + 0 ≤ 48; omega)⟩) hS (fun q _ h => hF_83 q h) hF_83 (fun u8 t8 H_83 L_83_ ht hvm hw hB hz1 hk1 hS => ?_)
            obtain ⟨hP, -, hD9⟩ := hB
            rw [ht] at hP
            have hD := hD9.weaken (B := A) (fun _ q _ h => hF_83 q.1 h)
            have hP : va_P (dC, dI) vwCl (cb_W a k (s_ten S (upd (c_ten S) u (-1))) (c_sl (s_ten S (upd (c_ten S) u (-1)))) (c_pt (s_ten S (upd (c_ten S) u (-1)))) (c_at (s_ten S (upd (c_ten S) u (-1))))) H_83 := hP
            have hD : va_D A (cb_W a k (s_ten S (upd (c_ten S) u (-1))) (c_sl (s_ten S (upd (c_ten S) u (-1)))) (c_pt (s_ten S (upd (c_ten S) u (-1)))) (c_at (s_ten S (upd (c_ten S) u (-1))))) := hD
            have hw_83 := hw
            refine lv_aload_n hx hb dX5_sleep_86 rfl (lv_at hl 1 rfl) ?_
            refine va_get (D := (dC, dI)) (ci := 5) (v := .ref (a 2)) (C := RX5) (T := TX5) (N := 6) hx hb hts i_X5 hown hK hP 0 rfl rfl 1 (by decide) f_2 (fun _ h9 => h9) rfl dX5_sleep_87 ?_
            refine lv_iload_n hx hb dX5_sleep_90 rfl (lv_at hl 3 rfl) ?_
            refine lv_iload_n hx hb dX5_sleep_91 rfl (lv_at hl 2 rfl) ?_
            have hF_92 : ∀ q, va_A (cb_w a k (s_ten S (upd (c_ten S) u (-1)))) H_83.size q → A q := va_free hD hS hA [0, 1, 2, 3, 4, 5, 6, 7, 8, 9, 10, 11, 12, 13, 14, 15, 16, 17, 18, 19] rfl
            refine va_callv (va_runV (As := [.int (nI t), .int (nI u)]) (rest := []) ⟨hx, hb, hml, hown, hts⟩ (c_X4_enter l dC dI a k (s_ten S (upd (c_ten S) u (-1))) H_83.size u (nI t) hu (inv_leave hI) (by first | exact Or.inl c_48 | exact Or.inr ⟨t, ht9, rfl⟩) pk_us) (cwV 2 hts gX5_sleep_X4_enter rfl rfl rfl (by decide +kernel) ⟨(Nat.le_of_ble_eq_true rfl), (Nat.le_of_ble_eq_true rfl)⟩) ⟨cT_blind, va_recv hK hP (ci := 4) (q0 := 2) rfl rfl, fun U hU hW => ⟨rfl, cT_of hK hP hD hU hW⟩⟩ rfl rfl hl.1 rfl (lv_room (Nat.le_of_ble_eq_true rfl)) dX5_sleep_92 ⟨(by show ((0 + 1) + 1) + 0 ≤ 8; omega), (by show ((0 + 6) + 6) + 0 ≤ 48; omega)⟩) hS (fun q _ h => hF_92 q h) hF_92 (fun u8 t8 H_92 L_92_ ht hvm hw hB hz1 hk1 hS => ?_)
            obtain ⟨hP, -, hD9⟩ := hB
            rw [ht] at hP
            have hD := hD9.weaken (B := A) (fun _ q _ h => hF_92 q.1 h)
            have hP : va_P (dC, dI) vwCl (cb_W a k (s_ten (s_ten S (upd (c_ten S) u (-1))) (upd (c_ten (s_ten S (upd (c_ten S) u (-1)))) u (nI t))) (c_sl (s_ten (s_ten S (upd (c_ten S) u (-1))) (upd (c_ten (s_ten S (upd (c_ten S) u (-1)))) u (nI t)))) (c_pt (s_ten (s_ten S (upd (c_ten S) u (-1))) (upd (c_ten (s_ten S (upd (c_ten S) u (-1)))) u (nI t)))) (c_at (s_ten (s_ten S (upd (c_ten S) u (-1))) (upd (c_ten (s_ten S (upd (c_ten S) u (-1)))) u (nI t))))) H_92 := hP
            have hD : va_D A (cb_W a k (s_ten (s_ten S (upd (c_ten S) u (-1))) (upd (c_ten (s_ten S (upd (c_ten S) u (-1)))) u (nI t))) (c_sl (s_ten (s_ten S (upd (c_ten S) u (-1))) (upd (c_ten (s_ten S (upd (c_ten S) u (-1)))) u (nI t)))) (c_pt (s_ten (s_ten S (upd (c_ten S) u (-1))) (upd (c_ten (s_ten S (upd (c_ten S) u (-1)))) u (nI t)))) (c_at (s_ten (s_ten S (upd (c_ten S) u (-1))) (upd (c_ten (s_ten S (upd (c_ten S) u (-1)))) u (nI t))))) := hD
            have hw_92 := hw
            refine lv_iload_n hx hb dX5_sleep_95 rfl (lv_at hl 0 rfl) ?_
            have ew : (cb_W a k (s_ten (s_ten S (upd (c_ten S) u (-1))) (upd (c_ten (s_ten S (upd (c_ten S) u (-1)))) u (nI t))) (c_sl (s_ten (s_ten S (upd (c_ten S) u (-1))) (upd (c_ten (s_ten S (upd (c_ten S) u (-1)))) u (nI t)))) (c_pt (s_ten (s_ten S (upd (c_ten S) u (-1))) (upd (c_ten (s_ten S (upd (c_ten S) u (-1)))) u (nI t)))) (c_at (s_ten (s_ten S (upd (c_ten S) u (-1))) (upd (c_ten (s_ten S (upd (c_ten S) u (-1)))) u (nI t))))) = (cb_w a k (S_sleep S x0 x1)) := (by rw [S_sleep, tu]; rw [et]; show cb_w a k (s_ten (s_ten S (upd (c_ten S) u (-1))) (upd (c_ten (s_ten S (upd (c_ten S) u (-1)))) u _)) = _; rw [ten_twice])
            have hP : va_P (dC, dI) vwCl (cb_w a k (S_sleep S x0 x1)) H_92 := by rw [← ew]; exact hP
            have hD : va_D A (cb_w a k (S_sleep S x0 x1)) := by rw [← ew]; exact hD
            rw [hQ]
            refine vx_ret ?_
            refine W.widen (k := 8) (n := 48) (by omega) (by omega) ?_
            exact W.iret (v := c_ten S u) hx hb hr (fun t9 ht9 hW9 => ⟨⟨c_ten S u, (), rfl, ⟨by rw [k_sleep, if_pos hw_8, if_pos hw_19, tu, if_neg c_33, tt, if_pos (Or.inr c_64)], by rw [r_sleep, tu]⟩, cB_of hP hK hD ht9 hW9⟩, hS.F ht9⟩) hS.2.2 dX5_sleep_96
          · have c_64 : (canT S u t) = false := bI_0 c_64
            obtain ⟨sa, hstr⟩ := hE.2.2.2.1 (100, "the scout cannot sleep there") (by decide +kernel)
            have hpx : px [xE_I, xE_S] (k_sleep S x0 x1) "java/lang/IllegalStateException" := (px_of (n := 1) (by rw [k_sleep, if_pos hw_8, if_pos hw_19, tu, if_neg c_33, tt, if_neg (fun z => z.elim c_48 (fun z => by rw [c_64] at z; exact absurd z (by decide)))]) rfl)
            rw [hQ]
            exact vx_throwS (own := RX5) (cls := "java/lang/IllegalStateException") (names := ["java/lang/RuntimeException", "java/lang/Exception"]) (ik := 51) (is := 100) (ic := 55) hx hb hl9 hown (by decide) (by decide) f_4 f_5 hstr (cb_atS (fun w h => hts w (List.mem_cons_of_mem _ (List.mem_append_left _ (List.mem_append_right _ h)))) hE.2.2.1) cb_gdS hE.1 hE.2.1 hS (hl.1.trans hml.symm) dX5_sleep_67 dX5_sleep_70 dX5_sleep_71 dX5_sleep_73 dX5_sleep_76 (fun x hx => (htab x hx).elim) (Nat.le_of_ble_eq_true rfl) (Nat.le_of_ble_eq_true rfl) (by decide) (by decide) hlocks (fun t ha hz hk => cX_of hP hK hD hS ha hz hk hpx) hS.2.2 (by decide) (by decide)
      · skip
        obtain ⟨sa, hstr⟩ := hE.2.2.2.1 (94, "the scout sleeps there already") (by decide +kernel)
        have hpx : px [xE_I, xE_S] (k_sleep S x0 x1) "java/lang/IllegalStateException" := (px_of (n := 1) (by rw [k_sleep, if_pos hw_8, if_pos hw_19, tu, if_pos c_33]) rfl)
        rw [hQ]
        exact vx_throwS (own := RX5) (cls := "java/lang/IllegalStateException") (names := ["java/lang/RuntimeException", "java/lang/Exception"]) (ik := 51) (is := 94) (ic := 55) hx hb hl9 hown (by decide) (by decide) f_4 f_5 hstr (cb_atS (fun w h => hts w (List.mem_cons_of_mem _ (List.mem_append_left _ (List.mem_append_right _ h)))) hE.2.2.1) cb_gdS hE.1 hE.2.1 hS (hl.1.trans hml.symm) dX5_sleep_36 dX5_sleep_39 dX5_sleep_40 dX5_sleep_42 dX5_sleep_45 (fun x hx => (htab x hx).elim) (Nat.le_of_ble_eq_true rfl) (Nat.le_of_ble_eq_true rfl) (by decide) (by decide) hlocks (fun t ha hz hk => cX_of hP hK hD hS ha hz hk hpx) hS.2.2 (by decide) (by decide)
abbrev rm_X5_giveDuty : Room := { frames := 8, cells := 8, slots := 48, locals := 132 }
abbrev rm_X5_earn : Room := { frames := 7, cells := 8, slots := 48, locals := 111 }
set_option maxHeartbeats 4000000 in
set_option maxRecDepth 100000 in
theorem c_X5_earn (l : Launch) (hl9 : l.stackTraces = false) (dC : Nat → ClassId) (dI : Nat → Nat → Nat) (a : Nat → Nat) (k : Nat → ClassId) (S : cs_S) (sz : Nat) (x0 : Int32) (x1 : Int32) (hI : Inv S) : vx_Met l yX5_earn wsX5_earn rm_X5_earn (va_Pc [.ref (a 0), .int x0, .int x1] (cU dC dI sz (cb_w a k S) (cb_ty k))) (va_Qi (fun (r : Int32) (_ : Unit) => k_earn S x0 x1 = 0 ∧ r = r_earn S x0 x1) (fun _ t => cB dC dI (va_A (cb_w a k S) sz) (cb_w a k (S_earn S x0 x1)) (cb_ty k) t) (va_A (cb_w a k S) sz)) (cX dC dI (cb_w a k S) (cb_ty k) (va_A (cb_w a k S) sz) (fun E => px [xE_I, xE_S] (k_earn S x0 x1) E)) 8 48 (va_A (cb_w a k S) sz) := by
  refine vx_ofW (cc := cX5_earn) (maxL := 3) (ret := (some .int)) (by decide) rfl ?_
  intro p e s m args below meth c s₁ B hml htab hv
  obtain ⟨rfl, ⟨hsz, hP, hK, hD0⟩, hE⟩ := hv
  have hx := B.exec
  have hb := B.bytes
  have hr := B.returns
  have hts := atoms_spec (ws := wsX5_earn) B.pre
  have hown : s.vm.findClass RX5 = some m.cls := findClass_of_methodNamed B.named
  have hlocks := B.notSynchronized
  subst hsz
  have hD := hD0.self (sz := s.heap.size)
  generalize hAe : va_A (cb_w a k S) s.heap.size = A at hD hE ⊢
  have hA : ∀ q : Nat, s.heap.size ≤ q → A q := fun q h => by rw [← hAe]; exact Or.inr h
  have hS : va_S A s.heap s.heap [] := va_S.rf
  obtain ⟨Q, hQ⟩ : ∃ Q, Q = vx_MQ below (va_Qi (fun (r : Int32) (_ : Unit) => k_earn S x0 x1 = 0 ∧ r = r_earn S x0 x1) (fun _ t => cB dC dI A (cb_w a k (S_earn S x0 x1)) (cb_ty k) t) A) (cX dC dI (cb_w a k S) (cb_ty k) A (fun E => px [xE_I, xE_S] (k_earn S x0 x1) E)) ([.ref (a 0), .int x0, .int x1] : List Value).toArray s 8 48 A := ⟨_, rfl⟩
  show W p l e rm_X5_earn s m _ below meth c s.heap [] 0 0 (vx_MQ below _ _ _ _ _ _ _) _
  rw [← hQ]
  have i_X0 : ∀ w ∈ wsX00, w ∈ wsX5_earn := fun w h => List.mem_cons_of_mem _ (List.mem_append_left _ (List.mem_append_left _ (List.mem_append_right _ h)))
  have i_X3 : ∀ w ∈ wsX30, w ∈ wsX5_earn := fun w h => List.mem_cons_of_mem _ (List.mem_append_left _ (List.mem_append_left _ (List.mem_append_left _ (List.mem_append_right _ h))))
  have i_X5 : ∀ w ∈ wsX50, w ∈ wsX5_earn := fun w h => List.mem_cons_of_mem _ (List.mem_append_left _ (List.mem_append_left _ (List.mem_append_left _ (List.mem_append_left _ (List.mem_append_right _ h)))))
  obtain ⟨⟨hday, hnp, hns, hnt, hnf, hnm, hnb, hme⟩, hpat, hage, hten, hcnt, hplc, heat, hned, hhld, hbad, hbad0, hbag⟩ := id hI
  have f_0 := hts (.fieldLink RX5 10 "CampBook" "people" "LCampBook$People;") (by decide +kernel)
  have f_1 := hts (.fieldLink RX5 66 "CampBook$People" "scouts" "I") (by decide +kernel)
  have f_2 := hts (.fieldLink RX5 40 "CampBook" "badges" "LCampBook$Badges;") (by decide +kernel)
  have f_3 := hts (.fieldLink RX5 209 "CampBook$Badges" "size" "I") (by decide +kernel)
  have f_4 := hts (.fieldLink RX5 226 "CampBook$People" "badges" "[I") (by decide +kernel)
  have f_5 := hts (.classLink RX5 51 "java/lang/IllegalStateException") (by decide +kernel)
  have f_6 := hts (.initialized "java/lang/IllegalStateException") (by decide +kernel)
  have hl := lv_entry ([.ref (a 0), .int x0, .int x1]) (n := 3) (Nat.le_of_ble_eq_true rfl)
  rw [lg_entry_eq]
  generalize (lg_sl ([.ref (a 0), .int x0, .int x1]) ++ List.replicate (3 - (lg_sl ([.ref (a 0), .int x0, .int x1])).length) Slot.unset).toArray = ls at hl ⊢
  have hl : lv_has ls 3 [(0, .ref (a 0)), (1, .int x0), (2, .int x1)] := hl
  refine lv_iload_n hx hb dX5_earn_0 rfl (lv_at hl 1 rfl) ?_
  refine lv_aload_n hx hb dX5_earn_1 rfl (lv_at hl 0 rfl) ?_
  refine va_get (D := (dC, dI)) (ci := 5) (v := .ref (a 1)) (C := RX5) (T := TX5) (N := 6) hx hb hts i_X5 hown hK hP 0 rfl rfl 0 (by decide) f_0 (fun _ h9 => h9) rfl dX5_earn_2 ?_
  refine va_get (D := (dC, dI)) (ci := 3) (v := .int (nI (c_ns S))) (C := RX3) (T := TX3) (N := 8) hx hb hts i_X3 hown hK hP 1 rfl rfl 1 (by decide) f_1 (fun _ h9 => h9) rfl dX5_earn_5 ?_
  have hF_8 : ∀ q, va_A ([] : va_W) s.heap.size q → A q := fun q h => hA q (Nat.le_trans hS.1 (va_A_nil h))
  refine vx_callv (vx_runS (As := [.int x0, .int (nI (c_ns S))]) (rest := []) ⟨hx, hb, hml, hown, hts⟩ (c_X5_checkNumber l hl9 dC dI a k S s.heap.size x0 (c_ns S) (by omega)) (va_cwS 2 hts gX5_earn_X5_checkNumber rfl rfl rfl (by decide +kernel) ⟨(Nat.le_of_ble_eq_true rfl), (Nat.le_of_ble_eq_true rfl)⟩) ⟨cU_blind, fun U hU hW => ⟨rfl, cU_of (hK.sub (tys' := []) [] rfl) (hP.sub (ws' := []) [] rfl) (hD.sub (ws' := []) [] (by decide) rfl) hE hS hU hW hF_8⟩⟩ rfl rfl hl.1 rfl (lv_room (Nat.le_of_ble_eq_true rfl)) dX5_earn_8 ⟨(by show 0 + 1 ≤ 8; omega), (by show 0 + 6 ≤ 48; omega)⟩) hS (fun q _ h => hF_8 q h) hF_8 (fun q _ h => hF_8 q h) (fun E ce q9 u8 t8 H_8 L_8_ ht hvm _ hB hz1 hk1 hS hce hcv hcl => ?_) (fun u8 t8 H_8 L_8_ ht hvm hw hB hz1 hk1 hS => ?_)
  · obtain ⟨hpx9, hB9⟩ := hB
    have hP := cW_keep hP hk1
    rw [hQ]
    exact vx_out (fun x hx => (htab x hx).elim) hlocks hce hcv hcl (fun t9 h9 ha9 => cX_out hP hK hD hS h9 ha9 ((by rw [hpx9.1]; exact px_of (n := 0) (by rw [k_earn, if_neg (by rw [hpx9.2]; decide)]) rfl))) hS.2.2 (by omega) (by omega)
  · skip
    have hP := cW_keep hP hk1
    have hw_8 := hw
    obtain ⟨u, hu, eu⟩ := ix_t hw_8 (by omega)
    rw [eu] at hl
    have tu : toN x0 = u := by rw [eu]; exact tn (by omega)
    refine lv_iload_n hx hb dX5_earn_11 rfl (lv_at hl 2 rfl) ?_
    refine lv_aload_n hx hb dX5_earn_12 rfl (lv_at hl 0 rfl) ?_
    refine va_get (D := (dC, dI)) (ci := 5) (v := .ref (a 5)) (C := RX5) (T := TX5) (N := 6) hx hb hts i_X5 hown hK hP 0 rfl rfl 4 (by decide) f_2 (fun _ h9 => h9) rfl dX5_earn_13 ?_
    refine va_get (D := (dC, dI)) (ci := 0) (v := .int (nI (c_nb S))) (C := RX0) (T := TX0) (N := 3) hx hb hts i_X0 hown hK hP 5 rfl rfl 0 (by decide) f_3 (fun _ h9 => h9) rfl dX5_earn_16 ?_
    have hF_19 : ∀ q, va_A ([] : va_W) H_8.size q → A q := fun q h => hA q (Nat.le_trans hS.1 (va_A_nil h))
    refine vx_callv (vx_runS (As := [.int x1, .int (nI (c_nb S))]) (rest := []) ⟨hx, hb, hml, hown, hts⟩ (c_X5_checkNumber l hl9 dC dI a k S H_8.size x1 (c_nb S) (by omega)) (va_cwS 2 hts gX5_earn_X5_checkNumber rfl rfl rfl (by decide +kernel) ⟨(Nat.le_of_ble_eq_true rfl), (Nat.le_of_ble_eq_true rfl)⟩) ⟨cU_blind, fun U hU hW => ⟨rfl, cU_of (hK.sub (tys' := []) [] rfl) (hP.sub (ws' := []) [] rfl) (hD.sub (ws' := []) [] (by decide) rfl) hE hS hU hW hF_19⟩⟩ rfl rfl hl.1 rfl (lv_room (Nat.le_of_ble_eq_true rfl)) dX5_earn_19 ⟨(by show (0 + 1) + 1 ≤ 8; omega), (by show (0 + 6) + 6 ≤ 48; omega)⟩) hS (fun q _ h => hF_19 q h) hF_19 (fun q _ h => hF_19 q h) (fun E ce q9 u8 t8 H_19 L_19_ ht hvm _ hB hz1 hk1 hS hce hcv hcl => ?_) (fun u8 t8 H_19 L_19_ ht hvm hw hB hz1 hk1 hS => ?_)
    · obtain ⟨hpx9, hB9⟩ := hB
      have hP := cW_keep hP hk1
      rw [hQ]
      exact vx_out (fun x hx => (htab x hx).elim) hlocks hce hcv hcl (fun t9 h9 ha9 => cX_out hP hK hD hS h9 ha9 ((by rw [hpx9.1]; exact px_of (n := 0) (by rw [k_earn, if_pos hw_8, if_neg (by rw [hpx9.2]; decide)]) rfl))) hS.2.2 (by omega) (by omega)
    · skip
      have hP := cW_keep hP hk1
      have hw_19 := hw
      obtain ⟨bb, hbb, ebb⟩ := ix_t hw_19 (by omega)
      rw [ebb] at hl
      have tbb : toN x1 = bb := by rw [ebb]; exact tn (by omega)
      refine lv_aload_n hx hb dX5_earn_22 rfl (lv_at hl 0 rfl) ?_
      refine va_get (D := (dC, dI)) (ci := 5) (v := .ref (a 5)) (C := RX5) (T := TX5) (N := 6) hx hb hts i_X5 hown hK hP 0 rfl rfl 4 (by decide) f_2 (fun _ h9 => h9) rfl dX5_earn_23 ?_
      refine lv_iload_n hx hb dX5_earn_26 rfl (lv_at hl 1 rfl) ?_
      refine lv_iload_n hx hb dX5_earn_27 rfl (lv_at hl 2 rfl) ?_
      refine lv_aload_n hx hb dX5_earn_28 rfl (lv_at hl 0 rfl) ?_
      refine va_get (D := (dC, dI)) (ci := 5) (v := .ref (a 1)) (C := RX5) (T := TX5) (N := 6) hx hb hts i_X5 hown hK hP 0 rfl rfl 0 (by decide) f_0 (fun _ h9 => h9) rfl dX5_earn_29 ?_
      refine vp_callSi (W.runV (As := [.int (nI u), .int (nI bb), .ref (a 1)]) (rest := []) ⟨hx, hb, hml, hown, hts⟩ (c_X0_distance l dC dI a k S u bb (by omega) (by omega)) (cwV 3 hts gX5_earn_X0_distance rfl rfl rfl (by decide +kernel) ⟨(Nat.le_of_ble_eq_true rfl), (Nat.le_of_ble_eq_true rfl)⟩) ⟨cR_blind, va_recv hK hP (ci := 0) (q0 := 5) rfl rfl, fun U hU hW => ⟨rfl, cR_of hK hP hU hW⟩⟩ rfl rfl hl.1 rfl (lv_room (Nat.le_of_ble_eq_true rfl)) dX5_earn_32 ⟨(by show ((0 + 1) + 1) + 0 ≤ 8; omega), (by show ((0 + 6) + 6) + 0 ≤ 48; omega)⟩) (fun r er => ?_)
      subst er
      refine lv_if_eq (tgt := 48) hx hb dX5_earn_35 (by decide) (fun c_35 => ?_) (fun c_35 => ?_)
      · skip
        refine lv_aload_n hx hb dX5_earn_48 rfl (lv_at hl 0 rfl) ?_
        refine va_get (D := (dC, dI)) (ci := 5) (v := .ref (a 1)) (C := RX5) (T := TX5) (N := 6) hx hb hts i_X5 hown hK hP 0 rfl rfl 0 (by decide) f_0 (fun _ h9 => h9) rfl dX5_earn_49 ?_
        refine va_get (D := (dC, dI)) (ci := 3) (v := .ref (a 10)) (C := RX3) (T := TX3) (N := 8) hx hb hts i_X3 hown hK hP 1 rfl rfl 6 (by decide) f_4 (fun _ h9 => h9) rfl dX5_earn_52 ?_
        refine lv_iload_n hx hb dX5_earn_55 rfl (lv_at hl 1 rfl) ?_
        refine lv_dup2_11 hx hb dX5_earn_56 rfl rfl ?_
        refine cb_iald hx hb hK hP 10 4 (f := c_bad S) rfl rfl (j := u) (by omega) (Nat.le_of_ble_eq_true rfl) dX5_earn_57 ?_
        refine lv_iconst (v := nI 1) hx hb dX5_earn_58 (by decide) ?_
        refine lv_iload_n hx hb dX5_earn_59 rfl (lv_at hl 2 rfl) ?_
        refine lv_ishl hx hb dX5_earn_60 ?_
        refine cb_topi (z := nI (2 ^ bb)) (cb_ishl (by omega)) ?_
        refine lv_ior hx hb dX5_earn_61 ?_
        refine cb_iast hx hb hK hP hD hS 10 4 (f := c_bad S) rfl rfl (j := u) (by omega) (Nat.le_of_ble_eq_true rfl) dX5_earn_62 (fun H locs hP hD hS => ?_)
        rw [wsC_bad] at hP hD
        have hP : va_P (dC, dI) vwCl (cb_W a k (s_bad S (upd (c_bad S) u ((c_bad S u) ||| (nI (2 ^ bb))))) (c_sl S) (c_pt S) (c_at S)) H := hP
        have hD : va_D A (cb_W a k (s_bad S (upd (c_bad S) u ((c_bad S u) ||| (nI (2 ^ bb))))) (c_sl S) (c_pt S) (c_at S)) := hD
        refine lv_aload_n hx hb dX5_earn_63 rfl (lv_at hl 0 rfl) ?_
        refine va_get (D := (dC, dI)) (ci := 5) (v := .ref (a 1)) (C := RX5) (T := TX5) (N := 6) hx hb hts i_X5 hown hK hP 0 rfl rfl 0 (by decide) f_0 (fun _ h9 => h9) rfl dX5_earn_64 ?_
        refine va_get (D := (dC, dI)) (ci := 3) (v := .ref (a 10)) (C := RX3) (T := TX3) (N := 8) hx hb hts i_X3 hown hK hP 1 rfl rfl 6 (by decide) f_4 (fun _ h9 => h9) rfl dX5_earn_67 ?_
        refine lv_iload_n hx hb dX5_earn_70 rfl (lv_at hl 1 rfl) ?_
        refine cb_iald hx hb hK hP 10 4 (f := upd (c_bad S) u ((c_bad S u) ||| (nI (2 ^ bb)))) rfl rfl (j := u) (by omega) (Nat.le_of_ble_eq_true rfl) dX5_earn_71 ?_
        obtain ⟨z9, hz9, ez9⟩ := badlt hI (u := u) (b := bb) (by omega)
        refine cb_topi (z := nI z9) ((pk_us).trans ez9) ?_
        refine vp_callSi (W.runS (As := [.int (nI z9)]) (rest := []) ⟨hx, hb, hml, hown, hts⟩ (c_J6_bitCount_0f7a4 l z9 (by omega)) (va_cwS 1 hts gX5_earn_J6_bitCount_0f7a4 rfl rfl rfl (by decide +kernel) ⟨(Nat.le_of_ble_eq_true rfl), (Nat.le_of_ble_eq_true rfl)⟩) ⟨cN_blind, fun U hU hW => ⟨rfl, trivial⟩⟩ rfl rfl hl.1 rfl (lv_room (Nat.le_of_ble_eq_true rfl)) dX5_earn_72 ⟨(by show ((0 + 1) + 1) + 0 ≤ 8; omega), (by show ((0 + 6) + 6) + 0 ≤ 48; omega)⟩) (fun r er => ?_)
        subst er
        have ew : (cb_W a k (s_bad S (upd (c_bad S) u ((c_bad S u) ||| (nI (2 ^ bb))))) (c_sl S) (c_pt S) (c_at S)) = (cb_w a k (S_earn S x0 x1)) := (by rw [S_earn, tu, tbb]; first | done | rfl)
        have hP : va_P (dC, dI) vwCl (cb_w a k (S_earn S x0 x1)) H := by rw [← ew]; exact hP
        have hD : va_D A (cb_w a k (S_earn S x0 x1)) := by rw [← ew]; exact hD
        rw [hQ]
        refine vx_ret ?_
        refine W.widen (k := 8) (n := 48) (by omega) (by omega) ?_
        exact W.iret (v := nI (popc z9)) hx hb hr (fun t9 ht9 hW9 => ⟨⟨nI (popc z9), (), rfl, ⟨by rw [k_earn, if_pos hw_8, if_pos hw_19, tu, tbb, if_pos c_35], by rw [r_earn, tu, tbb, ez9, badN_nI hz9]⟩, cB_of hP hK hD ht9 hW9⟩, hS.F ht9⟩) hS.2.2 dX5_earn_75
      · skip
        obtain ⟨sa, hstr⟩ := hE.2.2.2.1 (224, "the scout cannot have this badge now") (by decide +kernel)
        have hpx : px [xE_I, xE_S] (k_earn S x0 x1) "java/lang/IllegalStateException" := (px_of (n := 1) (by rw [k_earn, if_pos hw_8, if_pos hw_19, tu, tbb, if_neg c_35]) rfl)
        rw [hQ]
        exact vx_throwS (own := RX5) (cls := "java/lang/IllegalStateException") (names := ["java/lang/RuntimeException", "java/lang/Exception"]) (ik := 51) (is := 224) (ic := 55) hx hb hl9 hown (by decide) (by decide) f_5 f_6 hstr (cb_atS (fun w h => hts w (List.mem_cons_of_mem _ (List.mem_append_left _ (List.mem_append_right _ h)))) hE.2.2.1) cb_gdS hE.1 hE.2.1 hS (hl.1.trans hml.symm) dX5_earn_38 dX5_earn_41 dX5_earn_42 dX5_earn_44 dX5_earn_47 (fun x hx => (htab x hx).elim) (Nat.le_of_ble_eq_true rfl) (Nat.le_of_ble_eq_true rfl) (by decide) (by decide) hlocks (fun t ha hz hk => cX_of hP hK hD hS ha hz hk hpx) hS.2.2 (by decide) (by decide)
abbrev rm_X5_hike : Room := { frames := 7, cells := 8, slots := 48, locals := 112 }
abbrev rm_X5_end : Room := { frames := 6, cells := 8, slots := 48, locals := 90 }
set_option maxHeartbeats 4000000 in
set_option maxRecDepth 100000 in
theorem c_X5_end (l : Launch) (hl9 : l.stackTraces = false) (dC : Nat → ClassId) (dI : Nat → Nat → Nat) (a : Nat → Nat) (k : Nat → ClassId) (S : cs_S) (sz : Nat) (hI : Inv S) : vx_Met l yX5_end wsX5_end rm_X5_end (va_Pc [.ref (a 0)] (cU dC dI sz (cb_w a k S) (cb_ty k))) (va_Qi (fun (r : Int32) (_ : Unit) => k_end S = 0 ∧ r = nI (c_day S + 1)) (fun _ t => cB dC dI (va_A (cb_w a k S) sz) (cb_w a k (S_end S)) (cb_ty k) t) (va_A (cb_w a k S) sz)) (cX dC dI (cb_w a k S) (cb_ty k) (va_A (cb_w a k S) sz) (fun E => px [xE_S] (k_end S) E)) 8 48 (va_A (cb_w a k S) sz) := by
  refine vx_ofW (cc := cX5_end) (maxL := 1) (ret := (some .int)) (by decide) rfl ?_
  intro p e s m args below meth c s₁ B hml htab hv
  obtain ⟨rfl, ⟨hsz, hP, hK, hD0⟩, hE⟩ := hv
  have hx := B.exec
  have hb := B.bytes
  have hr := B.returns
  have hts := atoms_spec (ws := wsX5_end) B.pre
  have hown : s.vm.findClass RX5 = some m.cls := findClass_of_methodNamed B.named
  have hlocks := B.notSynchronized
  subst hsz
  have hD := hD0.self (sz := s.heap.size)
  generalize hAe : va_A (cb_w a k S) s.heap.size = A at hD hE ⊢
  have hA : ∀ q : Nat, s.heap.size ≤ q → A q := fun q h => by rw [← hAe]; exact Or.inr h
  have hS : va_S A s.heap s.heap [] := va_S.rf
  obtain ⟨Q, hQ⟩ : ∃ Q, Q = vx_MQ below (va_Qi (fun (r : Int32) (_ : Unit) => k_end S = 0 ∧ r = nI (c_day S + 1)) (fun _ t => cB dC dI A (cb_w a k (S_end S)) (cb_ty k) t) A) (cX dC dI (cb_w a k S) (cb_ty k) A (fun E => px [xE_S] (k_end S) E)) ([.ref (a 0)] : List Value).toArray s 8 48 A := ⟨_, rfl⟩
  show W p l e rm_X5_end s m _ below meth c s.heap [] 0 0 (vx_MQ below _ _ _ _ _ _ _) _
  rw [← hQ]
  have i_X5 : ∀ w ∈ wsX50, w ∈ wsX5_end := fun w h => List.mem_cons_of_mem _ (List.mem_append_left _ (List.mem_append_left _ (List.mem_append_right _ h)))
  obtain ⟨⟨hday, hnp, hns, hnt, hnf, hnm, hnb, hme⟩, hpat, hage, hten, hcnt, hplc, heat, hned, hhld, hbad, hbad0, hbag⟩ := id hI
  have f_0 := hts (.fieldLink RX5 44 "CampBook" "today" "I") (by decide +kernel)
  have f_1 := hts (.fieldLink RX5 33 "CampBook" "kitchen" "LCampBook$Kitchen;") (by decide +kernel)
  have f_2 := hts (.classLink RX5 51 "java/lang/IllegalStateException") (by decide +kernel)
  have f_3 := hts (.initialized "java/lang/IllegalStateException") (by decide +kernel)
  have hl := lv_entry ([.ref (a 0)]) (n := 1) (Nat.le_of_ble_eq_true rfl)
  rw [lg_entry_eq]
  generalize (lg_sl ([.ref (a 0)]) ++ List.replicate (1 - (lg_sl ([.ref (a 0)])).length) Slot.unset).toArray = ls at hl ⊢
  have hl : lv_has ls 1 [(0, .ref (a 0))] := hl
  refine lv_aload_n hx hb dX5_end_0 rfl (lv_at hl 0 rfl) ?_
  refine va_get (D := (dC, dI)) (ci := 5) (v := .int (nI (c_day S))) (C := RX5) (T := TX5) (N := 6) hx hb hts i_X5 hown hK hP 0 rfl rfl 5 (by decide) f_0 (fun _ h9 => h9) rfl dX5_end_1 ?_
  refine lv_bipush (v := nI 60) hx hb dX5_end_4 (by decide) ?_
  refine lv_icmp_lt (tgt := 19) hx hb dX5_end_6 (by decide) (fun c_6 => ?_) (fun c_6 => ?_)
  · have c_6 : (c_day S) < 60 := cb_lt (by omega) (by omega) c_6
    refine lv_aload_n hx hb dX5_end_19 rfl (lv_at hl 0 rfl) ?_
    refine va_get (D := (dC, dI)) (ci := 5) (v := .ref (a 4)) (C := RX5) (T := TX5) (N := 6) hx hb hts i_X5 hown hK hP 0 rfl rfl 3 (by decide) f_1 (fun _ h9 => h9) rfl dX5_end_20 ?_
    have hF_23 : ∀ q, va_A (cb_w a k S) s.heap.size q → A q := va_free hD hS hA [0, 1, 2, 3, 4, 5, 6, 7, 8, 9, 10, 11, 12, 13, 14, 15, 16, 17, 18, 19] rfl
    refine va_callv (va_runV (As := []) (rest := []) ⟨hx, hb, hml, hown, hts⟩ (c_X2_clearTable l dC dI a k S s.heap.size ) (cwV 0 hts gX5_end_X2_clearTable rfl rfl rfl (by decide +kernel) ⟨(Nat.le_of_ble_eq_true rfl), (Nat.le_of_ble_eq_true rfl)⟩) ⟨cT_blind, va_recv hK hP (ci := 2) (q0 := 4) rfl rfl, fun U hU hW => ⟨rfl, cT_of hK hP hD hU hW⟩⟩ rfl rfl hl.1 rfl (lv_room (Nat.le_of_ble_eq_true rfl)) dX5_end_23 ⟨(by show 0 + 0 ≤ 8; omega), (by show 0 + 0 ≤ 48; omega)⟩) hS (fun q _ h => hF_23 q h) hF_23 (fun u8 t8 H_23 L_23_ ht hvm hw hB hz1 hk1 hS => ?_)
    obtain ⟨hP, -, hD9⟩ := hB
    rw [ht] at hP
    have hD := hD9.weaken (B := A) (fun _ q _ h => hF_23 q.1 h)
    have hP : va_P (dC, dI) vwCl (cb_W a k (s_eat (s_me S 0) (fun _ => false)) (c_sl (s_eat (s_me S 0) (fun _ => false))) (c_pt (s_eat (s_me S 0) (fun _ => false))) (c_at (s_eat (s_me S 0) (fun _ => false)))) H_23 := hP
    have hD : va_D A (cb_W a k (s_eat (s_me S 0) (fun _ => false)) (c_sl (s_eat (s_me S 0) (fun _ => false))) (c_pt (s_eat (s_me S 0) (fun _ => false))) (c_at (s_eat (s_me S 0) (fun _ => false)))) := hD
    have hw_23 := hw
    refine lv_aload_n hx hb dX5_end_26 rfl (lv_at hl 0 rfl) ?_
    refine lv_dup hx hb dX5_end_27 rfl ?_
    refine va_get (D := (dC, dI)) (ci := 5) (v := .int (nI (c_day (s_eat (s_me S 0) (fun _ => false))))) (C := RX5) (T := TX5) (N := 6) hx hb hts i_X5 hown hK hP 0 rfl rfl 5 (by decide) f_0 (fun _ h9 => h9) rfl dX5_end_28 ?_
    refine lv_iconst (v := nI 1) hx hb dX5_end_31 (by decide) ?_
    refine lv_iadd hx hb dX5_end_32 ?_
    refine cb_topi (nI_add _ _) ?_
    refine va_put (D := (dC, dI)) (ci := 5) (v := .int (nI ((c_day (s_eat (s_me S 0) (fun _ => false))) + 1))) (ty := .int) (C := RX5) (T := TX5) (N := 6) hx hb hts i_X5 tyX5 tyX5_ok nmX5 hown hK hP hD hS 0 rfl rfl 5 (by decide) f_0 (fun _ h9 => h9) rfl (by decide +kernel) rfl rfl (Nat.le_of_ble_eq_true rfl) dX5_end_33 (fun H locs hP hD hS => ?_)
    rw [wsC_day] at hP hD
    have hP : va_P (dC, dI) vwCl (cb_W a k (s_day (s_eat (s_me S 0) (fun _ => false)) ((c_day (s_eat (s_me S 0) (fun _ => false))) + 1)) (c_sl (s_eat (s_me S 0) (fun _ => false))) (c_pt (s_eat (s_me S 0) (fun _ => false))) (c_at (s_eat (s_me S 0) (fun _ => false)))) H := hP
    have hD : va_D A (cb_W a k (s_day (s_eat (s_me S 0) (fun _ => false)) ((c_day (s_eat (s_me S 0) (fun _ => false))) + 1)) (c_sl (s_eat (s_me S 0) (fun _ => false))) (c_pt (s_eat (s_me S 0) (fun _ => false))) (c_at (s_eat (s_me S 0) (fun _ => false)))) := hD
    refine lv_aload_n hx hb dX5_end_36 rfl (lv_at hl 0 rfl) ?_
    refine va_get (D := (dC, dI)) (ci := 5) (v := .int (nI ((c_day (s_eat (s_me S 0) (fun _ => false))) + 1))) (C := RX5) (T := TX5) (N := 6) hx hb hts i_X5 hown hK hP 0 rfl rfl 5 (by decide) f_0 (fun _ h9 => h9) rfl dX5_end_37 ?_
    have ew : (cb_W a k (s_day (s_eat (s_me S 0) (fun _ => false)) ((c_day (s_eat (s_me S 0) (fun _ => false))) + 1)) (c_sl (s_eat (s_me S 0) (fun _ => false))) (c_pt (s_eat (s_me S 0) (fun _ => false))) (c_at (s_eat (s_me S 0) (fun _ => false)))) = (cb_w a k (S_end S)) := (by rw [S_end]; exact cw_serve)
    have hP : va_P (dC, dI) vwCl (cb_w a k (S_end S)) H := by rw [← ew]; exact hP
    have hD : va_D A (cb_w a k (S_end S)) := by rw [← ew]; exact hD
    rw [hQ]
    refine vx_ret ?_
    refine W.widen (k := 8) (n := 48) (by omega) (by omega) ?_
    exact W.iret (v := nI ((c_day (s_eat (s_me S 0) (fun _ => false))) + 1)) hx hb hr (fun t9 ht9 hW9 => ⟨⟨nI ((c_day (s_eat (s_me S 0) (fun _ => false))) + 1), (), rfl, ⟨by rw [k_end, if_pos c_6], rfl⟩, cB_of hP hK hD ht9 hW9⟩, hS.F ht9⟩) hS.2.2 dX5_end_40
  · have c_6 : 60 ≤ (c_day S) := cb_nlt (by omega) (by omega) c_6
    obtain ⟨sa, hstr⟩ := hE.2.2.2.1 (255, "it is the last day") (by decide +kernel)
    have hpx : px [xE_S] (k_end S) "java/lang/IllegalStateException" := (px_of (n := 0) (by rw [k_end, if_neg (Nat.not_lt.mpr c_6)]) rfl)
    rw [hQ]
    exact vx_throwS (own := RX5) (cls := "java/lang/IllegalStateException") (names := ["java/lang/RuntimeException", "java/lang/Exception"]) (ik := 51) (is := 255) (ic := 55) hx hb hl9 hown (by decide) (by decide) f_2 f_3 hstr (cb_atS (fun w h => hts w (List.mem_cons_of_mem _ (List.mem_append_right _ h))) hE.2.2.1) cb_gdS hE.1 hE.2.1 hS (hl.1.trans hml.symm) dX5_end_9 dX5_end_12 dX5_end_13 dX5_end_15 dX5_end_18 (fun x hx => (htab x hx).elim) (Nat.le_of_ble_eq_true rfl) (Nat.le_of_ble_eq_true rfl) (by decide) (by decide) hlocks (fun t ha hz hk => cX_of hP hK hD hS ha hz hk hpx) hS.2.2 (by decide) (by decide)
abbrev rm_X5_day : Room := { frames := 0, cells := 0, slots := 0, locals := 0 }
abbrev rm_X5_findTents : Room := { frames := 4, cells := 0, slots := 0, locals := 97 }
set_option maxHeartbeats 4000000 in
set_option maxRecDepth 100000 in
theorem c_X5_findTents (l : Launch) (dC : Nat → ClassId) (dI : Nat → Nat → Nat) (a : Nat → Nat) (k : Nat → ClassId) (S : cs_S) (sz : Nat) (hI : Inv S) : Met l yX5_findTents wsX5_findTents rm_X5_findTents (va_Pc [.ref (a 0)] (cT dC dI sz (cb_w a k S) (cb_ty k))) (va_Qi (fun (r : Int32) (_ : Unit) => r = nI (c_out (S_findTents S))) (fun _ t => cB dC dI (va_A (cb_w a k S) sz) (cb_w a k (S_findTents S)) (cb_ty k) t) (va_A (cb_w a k S) sz)) 0 0 (va_A (cb_w a k S) sz) := by
  refine Met.ofW (cc := cX5_findTents) (maxL := 3) (ret := (some .int)) (by decide) rfl ?_
  intro p e s m args below meth c s₁ B hml hv
  obtain ⟨rfl, hsz, hP, hK, hD0⟩ := hv
  have hx := B.exec
  have hb := B.bytes
  have hr := B.returns
  have hts := atoms_spec (ws := wsX5_findTents) B.pre
  have hown : s.vm.findClass RX5 = some m.cls := findClass_of_methodNamed B.named
  have hlocks := B.notSynchronized
  subst hsz
  have hD := hD0.self (sz := s.heap.size)
  generalize hAe : va_A (cb_w a k S) s.heap.size = A at hD ⊢
  have hA : ∀ q : Nat, s.heap.size ≤ q → A q := fun q h => by rw [← hAe]; exact Or.inr h
  have hS : va_S A s.heap s.heap [] := va_S.rf
  obtain ⟨Q, hQ⟩ : ∃ Q, Q = MQ below (va_Qi (fun (r : Int32) (_ : Unit) => r = nI (c_out (S_findTents S))) (fun _ t => cB dC dI A (cb_w a k (S_findTents S)) (cb_ty k) t) A) ([.ref (a 0)] : List Value).toArray s 0 0 A := ⟨_, rfl⟩
  show W p l e rm_X5_findTents s m _ below meth c s.heap [] 0 0 (MQ below _ _ _ _ _ _) _
  rw [← hQ]
  have i_X3 : ∀ w ∈ wsX30, w ∈ wsX5_findTents := fun w h => List.mem_cons_of_mem _ (List.mem_append_left _ (List.mem_append_right _ h))
  have i_X5 : ∀ w ∈ wsX50, w ∈ wsX5_findTents := fun w h => List.mem_cons_of_mem _ (List.mem_append_left _ (List.mem_append_left _ (List.mem_append_right _ h)))
  obtain ⟨⟨hday, hnp, hns, hnt, hnf, hnm, hnb, hme⟩, hpat, hage, hten, hcnt, hplc, heat, hned, hhld, hbad, hbad0, hbag⟩ := id hI
  have f_0 := hts (.fieldLink RX5 10 "CampBook" "people" "LCampBook$People;") (by decide +kernel)
  have f_1 := hts (.fieldLink RX5 66 "CampBook$People" "scouts" "I") (by decide +kernel)
  have f_2 := hts (.fieldLink RX5 112 "CampBook$People" "age" "[I") (by decide +kernel)
  have f_3 := hts (.fieldLink RX5 19 "CampBook" "tents" "LCampBook$Tents;") (by decide +kernel)
  have hl := lv_entry ([.ref (a 0)]) (n := 3) (Nat.le_of_ble_eq_true rfl)
  rw [lg_entry_eq]
  generalize (lg_sl ([.ref (a 0)]) ++ List.replicate (3 - (lg_sl ([.ref (a 0)])).length) Slot.unset).toArray = ls at hl ⊢
  have hl : lv_has ls 3 [(0, .ref (a 0))] := hl
  refine lv_bipush (v := nI 17) hx hb dX5_findTents_0 (by decide) ?_
  refine lv_istore_n (lv' := [(1, .int (nI 17)), (0, .ref (a 0))]) hx hb dX5_findTents_2 rfl hl (by decide) rfl (fun ls hl => ?_)
  have L_3 : ∀ (n g : Nat) (T : cs_S), g ≤ 12 → 12 + 1 ≤ g + n → Inv T → c_ns T = c_ns S → T = ftOut S g → ∀ (H : Heap) (locs : List Loc), va_P (dC, dI) vwCl (cb_W a k T (c_sl T) (c_pt T) (c_at T)) H → va_D A (cb_W a k T (c_sl T) (c_pt T) (c_at T)) → va_S A s.heap H locs → ∀ (ls : Array Slot), lv_has ls 3 [(0, .ref (a 0)), (1, .int (nI (17 - g)))] → W p l e rm_X5_findTents s m ([.ref (a 0)] : List Value).toArray below meth c H locs 0 0 Q (F0 m 3 ls []) := by
    intro n
    induction n with
    | zero => intro g T h1 h2; exact absurd h2 (by omega)
    | succ n ih_3 =>
      intro g T hle_3 hfu_3 hJ hTn hTe H locs hP hD hS ls hl
      obtain ⟨⟨bday, bnp, bns, bnt, bnf, bnm, bnb, bme⟩, -⟩ := id hJ
      refine lv_iload_n hx hb dX5_findTents_3 rfl (lv_at hl 1 rfl) ?_
      refine lv_bipush (v := nI 6) hx hb dX5_findTents_4 (by decide) ?_
      refine lv_icmp_lt (tgt := 79) hx hb dX5_findTents_6 (by decide) (fun c_6 => ?_) (fun c_6 => ?_)
      · have c_6 : (17 - g) < 6 := cb_lt (by omega) (by omega) c_6
        refine lv_aload_n hx hb dX5_findTents_79 rfl (lv_at hl 0 rfl) ?_
        refine vp_callSi (W.runV (As := []) (rest := []) ⟨hx, hb, hml, hown, hts⟩ (c_X5_scoutsWithoutTent l dC dI a k T hJ) (cwV 0 hts gX5_findTents_X5_scoutsWithoutTent rfl rfl rfl (by decide +kernel) ⟨(Nat.le_of_ble_eq_true rfl), (Nat.le_of_ble_eq_true rfl)⟩) ⟨cR_blind, va_recv hK hP (ci := 5) (q0 := 0) rfl rfl, fun U hU hW => ⟨rfl, cR_of hK hP hU hW⟩⟩ rfl rfl hl.1 rfl (lv_room (Nat.le_of_ble_eq_true rfl)) dX5_findTents_80 ⟨(by show 0 + 0 ≤ 0; omega), (by show 0 + 0 ≤ 0; omega)⟩) (fun r er => ?_)
        subst er
        have ew : (cb_W a k T (c_sl T) (c_pt T) (c_at T)) = (cb_w a k (S_findTents S)) := (by rw [hTe, show g = 12 by omega]; rfl)
        have hP : va_P (dC, dI) vwCl (cb_w a k (S_findTents S)) H := by rw [← ew]; exact hP
        have hD : va_D A (cb_w a k (S_findTents S)) := by rw [← ew]; exact hD
        rw [hQ]
        refine W.widen (k := 0) (n := 0) (by omega) (by omega) ?_
        exact W.iret (v := nI (c_out T)) hx hb hr (fun t9 ht9 hW9 => ⟨⟨nI (c_out T), (), rfl, (by rw [hTe, show g = 12 by omega]; rfl), cB_of hP hK hD ht9 hW9⟩, hS.F ht9⟩) hS.2.2 dX5_findTents_83
      · have c_6 : 6 ≤ (17 - g) := cb_nlt (by omega) (by omega) c_6
        refine lv_iconst (v := nI 0) hx hb dX5_findTents_9 (by decide) ?_
        refine lv_istore_n (lv' := [(2, .int (nI 0)), (0, .ref (a 0)), (1, .int (nI (17 - g)))]) hx hb dX5_findTents_10 rfl hl (by decide) rfl (fun ls hl => ?_)
        have L_11 : ∀ (n u : Nat) (T : cs_S), u ≤ c_ns S → c_ns S + 1 ≤ u + n → Inv T → c_ns T = c_ns S → T = ftIn (ftOut S g) (17 - g) u → ∀ (H : Heap) (locs : List Loc), va_P (dC, dI) vwCl (cb_W a k T (c_sl T) (c_pt T) (c_at T)) H → va_D A (cb_W a k T (c_sl T) (c_pt T) (c_at T)) → va_S A s.heap H locs → ∀ (ls : Array Slot), lv_has ls 3 [(0, .ref (a 0)), (1, .int (nI (17 - g))), (2, .int (nI u))] → W p l e rm_X5_findTents s m ([.ref (a 0)] : List Value).toArray below meth c H locs 0 0 Q (F0 m 11 ls []) := by
          intro n
          induction n with
          | zero => intro u T h1 h2; exact absurd h2 (by omega)
          | succ n ih_11 =>
            intro u T hle_11 hfu_11 hJ hTn hTe H locs hP hD hS ls hl
            obtain ⟨⟨bday, bnp, bns, bnt, bnf, bnm, bnb, bme⟩, -⟩ := id hJ
            refine lv_iload_n hx hb dX5_findTents_11 rfl (lv_at hl 2 rfl) ?_
            refine lv_aload_n hx hb dX5_findTents_12 rfl (lv_at hl 0 rfl) ?_
            refine va_get (D := (dC, dI)) (ci := 5) (v := .ref (a 1)) (C := RX5) (T := TX5) (N := 6) hx hb hts i_X5 hown hK hP 0 rfl rfl 0 (by decide) f_0 (fun _ h9 => h9) rfl dX5_findTents_13 ?_
            refine va_get (D := (dC, dI)) (ci := 3) (v := .int (nI (c_ns T))) (C := RX3) (T := TX3) (N := 8) hx hb hts i_X3 hown hK hP 1 rfl rfl 1 (by decide) f_1 (fun _ h9 => h9) rfl dX5_findTents_16 ?_
            refine lv_icmp_ge (tgt := 73) hx hb dX5_findTents_19 (by decide) (fun c_19 => ?_) (fun c_19 => ?_)
            · have c_19 : (c_ns T) ≤ u := cb_ge (by omega) (by omega) c_19
              refine lv_iinc (v := (nI (17 - g)) + Int32.ofInt (-1)) (lv' := [(1, .int ((nI (17 - g)) + Int32.ofInt (-1))), (0, .ref (a 0)), (2, .int (nI u))]) hx hb dX5_findTents_73 hl (k := 1) rfl rfl (by decide) rfl (fun ls hl => ?_)
              refine lv_goto (tgt := 3) hx hb dX5_findTents_76 (by decide) ?_
              have hl : lv_has ls 3 [(1, .int (nI (17 - (g + 1)))), (0, .ref (a 0)), (2, .int (nI u))] := cb_loc hl (e := Value.int (nI (17 - (g + 1)))) 0 rfl (congrArg Value.int (show (nI (17 - g)) + Int32.ofInt (-1) = nI (17 - (g + 1)) from (nI_dec (by omega))))
              exact ih_3 (g + 1) T (by omega) (by omega) hJ hTn (by rw [hTe, show u = c_ns S by omega]; rfl) H locs hP hD hS ls (lv_sub hl [1, 0] rfl)
            · have c_19 : u < (c_ns T) := cb_nge (by omega) (by omega) c_19
              refine lv_aload_n hx hb dX5_findTents_22 rfl (lv_at hl 0 rfl) ?_
              refine va_get (D := (dC, dI)) (ci := 5) (v := .ref (a 1)) (C := RX5) (T := TX5) (N := 6) hx hb hts i_X5 hown hK hP 0 rfl rfl 0 (by decide) f_0 (fun _ h9 => h9) rfl dX5_findTents_23 ?_
              refine va_get (D := (dC, dI)) (ci := 3) (v := .ref (a 7)) (C := RX3) (T := TX3) (N := 8) hx hb hts i_X3 hown hK hP 1 rfl rfl 3 (by decide) f_2 (fun _ h9 => h9) rfl dX5_findTents_26 ?_
              refine lv_iload_n hx hb dX5_findTents_29 rfl (lv_at hl 2 rfl) ?_
              refine cb_iald hx hb hK hP 7 1 (f := c_age T) rfl rfl (j := u) (by omega) (Nat.le_of_ble_eq_true rfl) dX5_findTents_30 ?_
              refine lv_iload_n hx hb dX5_findTents_31 rfl (lv_at hl 1 rfl) ?_
              refine lv_icmp_ne (tgt := 67) hx hb dX5_findTents_32 (by decide) (fun c_32 => ?_) (fun c_32 => ?_)
              · skip
                refine lv_iinc (v := nI (u + 1)) (lv' := [(2, .int (nI (u + 1))), (0, .ref (a 0)), (1, .int (nI (17 - g)))]) hx hb dX5_findTents_67 hl (k := 2) rfl (nI_1 _) (by decide) rfl (fun ls hl => ?_)
                refine lv_goto (tgt := 11) hx hb dX5_findTents_70 (by decide) ?_
                exact ih_11 (u + 1) T (by omega) (by omega) hJ hTn (ftIn_f hTe (fun z => c_32 z.1)) H locs hP hD hS ls (lv_sub hl [1, 2, 0] rfl)
              · skip
                refine lv_aload_n hx hb dX5_findTents_35 rfl (lv_at hl 0 rfl) ?_
                refine va_get (D := (dC, dI)) (ci := 5) (v := .ref (a 2)) (C := RX5) (T := TX5) (N := 6) hx hb hts i_X5 hown hK hP 0 rfl rfl 1 (by decide) f_3 (fun _ h9 => h9) rfl dX5_findTents_36 ?_
                refine lv_iload_n hx hb dX5_findTents_39 rfl (lv_at hl 2 rfl) ?_
                refine vp_callSi (W.runV (As := [.int (nI u)]) (rest := []) ⟨hx, hb, hml, hown, hts⟩ (c_X4_tentOf l dC dI a k T u (by omega) hJ) (cwV 1 hts gX5_findTents_X4_tentOf rfl rfl rfl (by decide +kernel) ⟨(Nat.le_of_ble_eq_true rfl), (Nat.le_of_ble_eq_true rfl)⟩) ⟨cR_blind, va_recv hK hP (ci := 4) (q0 := 2) rfl rfl, fun U hU hW => ⟨rfl, cR_of hK hP hU hW⟩⟩ rfl rfl hl.1 rfl (lv_room (Nat.le_of_ble_eq_true rfl)) dX5_findTents_40 ⟨(by show 0 + 0 ≤ 0; omega), (by show 0 + 0 ≤ 0; omega)⟩) (fun r er => ?_)
                subst er
                refine lv_iconst (v := (-1)) hx hb dX5_findTents_43 (by decide) ?_
                refine lv_icmp_ne (tgt := 67) hx hb dX5_findTents_44 (by decide) (fun c_44 => ?_) (fun c_44 => ?_)
                · skip
                  refine lv_iinc (v := nI (u + 1)) (lv' := [(2, .int (nI (u + 1))), (0, .ref (a 0)), (1, .int (nI (17 - g)))]) hx hb dX5_findTents_67 hl (k := 2) rfl (nI_1 _) (by decide) rfl (fun ls hl => ?_)
                  refine lv_goto (tgt := 11) hx hb dX5_findTents_70 (by decide) ?_
                  exact ih_11 (u + 1) T (by omega) (by omega) hJ hTn (ftIn_f hTe (fun z => c_44 z.2)) H locs hP hD hS ls (lv_sub hl [1, 2, 0] rfl)
                · skip
                  refine lv_aload_n hx hb dX5_findTents_47 rfl (lv_at hl 0 rfl) ?_
                  refine va_get (D := (dC, dI)) (ci := 5) (v := .ref (a 2)) (C := RX5) (T := TX5) (N := 6) hx hb hts i_X5 hown hK hP 0 rfl rfl 1 (by decide) f_3 (fun _ h9 => h9) rfl dX5_findTents_48 ?_
                  refine lv_aload_n hx hb dX5_findTents_51 rfl (lv_at hl 0 rfl) ?_
                  refine va_get (D := (dC, dI)) (ci := 5) (v := .ref (a 2)) (C := RX5) (T := TX5) (N := 6) hx hb hts i_X5 hown hK hP 0 rfl rfl 1 (by decide) f_3 (fun _ h9 => h9) rfl dX5_findTents_52 ?_
                  refine lv_iload_n hx hb dX5_findTents_55 rfl (lv_at hl 2 rfl) ?_
                  refine lv_aload_n hx hb dX5_findTents_56 rfl (lv_at hl 0 rfl) ?_
                  refine va_get (D := (dC, dI)) (ci := 5) (v := .ref (a 1)) (C := RX5) (T := TX5) (N := 6) hx hb hts i_X5 hown hK hP 0 rfl rfl 0 (by decide) f_0 (fun _ h9 => h9) rfl dX5_findTents_57 ?_
                  refine vp_callSi (W.runV (As := [.int (nI u), .ref (a 1)]) (rest := [.ref (a 2)]) ⟨hx, hb, hml, hown, hts⟩ (c_X4_bestFor l dC dI a k T u (by omega) hJ) (cwV 2 hts gX5_findTents_X4_bestFor rfl rfl rfl (by decide +kernel) ⟨(Nat.le_of_ble_eq_true rfl), (Nat.le_of_ble_eq_true rfl)⟩) ⟨cR_blind, va_recv hK hP (ci := 4) (q0 := 2) rfl rfl, fun U hU hW => ⟨rfl, cR_of hK hP hU hW⟩⟩ rfl rfl hl.1 rfl (lv_room (Nat.le_of_ble_eq_true rfl)) dX5_findTents_60 ⟨(by show 0 + 0 ≤ 0; omega), (by show 0 + 0 ≤ 0; omega)⟩) (fun r er => ?_)
                  subst er
                  refine lv_iload_n hx hb dX5_findTents_63 rfl (lv_at hl 2 rfl) ?_
                  have hF_64 : ∀ q, va_A (cb_w a k T) H.size q → A q := va_free hD hS hA [0, 1, 2, 3, 4, 5, 6, 7, 8, 9, 10, 11, 12, 13, 14, 15, 16, 17, 18, 19] rfl
                  refine va_callv (va_runV (As := [.int (oI (bT T u (c_nt T))), .int (nI u)]) (rest := []) ⟨hx, hb, hml, hown, hts⟩ (c_X4_enter l dC dI a k T H.size u (oI (bT T u (c_nt T))) (by omega) hJ bT_or c_44) (cwV 2 hts gX5_findTents_X4_enter rfl rfl rfl (by decide +kernel) ⟨(Nat.le_of_ble_eq_true rfl), (Nat.le_of_ble_eq_true rfl)⟩) ⟨cT_blind, va_recv hK hP (ci := 4) (q0 := 2) rfl rfl, fun U hU hW => ⟨rfl, cT_of hK hP hD hU hW⟩⟩ rfl rfl hl.1 rfl (lv_room (Nat.le_of_ble_eq_true rfl)) dX5_findTents_64 ⟨(by show 0 + 0 ≤ 0; omega), (by show 0 + 0 ≤ 0; omega)⟩) hS (fun q _ h => hF_64 q h) hF_64 (fun u8 t8 H_64 L_64_ ht hvm hw hB hz1 hk1 hS => ?_)
                  obtain ⟨hP, -, hD9⟩ := hB
                  rw [ht] at hP
                  have hD := hD9.weaken (B := A) (fun _ q _ h => hF_64 q.1 h)
                  have hP : va_P (dC, dI) vwCl (cb_W a k (ft1 T u) (c_sl (ft1 T u)) (c_pt (ft1 T u)) (c_at (ft1 T u))) H_64 := hP
                  have hD : va_D A (cb_W a k (ft1 T u) (c_sl (ft1 T u)) (c_pt (ft1 T u)) (c_at (ft1 T u))) := hD
                  have hw_64 := hw
                  refine lv_iinc (v := nI (u + 1)) (lv' := [(2, .int (nI (u + 1))), (0, .ref (a 0)), (1, .int (nI (17 - g)))]) hx hb dX5_findTents_67 hl (k := 2) rfl (nI_1 _) (by decide) rfl (fun ls hl => ?_)
                  refine lv_goto (tgt := 11) hx hb dX5_findTents_70 (by decide) ?_
                  exact ih_11 (u + 1) (ft1 T u) (by omega) (by omega) (inv_ft1 hJ) hTn (ftIn_t hTe c_32 c_44) H_64 L_64_ hP hD hS ls (lv_sub hl [1, 2, 0] rfl)
        exact L_11 (c_ns S + 1) 0 T (by omega) (by omega) hJ hTn hTe H locs hP hD hS ls (lv_sub hl [1, 2, 0] rfl)
  have hl : lv_has ls 3 [(1, .int (nI (17 - 0))), (0, .ref (a 0))] := cb_loc hl (e := Value.int (nI (17 - 0))) 0 rfl (congrArg Value.int (show nI 17 = nI (17 - 0) from rfl))
  exact L_3 (12 + 1) 0 S (by omega) (by omega) hI rfl rfl s.heap [] hP hD hS ls (lv_sub hl [1, 0] rfl)
abbrev rm_X5_findDuties : Room := { frames := 4, cells := 0, slots := 0, locals := 98 }
set_option maxHeartbeats 4000000 in
set_option maxRecDepth 100000 in
theorem c_X5_findDuties (l : Launch) (dC : Nat → ClassId) (dI : Nat → Nat → Nat) (a : Nat → Nat) (k : Nat → ClassId) (S : cs_S) (sz : Nat) (hI : Inv S) : Met l yX5_findDuties wsX5_findDuties rm_X5_findDuties (va_Pc [.ref (a 0)] (cU dC dI sz (cb_w a k S) (cb_ty k))) (va_Qi (fun (r : Int32) (_ : Unit) => r = r_findDuties S) (fun _ t => cB dC dI (va_A (cb_w a k S) sz) (cb_w a k (S_findDuties S)) (cb_ty k) t) (va_A (cb_w a k S) sz)) 0 0 (va_A (cb_w a k S) sz) := by
  refine Met.ofW (cc := cX5_findDuties) (maxL := 3) (ret := (some .int)) (by decide) rfl ?_
  intro p e s m args below meth c s₁ B hml hv
  obtain ⟨rfl, ⟨hsz, hP, hK, hD0⟩, hE⟩ := hv
  have hx := B.exec
  have hb := B.bytes
  have hr := B.returns
  have hts := atoms_spec (ws := wsX5_findDuties) B.pre
  have hown : s.vm.findClass RX5 = some m.cls := findClass_of_methodNamed B.named
  have hlocks := B.notSynchronized
  subst hsz
  have hD := hD0.self (sz := s.heap.size)
  generalize hAe : va_A (cb_w a k S) s.heap.size = A at hD hE ⊢
  have hA : ∀ q : Nat, s.heap.size ≤ q → A q := fun q h => by rw [← hAe]; exact Or.inr h
  have hS : va_S A s.heap s.heap [] := va_S.rf
  obtain ⟨Q, hQ⟩ : ∃ Q, Q = MQ below (va_Qi (fun (r : Int32) (_ : Unit) => r = r_findDuties S) (fun _ t => cB dC dI A (cb_w a k (S_findDuties S)) (cb_ty k) t) A) ([.ref (a 0)] : List Value).toArray s 0 0 A := ⟨_, rfl⟩
  show W p l e rm_X5_findDuties s m _ below meth c s.heap [] 0 0 (MQ below _ _ _ _ _ _) _
  rw [← hQ]
  have i_X5 : ∀ w ∈ wsX50, w ∈ wsX5_findDuties := fun w h => List.mem_cons_of_mem _ (List.mem_append_left _ (List.mem_append_left _ (List.mem_append_right _ h)))
  obtain ⟨⟨hday, hnp, hns, hnt, hnf, hnm, hnb, hme⟩, hpat, hage, hten, hcnt, hplc, heat, hned, hhld, hbad, hbad0, hbag⟩ := id hI
  have f_0 := hts (.fieldLink RX5 26 "CampBook" "duties" "LCampBook$Duties;") (by decide +kernel)
  have f_1 := hts (.fieldLink RX5 44 "CampBook" "today" "I") (by decide +kernel)
  have f_2 := hts (.fieldLink RX5 10 "CampBook" "people" "LCampBook$People;") (by decide +kernel)
  have hl := lv_entry ([.ref (a 0)]) (n := 3) (Nat.le_of_ble_eq_true rfl)
  rw [lg_entry_eq]
  generalize (lg_sl ([.ref (a 0)]) ++ List.replicate (3 - (lg_sl ([.ref (a 0)])).length) Slot.unset).toArray = ls at hl ⊢
  have hl : lv_has ls 3 [(0, .ref (a 0))] := hl
  obtain ⟨-, -, -, -, t1, t2, hZ1, hT1, hZ2, hT2, hNw⟩ := id hE
  refine lv_iconst (v := nI 0) hx hb dX5_findDuties_0 (by decide) ?_
  refine lv_istore_n (lv' := [(1, .int (nI 0)), (0, .ref (a 0))]) hx hb dX5_findDuties_1 rfl hl (by decide) rfl (fun ls hl => ?_)
  have L_2 : ∀ (n i : Nat) (T : cs_S), i ≤ 5 → 5 + 1 ≤ i + n → Inv T → T = fdF S i → ∀ (H : Heap) (locs : List Loc), va_P (dC, dI) vwCl (cb_W a k T (c_sl T) (c_pt T) (c_at T)) H → va_D A (cb_W a k T (c_sl T) (c_pt T) (c_at T)) → va_S A s.heap H locs → ∀ (ls : Array Slot), lv_has ls 3 [(0, .ref (a 0)), (1, .int (nI i))] → W p l e rm_X5_findDuties s m ([.ref (a 0)] : List Value).toArray below meth c H locs 0 0 Q (F0 m 2 ls []) := by
    intro n
    induction n with
    | zero => intro i T h1 h2; exact absurd h2 (by omega)
    | succ n ih_2 =>
      intro i T hle_2 hfu_2 hJ hTe H locs hP hD hS ls hl
      obtain ⟨⟨bday, bnp, bns, bnt, bnf, bnm, bnb, bme⟩, -⟩ := id hJ
      refine lv_iload_n hx hb dX5_findDuties_2 rfl (lv_at hl 1 rfl) ?_
      refine va_getsN (C := RX1) hx hb hZ2 hS hown (va_Nw.use rfl hNw) (fun _ h9 => h9) dX5_findDuties_3 ?_
      refine va_tlen hx hb hT2 hS (v := nI 5) rfl dX5_findDuties_6 ?_
      refine lv_icmp_ge (tgt := 66) hx hb dX5_findDuties_7 (by decide) (fun c_7 => ?_) (fun c_7 => ?_)
      · have c_7 : 5 ≤ i := cb_ge (by omega) (by omega) c_7
        refine lv_aload_n hx hb dX5_findDuties_66 rfl (lv_at hl 0 rfl) ?_
        refine va_get (D := (dC, dI)) (ci := 5) (v := .ref (a 3)) (C := RX5) (T := TX5) (N := 6) hx hb hts i_X5 hown hK hP 0 rfl rfl 2 (by decide) f_0 (fun _ h9 => h9) rfl dX5_findDuties_67 ?_
        refine lv_aload_n hx hb dX5_findDuties_70 rfl (lv_at hl 0 rfl) ?_
        refine va_get (D := (dC, dI)) (ci := 5) (v := .int (nI (c_day T))) (C := RX5) (T := TX5) (N := 6) hx hb hts i_X5 hown hK hP 0 rfl rfl 5 (by decide) f_1 (fun _ h9 => h9) rfl dX5_findDuties_71 ?_
        refine vp_callSi (W.runV (As := [.int (nI (c_day T))]) (rest := []) ⟨hx, hb, hml, hown, hts⟩ (c_X1_openOn l dC dI a k T (c_day T) hJ.1.1) (cwV 1 hts gX5_findDuties_X1_openOn rfl rfl rfl (by decide +kernel) ⟨(Nat.le_of_ble_eq_true rfl), (Nat.le_of_ble_eq_true rfl)⟩) ⟨cR_blind, va_recv hK hP (ci := 1) (q0 := 3) rfl rfl, fun U hU hW => ⟨rfl, cR_of hK hP hU hW⟩⟩ rfl rfl hl.1 rfl (lv_room (Nat.le_of_ble_eq_true rfl)) dX5_findDuties_74 ⟨(by show 0 + 0 ≤ 0; omega), (by show 0 + 0 ≤ 0; omega)⟩) (fun r er => ?_)
        subst er
        have ew : (cb_W a k T (c_sl T) (c_pt T) (c_at T)) = (cb_w a k (S_findDuties S)) := (by rw [hTe, show i = 5 by omega]; rfl)
        have hP : va_P (dC, dI) vwCl (cb_w a k (S_findDuties S)) H := by rw [← ew]; exact hP
        have hD : va_D A (cb_w a k (S_findDuties S)) := by rw [← ew]; exact hD
        rw [hQ]
        refine W.widen (k := 0) (n := 0) (by omega) (by omega) ?_
        exact W.iret (v := nI (fb_ct (opS T (c_day T)) 5)) hx hb hr (fun t9 ht9 hW9 => ⟨⟨nI (fb_ct (opS T (c_day T)) 5), (), rfl, (by rw [hTe, show i = 5 by omega]; rfl), cB_of hP hK hD ht9 hW9⟩, hS.F ht9⟩) hS.2.2 dX5_findDuties_77
      · have c_7 : i < 5 := cb_nge (by omega) (by omega) c_7
        refine va_getsN (C := RX1) hx hb hZ2 hS hown (va_Nw.use rfl hNw) (fun _ h9 => h9) dX5_findDuties_10 ?_
        refine lv_iload_n hx hb dX5_findDuties_13 rfl (lv_at hl 1 rfl) ?_
        refine cb_ti hx hb hT2 hS (j := i) (by omega) (Nat.le_of_ble_eq_true rfl) dX5_findDuties_14 ?_
        refine cb_topi (z := nI (dON i)) (dO_nI i) ?_
        refine lv_istore_n (lv' := [(2, .int (nI (dON i))), (0, .ref (a 0)), (1, .int (nI i))]) hx hb dX5_findDuties_15 rfl hl (by decide) rfl (fun ls hl => ?_)
        refine lv_aload_n hx hb dX5_findDuties_16 rfl (lv_at hl 1 rfl) ?_
        refine va_get (D := (dC, dI)) (ci := 5) (v := .ref (a 3)) (C := RX5) (T := TX5) (N := 6) hx hb hts i_X5 hown hK hP 0 rfl rfl 2 (by decide) f_0 (fun _ h9 => h9) rfl dX5_findDuties_17 ?_
        refine lv_aload_n hx hb dX5_findDuties_20 rfl (lv_at hl 1 rfl) ?_
        refine va_get (D := (dC, dI)) (ci := 5) (v := .int (nI (c_day T))) (C := RX5) (T := TX5) (N := 6) hx hb hts i_X5 hown hK hP 0 rfl rfl 5 (by decide) f_1 (fun _ h9 => h9) rfl dX5_findDuties_21 ?_
        refine lv_iload_n hx hb dX5_findDuties_24 rfl (lv_at hl 0 rfl) ?_
        refine vp_callSi (W.runV (As := [.int (nI (c_day T)), .int (nI (dON i))]) (rest := []) ⟨hx, hb, hml, hown, hts⟩ (c_X1_holderOn l dC dI a k T (nI (c_day T)) (dON i) (dON_lt i)) (cwV 2 hts gX5_findDuties_X1_holderOn rfl rfl rfl (by decide +kernel) ⟨(Nat.le_of_ble_eq_true rfl), (Nat.le_of_ble_eq_true rfl)⟩) ⟨cR_blind, va_recv hK hP (ci := 1) (q0 := 3) rfl rfl, fun U hU hW => ⟨rfl, cR_of hK hP hU hW⟩⟩ rfl rfl hl.1 rfl (lv_room (Nat.le_of_ble_eq_true rfl)) dX5_findDuties_25 ⟨(by show 0 + 0 ≤ 0; omega), (by show 0 + 0 ≤ 0; omega)⟩) (fun r er => ?_)
        subst er
        refine cb_topi (z := c_hld T (c_day T * 5 + dON i)) (hol_nI hJ.1.1) ?_
        refine lv_iconst (v := (-1)) hx hb dX5_findDuties_28 (by decide) ?_
        refine lv_icmp_ne (tgt := 60) hx hb dX5_findDuties_29 (by decide) (fun c_29 => ?_) (fun c_29 => ?_)
        · skip
          refine lv_iinc (v := nI (i + 1)) (lv' := [(1, .int (nI (i + 1))), (2, .int (nI (dON i))), (0, .ref (a 0))]) hx hb dX5_findDuties_60 hl (k := 2) rfl (nI_1 _) (by decide) rfl (fun ls hl => ?_)
          refine lv_goto (tgt := 2) hx hb dX5_findDuties_63 (by decide) ?_
          exact ih_2 (i + 1) T (by omega) (by omega) hJ (fdF_f hTe c_29) H locs hP hD hS ls (lv_sub hl [2, 0] rfl)
        · skip
          refine lv_aload_n hx hb dX5_findDuties_32 rfl (lv_at hl 1 rfl) ?_
          refine va_get (D := (dC, dI)) (ci := 5) (v := .ref (a 3)) (C := RX5) (T := TX5) (N := 6) hx hb hts i_X5 hown hK hP 0 rfl rfl 2 (by decide) f_0 (fun _ h9 => h9) rfl dX5_findDuties_33 ?_
          refine lv_aload_n hx hb dX5_findDuties_36 rfl (lv_at hl 1 rfl) ?_
          refine va_get (D := (dC, dI)) (ci := 5) (v := .int (nI (c_day T))) (C := RX5) (T := TX5) (N := 6) hx hb hts i_X5 hown hK hP 0 rfl rfl 5 (by decide) f_1 (fun _ h9 => h9) rfl dX5_findDuties_37 ?_
          refine lv_iload_n hx hb dX5_findDuties_40 rfl (lv_at hl 0 rfl) ?_
          refine lv_aload_n hx hb dX5_findDuties_41 rfl (lv_at hl 1 rfl) ?_
          refine va_get (D := (dC, dI)) (ci := 5) (v := .ref (a 3)) (C := RX5) (T := TX5) (N := 6) hx hb hts i_X5 hown hK hP 0 rfl rfl 2 (by decide) f_0 (fun _ h9 => h9) rfl dX5_findDuties_42 ?_
          refine lv_aload_n hx hb dX5_findDuties_45 rfl (lv_at hl 1 rfl) ?_
          refine va_get (D := (dC, dI)) (ci := 5) (v := .int (nI (c_day T))) (C := RX5) (T := TX5) (N := 6) hx hb hts i_X5 hown hK hP 0 rfl rfl 5 (by decide) f_1 (fun _ h9 => h9) rfl dX5_findDuties_46 ?_
          refine lv_iload_n hx hb dX5_findDuties_49 rfl (lv_at hl 0 rfl) ?_
          refine lv_aload_n hx hb dX5_findDuties_50 rfl (lv_at hl 1 rfl) ?_
          refine va_get (D := (dC, dI)) (ci := 5) (v := .ref (a 1)) (C := RX5) (T := TX5) (N := 6) hx hb hts i_X5 hown hK hP 0 rfl rfl 0 (by decide) f_2 (fun _ h9 => h9) rfl dX5_findDuties_51 ?_
          refine vp_callSi (W.runV (As := [.int (nI (c_day T)), .int (nI (dON i)), .ref (a 1)]) (rest := [.int (nI (dON i)), .int (nI (c_day T)), .ref (a 3)]) ⟨hx, hb, hml, hown, hts⟩ (c_X1_bestFor l dC dI a k T (c_day T) (dON i) hJ.1.1 (dON_lt i) hJ) (cwV 3 hts gX5_findDuties_X1_bestFor rfl rfl rfl (by decide +kernel) ⟨(Nat.le_of_ble_eq_true rfl), (Nat.le_of_ble_eq_true rfl)⟩) ⟨cR_blind, va_recv hK hP (ci := 1) (q0 := 3) rfl rfl, fun U hU hW => ⟨rfl, cR_of hK hP hU hW⟩⟩ rfl rfl hl.1 rfl (lv_room (Nat.le_of_ble_eq_true rfl)) dX5_findDuties_54 ⟨(by show 0 + 0 ≤ 0; omega), (by show 0 + 0 ≤ 0; omega)⟩) (fun r er => ?_)
          subst er
          have hF_57 : ∀ q, va_A (cb_w a k T) H.size q → A q := va_free hD hS hA [0, 1, 2, 3, 4, 5, 6, 7, 8, 9, 10, 11, 12, 13, 14, 15, 16, 17, 18, 19] rfl
          refine va_callv (va_runV (As := [.int (nI (c_day T)), .int (nI (dON i)), .int (oI (bD T (c_day T) (dON i) (c_np T)))]) (rest := []) ⟨hx, hb, hml, hown, hts⟩ (c_X1_assign l dC dI a k T H.size (c_day T) (dON i) (oI (bD T (c_day T) (dON i) (c_np T))) hJ.1.1 (dON_lt i) hJ bD_or) (cwV 3 hts gX5_findDuties_X1_assign rfl rfl rfl (by decide +kernel) ⟨(Nat.le_of_ble_eq_true rfl), (Nat.le_of_ble_eq_true rfl)⟩) ⟨cU_blind, va_recv hK hP (ci := 1) (q0 := 3) rfl rfl, fun U hU hW => ⟨rfl, cU_of hK hP hD hE hS hU hW hF_57⟩⟩ rfl rfl hl.1 rfl (lv_room (Nat.le_of_ble_eq_true rfl)) dX5_findDuties_57 ⟨(by show 0 + 0 ≤ 0; omega), (by show 0 + 0 ≤ 0; omega)⟩) hS (fun q _ h => hF_57 q h) hF_57 (fun u8 t8 H_57 L_57_ ht hvm hw hB hz1 hk1 hS => ?_)
          obtain ⟨hP, -, hD9⟩ := hB
          rw [ht] at hP
          have hD := hD9.weaken (B := A) (fun _ q _ h => hF_57 q.1 h)
          have hP : va_P (dC, dI) vwCl (cb_W a k (fd1 T (dON i)) (c_sl (fd1 T (dON i))) (c_pt (fd1 T (dON i))) (c_at (fd1 T (dON i)))) H_57 := hP
          have hD : va_D A (cb_W a k (fd1 T (dON i)) (c_sl (fd1 T (dON i))) (c_pt (fd1 T (dON i))) (c_at (fd1 T (dON i)))) := hD
          have hw_57 := hw
          refine lv_iinc (v := nI (i + 1)) (lv' := [(1, .int (nI (i + 1))), (2, .int (nI (dON i))), (0, .ref (a 0))]) hx hb dX5_findDuties_60 hl (k := 2) rfl (nI_1 _) (by decide) rfl (fun ls hl => ?_)
          refine lv_goto (tgt := 2) hx hb dX5_findDuties_63 (by decide) ?_
          exact ih_2 (i + 1) (fd1 T (dON i)) (by omega) (by omega) (inv_fd1 hJ) (fdF_t hTe c_29) H_57 L_57_ hP hD hS ls (lv_sub hl [2, 0] rfl)
  exact L_2 (5 + 1) 0 S (by omega) (by omega) hI rfl s.heap [] hP hD hS ls (lv_sub hl [1, 0] rfl)
abbrev rm_X5_digest : Room := { frames := 4, cells := 0, slots := 0, locals := 96 }
end CBM
