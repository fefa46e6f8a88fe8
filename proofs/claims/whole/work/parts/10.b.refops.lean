section CBM
abbrev rm_X6_addPatrol : Room := { frames := 1, cells := 0, slots := 0, locals := 21 }
set_option maxHeartbeats 4000000 in
set_option maxRecDepth 100000 in
theorem c_X6_addPatrol (l : Launch) (dC : Nat → ClassId) (dI : Nat → Nat → Nat) (a : Nat → Nat) (k : Nat → ClassId) (S : cs_S) (th : Nat) (sz : Nat) (hI : Inv S) : Met l yX6_addPatrol wsX6_addPatrol rm_X6_addPatrol (va_Pc [.ref (a 0)] (cT dC dI sz (mb_w a k S th) (mb_ty k))) (va_Qi (fun (r : Int32) (_ : Unit) => (k_addPatrol S = 0 → r = nI (c_np S))) (fun _ t => cB dC dI (va_A (mb_w a k S th) sz) (mb_w a k (kS (k_addPatrol S) (S_addPatrol S) S) (k_addPatrol S)) (mb_ty k) t) (va_A (mb_w a k S th) sz)) 0 0 (va_A (mb_w a k S th) sz) := by
  refine Met.ofW (cc := cX6_addPatrol) (maxL := 1) (ret := (some .int)) (by decide) rfl ?_
  intro p e s m args below meth c s₁ B hml hv
  obtain ⟨rfl, hsz, hP, hK, hD0⟩ := hv
  have hx := B.exec
  have hb := B.bytes
  have hr := B.returns
  have hts := atoms_spec (ws := wsX6_addPatrol) B.pre
  have hown : s.vm.findClass RX6 = some m.cls := findClass_of_methodNamed B.named
  have hlocks := B.notSynchronized
  subst hsz
  have hD := hD0.self (sz := s.heap.size)
  generalize hAe : va_A (mb_w a k S th) s.heap.size = A at hD ⊢
  have hA : ∀ q : Nat, s.heap.size ≤ q → A q := fun q h => by rw [← hAe]; exact Or.inr h
  have hS : va_S A s.heap s.heap [] := va_S.rf
  obtain ⟨Q, hQ⟩ : ∃ Q, Q = MQ below (va_Qi (fun (r : Int32) (_ : Unit) => (k_addPatrol S = 0 → r = nI (c_np S))) (fun _ t => cB dC dI A (mb_w a k (kS (k_addPatrol S) (S_addPatrol S) S) (k_addPatrol S)) (mb_ty k) t) A) ([.ref (a 0)] : List Value).toArray s 0 0 A := ⟨_, rfl⟩
  show W p l e rm_X6_addPatrol s m _ below meth c s.heap [] 0 0 (MQ below _ _ _ _ _ _) _
  rw [← hQ]
  have i_X6 : ∀ w ∈ wsX60, w ∈ wsX6_addPatrol := fun w h => List.mem_cons_of_mem _ (List.mem_append_right _ h)
  obtain ⟨⟨hday, hnp, hns, hnt, hnf, hnm, hnb, hme⟩, hpat, hage, hten, hcnt, hplc, heat, hned, hhld, hbad, hbad0, hbag⟩ := id hI
  have f_0 := hts (.fieldLink RX6 53 "CampBookModel" "thrown" "I") (by decide +kernel)
  have f_1 := hts (.fieldLink RX6 57 "CampBookModel" "patrols" "I") (by decide +kernel)
  have hl := lv_entry ([.ref (a 0)]) (n := 1) (Nat.le_of_ble_eq_true rfl)
  rw [lg_entry_eq]
  generalize (lg_sl ([.ref (a 0)]) ++ List.replicate (1 - (lg_sl ([.ref (a 0)])).length) Slot.unset).toArray = ls at hl ⊢
  have hl : lv_has ls 1 [(0, .ref (a 0))] := hl
  refine lv_aload_n hx hb dX6_addPatrol_0 rfl (lv_at hl 0 rfl) ?_
  refine lv_iconst (v := nI 0) hx hb dX6_addPatrol_1 (by decide) ?_
  refine va_put (D := (dC, dI)) (ci := 6) (v := .int (nI 0)) (ty := .int) (C := RX6) (T := TX6) (N := 23) hx hb hts i_X6 tyX6 tyX6_ok nmX6 hown hK hP hD hS 0 rfl rfl 0 (by decide) f_0 (fun _ h9 => h9) rfl (by decide +kernel) rfl rfl (Nat.le_of_ble_eq_true rfl) dX6_addPatrol_2 (fun H locs hP hD hS => ?_)
  rw [wsM_TH] at hP hD
  have hP : va_P (dC, dI) vwCl (mb_w a k S 0) H := hP
  have hD : va_D A (mb_w a k S 0) := hD
  refine lv_aload_n hx hb dX6_addPatrol_5 rfl (lv_at hl 0 rfl) ?_
  refine va_get (D := (dC, dI)) (ci := 6) (v := .int (nI (c_np S))) (C := RX6) (T := TX6) (N := 23) hx hb hts i_X6 hown hK hP 0 rfl rfl 2 (by decide) f_1 (fun _ h9 => h9) rfl dX6_addPatrol_6 ?_
  refine lv_bipush (v := nI 6) hx hb dX6_addPatrol_9 (by decide) ?_
  refine lv_icmp_ne (tgt := 20) hx hb dX6_addPatrol_11 (by decide) (fun c_11 => ?_) (fun c_11 => ?_)
  · have c_11 : (c_np S) ≠ 6 := cb_ne (by omega) (by omega) c_11
    have hq : c_np S < 6 := by omega
    refine lv_aload_n hx hb dX6_addPatrol_20 rfl (lv_at hl 0 rfl) ?_
    refine lv_dup hx hb dX6_addPatrol_21 rfl ?_
    refine va_get (D := (dC, dI)) (ci := 6) (v := .int (nI (c_np S))) (C := RX6) (T := TX6) (N := 23) hx hb hts i_X6 hown hK hP 0 rfl rfl 2 (by decide) f_1 (fun _ h9 => h9) rfl dX6_addPatrol_22 ?_
    refine lv_iconst (v := nI 1) hx hb dX6_addPatrol_25 (by decide) ?_
    refine lv_iadd hx hb dX6_addPatrol_26 ?_
    refine cb_topi (nI_add _ _) ?_
    refine va_put (D := (dC, dI)) (ci := 6) (v := .int (nI ((c_np S) + 1))) (ty := .int) (C := RX6) (T := TX6) (N := 23) hx hb hts i_X6 tyX6 tyX6_ok nmX6 hown hK hP hD hS 0 rfl rfl 2 (by decide) f_1 (fun _ h9 => h9) rfl (by decide +kernel) rfl rfl (Nat.le_of_ble_eq_true rfl) dX6_addPatrol_27 (fun H locs hP hD hS => ?_)
    rw [wsM_np] at hP hD
    have hP : va_P (dC, dI) vwCl (mb_w a k (s_np S ((c_np S) + 1)) 0) H := hP
    have hD : va_D A (mb_w a k (s_np S ((c_np S) + 1)) 0) := hD
    refine lv_aload_n hx hb dX6_addPatrol_30 rfl (lv_at hl 0 rfl) ?_
    refine va_get (D := (dC, dI)) (ci := 6) (v := .int (nI ((c_np S) + 1))) (C := RX6) (T := TX6) (N := 23) hx hb hts i_X6 hown hK hP 0 rfl rfl 2 (by decide) f_1 (fun _ h9 => h9) rfl dX6_addPatrol_31 ?_
    refine lv_iconst (v := nI 1) hx hb dX6_addPatrol_34 (by decide) ?_
    refine lv_isub hx hb dX6_addPatrol_35 ?_
    have hk9 : k_addPatrol S = 0 := by simp only [k_addPatrol, hq, if_true, if_false, Bool.false_eq_true, true_or, or_true, false_or, or_false, reduceCtorEq]
    have ew : (mb_w a k (s_np S ((c_np S) + 1)) 0) = (mb_w a k (kS (k_addPatrol S) (S_addPatrol S) S) (k_addPatrol S)) := (by rw [hk9, kS_0, S_addPatrol]; first | done | rfl)
    have hP : va_P (dC, dI) vwCl (mb_w a k (kS (k_addPatrol S) (S_addPatrol S) S) (k_addPatrol S)) H := by rw [← ew]; exact hP
    have hD : va_D A (mb_w a k (kS (k_addPatrol S) (S_addPatrol S) S) (k_addPatrol S)) := by rw [← ew]; exact hD
    rw [hQ]
    refine W.widen (k := 0) (n := 0) (by omega) (by omega) ?_
    exact W.iret (v := (nI ((c_np S) + 1)) - (nI 1)) hx hb hr (fun t9 ht9 hW9 => ⟨⟨(nI ((c_np S) + 1)) - (nI 1), (), rfl, (fun _ => by rw [pk_sub (by omega)]; rfl), cB_of hP hK hD ht9 hW9⟩, hS.F ht9⟩) hS.2.2 dX6_addPatrol_36
  · have c_11 : (c_np S) = 6 := cb_nne (by omega) (by omega) c_11
    have hq : ¬ c_np S < 6 := by omega
    refine lv_aload_n hx hb dX6_addPatrol_14 rfl (lv_at hl 0 rfl) ?_
    refine lv_iconst (v := nI 1) hx hb dX6_addPatrol_15 (by decide) ?_
    have hF_16 : ∀ q, va_A (mb_w a k S 0) H.size q → A q := va_free hD hS hA [0, 1, 2, 3, 4, 5, 6, 7, 8, 9, 10, 11, 12, 13, 14] rfl
    refine va_calli (va_runV (As := [.int (nI 1)]) (rest := []) ⟨hx, hb, hml, hown, hts⟩ (c_X6_no l dC dI a k S 0 H.size 1) (cwV 1 hts gX6_addPatrol_X6_no rfl rfl rfl (by decide +kernel) ⟨(Nat.le_of_ble_eq_true rfl), (Nat.le_of_ble_eq_true rfl)⟩) ⟨cT_blind, va_recv hK hP (ci := 6) (q0 := 0) rfl rfl, fun U hU hW => ⟨rfl, cT_of hK hP hD hU hW⟩⟩ rfl rfl hl.1 rfl (lv_room (Nat.le_of_ble_eq_true rfl)) dX6_addPatrol_16 ⟨(by show 0 + 0 ≤ 0; omega), (by show 0 + 0 ≤ 0; omega)⟩) hS (fun q _ h => hF_16 q h) hF_16 (fun r_16 u8 t8 H_16 L_16_ ht hvm hw hB hz1 hk1 hS => ?_)
    obtain ⟨hP, -, hD9⟩ := hB
    rw [ht] at hP
    have hD := hD9.weaken (B := A) (fun _ q _ h => hF_16 q.1 h)
    have hP : va_P (dC, dI) vwCl (mb_w a k S 1) H_16 := hP
    have hD : va_D A (mb_w a k S 1) := hD
    subst hw
    have hk9 : k_addPatrol S = 1 := by simp only [k_addPatrol, hq, if_true, if_false, Bool.false_eq_true, true_or, or_true, false_or, or_false, reduceCtorEq]
    have ew : (mb_w a k S 1) = (mb_w a k (kS (k_addPatrol S) (S_addPatrol S) S) (k_addPatrol S)) := (by rw [hk9]; first | done | rfl)
    have hP : va_P (dC, dI) vwCl (mb_w a k (kS (k_addPatrol S) (S_addPatrol S) S) (k_addPatrol S)) H_16 := by rw [← ew]; exact hP
    have hD : va_D A (mb_w a k (kS (k_addPatrol S) (S_addPatrol S) S) (k_addPatrol S)) := by rw [← ew]; exact hD
    rw [hQ]
    refine W.widen (k := 0) (n := 0) (by omega) (by omega) ?_
    exact W.iret (v := nI 0) hx hb hr (fun t9 ht9 hW9 => ⟨⟨nI 0, (), rfl, (fun h => absurd (hk9.symm.trans h) (by decide)), cB_of hP hK hD ht9 hW9⟩, hS.F ht9⟩) hS.2.2 dX6_addPatrol_19
abbrev rm_X6_addScout : Room := { frames := 2, cells := 0, slots := 0, locals := 43 }
set_option maxHeartbeats 4000000 in
set_option maxRecDepth 100000 in
theorem c_X6_addScout (l : Launch) (dC : Nat → ClassId) (dI : Nat → Nat → Nat) (a : Nat → Nat) (k : Nat → ClassId) (S : cs_S) (th : Nat) (sz : Nat) (x0 : Int32) (x1 : Int32) (x2 : Int32) (hI : Inv S) : Met l yX6_addScout wsX6_addScout rm_X6_addScout (va_Pc [.ref (a 0), .int x0, .int x1, .int x2] (cT dC dI sz (mb_w a k S th) (mb_ty k))) (va_Qi (fun (r : Int32) (_ : Unit) => (k_addScout S x0 x1 x2 = 0 → r = nI (c_ns S))) (fun _ t => cB dC dI (va_A (mb_w a k S th) sz) (mb_w a k (kS (k_addScout S x0 x1 x2) (S_addScout S x0 x1 x2) S) (k_addScout S x0 x1 x2)) (mb_ty k) t) (va_A (mb_w a k S th) sz)) 0 0 (va_A (mb_w a k S th) sz) := by
  refine Met.ofW (cc := cX6_addScout) (maxL := 4) (ret := (some .int)) (by decide) rfl ?_
  intro p e s m args below meth c s₁ B hml hv
  obtain ⟨rfl, hsz, hP, hK, hD0⟩ := hv
  have hx := B.exec
  have hb := B.bytes
  have hr := B.returns
  have hts := atoms_spec (ws := wsX6_addScout) B.pre
  have hown : s.vm.findClass RX6 = some m.cls := findClass_of_methodNamed B.named
  have hlocks := B.notSynchronized
  subst hsz
  have hD := hD0.self (sz := s.heap.size)
  generalize hAe : va_A (mb_w a k S th) s.heap.size = A at hD ⊢
  have hA : ∀ q : Nat, s.heap.size ≤ q → A q := fun q h => by rw [← hAe]; exact Or.inr h
  have hS : va_S A s.heap s.heap [] := va_S.rf
  obtain ⟨Q, hQ⟩ : ∃ Q, Q = MQ below (va_Qi (fun (r : Int32) (_ : Unit) => (k_addScout S x0 x1 x2 = 0 → r = nI (c_ns S))) (fun _ t => cB dC dI A (mb_w a k (kS (k_addScout S x0 x1 x2) (S_addScout S x0 x1 x2) S) (k_addScout S x0 x1 x2)) (mb_ty k) t) A) ([.ref (a 0), .int x0, .int x1, .int x2] : List Value).toArray s 0 0 A := ⟨_, rfl⟩
  show W p l e rm_X6_addScout s m _ below meth c s.heap [] 0 0 (MQ below _ _ _ _ _ _) _
  rw [← hQ]
  have i_X6 : ∀ w ∈ wsX60, w ∈ wsX6_addScout := fun w h => List.mem_cons_of_mem _ (List.mem_append_right _ h)
  obtain ⟨⟨hday, hnp, hns, hnt, hnf, hnm, hnb, hme⟩, hpat, hage, hten, hcnt, hplc, heat, hned, hhld, hbad, hbad0, hbag⟩ := id hI
  have f_0 := hts (.fieldLink RX6 53 "CampBookModel" "thrown" "I") (by decide +kernel)
  have f_1 := hts (.fieldLink RX6 64 "CampBookModel" "scouts" "I") (by decide +kernel)
  have f_2 := hts (.fieldLink RX6 9 "CampBookModel" "patrolOf" "[I") (by decide +kernel)
  have f_3 := hts (.fieldLink RX6 13 "CampBookModel" "ages" "[I") (by decide +kernel)
  have f_4 := hts (.fieldLink RX6 16 "CampBookModel" "skills" "[I") (by decide +kernel)
  have f_5 := hts (.fieldLink RX6 22 "CampBookModel" "tentOf" "[I") (by decide +kernel)
  have hl := lv_entry ([.ref (a 0), .int x0, .int x1, .int x2]) (n := 4) (Nat.le_of_ble_eq_true rfl)
  rw [lg_entry_eq]
  generalize (lg_sl ([.ref (a 0), .int x0, .int x1, .int x2]) ++ List.replicate (4 - (lg_sl ([.ref (a 0), .int x0, .int x1, .int x2])).length) Slot.unset).toArray = ls at hl ⊢
  have hl : lv_has ls 4 [(0, .ref (a 0)), (1, .int x0), (2, .int x1), (3, .int x2)] := hl
  refine lv_aload_n hx hb dX6_addScout_0 rfl (lv_at hl 0 rfl) ?_
  refine lv_iconst (v := nI 0) hx hb dX6_addScout_1 (by decide) ?_
  refine va_put (D := (dC, dI)) (ci := 6) (v := .int (nI 0)) (ty := .int) (C := RX6) (T := TX6) (N := 23) hx hb hts i_X6 tyX6 tyX6_ok nmX6 hown hK hP hD hS 0 rfl rfl 0 (by decide) f_0 (fun _ h9 => h9) rfl (by decide +kernel) rfl rfl (Nat.le_of_ble_eq_true rfl) dX6_addScout_2 (fun H locs hP hD hS => ?_)
  rw [wsM_TH] at hP hD
  have hP : va_P (dC, dI) vwCl (mb_w a k S 0) H := hP
  have hD : va_D A (mb_w a k S 0) := hD
  refine lv_aload_n hx hb dX6_addScout_5 rfl (lv_at hl 0 rfl) ?_
  refine lv_iload_n hx hb dX6_addScout_6 rfl (lv_at hl 1 rfl) ?_
  refine vp_callSi (W.runV (As := [.int x0]) (rest := []) ⟨hx, hb, hml, hown, hts⟩ (c_X6_isPatrol l dC dI a k S 0 x0 hI) (cwV 1 hts gX6_addScout_X6_isPatrol rfl rfl rfl (by decide +kernel) ⟨(Nat.le_of_ble_eq_true rfl), (Nat.le_of_ble_eq_true rfl)⟩) ⟨cR_blind, va_recv hK hP (ci := 6) (q0 := 0) rfl rfl, fun U hU hW => ⟨rfl, cR_of hK hP hU hW⟩⟩ rfl rfl hl.1 rfl (lv_room (Nat.le_of_ble_eq_true rfl)) dX6_addScout_7 ⟨(by show 0 + 0 ≤ 0; omega), (by show 0 + 0 ≤ 0; omega)⟩) (fun r er => ?_)
  subst er
  refine lv_if_ne (tgt := 19) hx hb dX6_addScout_10 (by decide) (fun c_10 => ?_) (fun c_10 => ?_)
  · have c_10 : (ix x0 (c_np S)) = true := bI_n c_10
    refine lv_iload_n hx hb dX6_addScout_19 rfl (lv_at hl 2 rfl) ?_
    refine lv_bipush (v := nI 6) hx hb dX6_addScout_20 (by decide) ?_
    refine lv_bipush (v := nI 17) hx hb dX6_addScout_22 (by decide) ?_
    refine vp_callSi (W.runS (As := [.int x1, .int (nI 6), .int (nI 17)]) (rest := []) ⟨hx, hb, hml, hown, hts⟩ (c_X6_isIn l x1 (nI 6) (nI 17)) (va_cwS 3 hts gX6_addScout_X6_isIn rfl rfl rfl (by decide +kernel) ⟨(Nat.le_of_ble_eq_true rfl), (Nat.le_of_ble_eq_true rfl)⟩) ⟨cN_blind, fun U hU hW => ⟨rfl, trivial⟩⟩ rfl rfl hl.1 rfl (lv_room (Nat.le_of_ble_eq_true rfl)) dX6_addScout_24 ⟨(by show 0 + 0 ≤ 0; omega), (by show 0 + 0 ≤ 0; omega)⟩) (fun r er => ?_)
    subst er
    refine lv_if_eq (tgt := 41) hx hb dX6_addScout_27 (by decide) (fun c_27 => ?_) (fun c_27 => ?_)
    · have c_27 : (inR x1 (nI 6) (nI 17)) = false := bI_0 c_27
      refine lv_aload_n hx hb dX6_addScout_41 rfl (lv_at hl 0 rfl) ?_
      refine lv_iconst (v := nI 2) hx hb dX6_addScout_42 (by decide) ?_
      have hF_43 : ∀ q, va_A (mb_w a k S 0) H.size q → A q := va_free hD hS hA [0, 1, 2, 3, 4, 5, 6, 7, 8, 9, 10, 11, 12, 13, 14] rfl
      refine va_calli (va_runV (As := [.int (nI 2)]) (rest := []) ⟨hx, hb, hml, hown, hts⟩ (c_X6_no l dC dI a k S 0 H.size 2) (cwV 1 hts gX6_addScout_X6_no rfl rfl rfl (by decide +kernel) ⟨(Nat.le_of_ble_eq_true rfl), (Nat.le_of_ble_eq_true rfl)⟩) ⟨cT_blind, va_recv hK hP (ci := 6) (q0 := 0) rfl rfl, fun U hU hW => ⟨rfl, cT_of hK hP hD hU hW⟩⟩ rfl rfl hl.1 rfl (lv_room (Nat.le_of_ble_eq_true rfl)) dX6_addScout_43 ⟨(by show 0 + 0 ≤ 0; omega), (by show 0 + 0 ≤ 0; omega)⟩) hS (fun q _ h => hF_43 q h) hF_43 (fun r_43 u8 t8 H_43 L_43_ ht hvm hw hB hz1 hk1 hS => ?_)
      obtain ⟨hP, -, hD9⟩ := hB
      rw [ht] at hP
      have hD := hD9.weaken (B := A) (fun _ q _ h => hF_43 q.1 h)
      have hP : va_P (dC, dI) vwCl (mb_w a k S 2) H_43 := hP
      have hD : va_D A (mb_w a k S 2) := hD
      subst hw
      have hk9 : k_addScout S x0 x1 x2 = 2 := by simp only [k_addScout, c_10, c_27, if_true, if_false, Bool.false_eq_true, true_or, or_true, false_or, or_false, reduceCtorEq]
      have ew : (mb_w a k S 2) = (mb_w a k (kS (k_addScout S x0 x1 x2) (S_addScout S x0 x1 x2) S) (k_addScout S x0 x1 x2)) := (by rw [hk9]; first | done | rfl)
      have hP : va_P (dC, dI) vwCl (mb_w a k (kS (k_addScout S x0 x1 x2) (S_addScout S x0 x1 x2) S) (k_addScout S x0 x1 x2)) H_43 := by rw [← ew]; exact hP
      have hD : va_D A (mb_w a k (kS (k_addScout S x0 x1 x2) (S_addScout S x0 x1 x2) S) (k_addScout S x0 x1 x2)) := by rw [← ew]; exact hD
      rw [hQ]
      refine W.widen (k := 0) (n := 0) (by omega) (by omega) ?_
      exact W.iret (v := nI 0) hx hb hr (fun t9 ht9 hW9 => ⟨⟨nI 0, (), rfl, (fun h => absurd (hk9.symm.trans h) (by decide)), cB_of hP hK hD ht9 hW9⟩, hS.F ht9⟩) hS.2.2 dX6_addScout_46
    · have c_27 : (inR x1 (nI 6) (nI 17)) = true := bI_n c_27
      refine lv_iload_n hx hb dX6_addScout_30 rfl (lv_at hl 3 rfl) ?_
      refine lv_iconst (v := nI 0) hx hb dX6_addScout_31 (by decide) ?_
      refine lv_sipush (v := nI 255) hx hb dX6_addScout_32 (by decide) ?_
      refine vp_callSi (W.runS (As := [.int x2, .int (nI 0), .int (nI 255)]) (rest := []) ⟨hx, hb, hml, hown, hts⟩ (c_X6_isIn l x2 (nI 0) (nI 255)) (va_cwS 3 hts gX6_addScout_X6_isIn rfl rfl rfl (by decide +kernel) ⟨(Nat.le_of_ble_eq_true rfl), (Nat.le_of_ble_eq_true rfl)⟩) ⟨cN_blind, fun U hU hW => ⟨rfl, trivial⟩⟩ rfl rfl hl.1 rfl (lv_room (Nat.le_of_ble_eq_true rfl)) dX6_addScout_35 ⟨(by show 0 + 0 ≤ 0; omega), (by show 0 + 0 ≤ 0; omega)⟩) (fun r er => ?_)
      subst er
      refine lv_if_ne (tgt := 47) hx hb dX6_addScout_38 (by decide) (fun c_38 => ?_) (fun c_38 => ?_)
      · have c_38 : (inR x2 (nI 0) (nI 255)) = true := bI_n c_38
        refine lv_aload_n hx hb dX6_addScout_47 rfl (lv_at hl 0 rfl) ?_
        refine va_get (D := (dC, dI)) (ci := 6) (v := .int (nI (c_ns S))) (C := RX6) (T := TX6) (N := 23) hx hb hts i_X6 hown hK hP 0 rfl rfl 3 (by decide) f_1 (fun _ h9 => h9) rfl dX6_addScout_48 ?_
        refine lv_bipush (v := nI 30) hx hb dX6_addScout_51 (by decide) ?_
        refine lv_icmp_ne (tgt := 62) hx hb dX6_addScout_53 (by decide) (fun c_53 => ?_) (fun c_53 => ?_)
        · have c_53 : (c_ns S) ≠ 30 := cb_ne (by omega) (by omega) c_53
          have hq : c_ns S < 30 := by omega
          refine lv_aload_n hx hb dX6_addScout_62 rfl (lv_at hl 0 rfl) ?_
          refine va_get (D := (dC, dI)) (ci := 6) (v := .ref (a 1)) (C := RX6) (T := TX6) (N := 23) hx hb hts i_X6 hown hK hP 0 rfl rfl 4 (by decide) f_2 (fun _ h9 => h9) rfl dX6_addScout_63 ?_
          refine lv_aload_n hx hb dX6_addScout_66 rfl (lv_at hl 0 rfl) ?_
          refine va_get (D := (dC, dI)) (ci := 6) (v := .int (nI (c_ns S))) (C := RX6) (T := TX6) (N := 23) hx hb hts i_X6 hown hK hP 0 rfl rfl 3 (by decide) f_1 (fun _ h9 => h9) rfl dX6_addScout_67 ?_
          refine lv_iload_n hx hb dX6_addScout_70 rfl (lv_at hl 1 rfl) ?_
          refine cb_iast hx hb hK hP hD hS 1 0 (f := c_pat S) rfl rfl (j := c_ns S) (by omega) (Nat.le_of_ble_eq_true rfl) dX6_addScout_71 (fun H locs hP hD hS => ?_)
          rw [wsM_pat] at hP hD
          have hP : va_P (dC, dI) vwCl (mb_w a k (s_pat S (upd (c_pat S) (c_ns S) x0)) 0) H := hP
          have hD : va_D A (mb_w a k (s_pat S (upd (c_pat S) (c_ns S) x0)) 0) := hD
          refine lv_aload_n hx hb dX6_addScout_72 rfl (lv_at hl 0 rfl) ?_
          refine va_get (D := (dC, dI)) (ci := 6) (v := .ref (a 2)) (C := RX6) (T := TX6) (N := 23) hx hb hts i_X6 hown hK hP 0 rfl rfl 5 (by decide) f_3 (fun _ h9 => h9) rfl dX6_addScout_73 ?_
          refine lv_aload_n hx hb dX6_addScout_76 rfl (lv_at hl 0 rfl) ?_
          refine va_get (D := (dC, dI)) (ci := 6) (v := .int (nI (c_ns S))) (C := RX6) (T := TX6) (N := 23) hx hb hts i_X6 hown hK hP 0 rfl rfl 3 (by decide) f_1 (fun _ h9 => h9) rfl dX6_addScout_77 ?_
          refine lv_iload_n hx hb dX6_addScout_80 rfl (lv_at hl 2 rfl) ?_
          refine cb_iast hx hb hK hP hD hS 2 1 (f := c_age S) rfl rfl (j := c_ns S) (by omega) (Nat.le_of_ble_eq_true rfl) dX6_addScout_81 (fun H locs hP hD hS => ?_)
          rw [wsM_age] at hP hD
          have hP : va_P (dC, dI) vwCl (mb_w a k (s_age (s_pat S (upd (c_pat S) (c_ns S) x0)) (upd (c_age S) (c_ns S) x1)) 0) H := hP
          have hD : va_D A (mb_w a k (s_age (s_pat S (upd (c_pat S) (c_ns S) x0)) (upd (c_age S) (c_ns S) x1)) 0) := hD
          refine lv_aload_n hx hb dX6_addScout_82 rfl (lv_at hl 0 rfl) ?_
          refine va_get (D := (dC, dI)) (ci := 6) (v := .ref (a 3)) (C := RX6) (T := TX6) (N := 23) hx hb hts i_X6 hown hK hP 0 rfl rfl 6 (by decide) f_4 (fun _ h9 => h9) rfl dX6_addScout_83 ?_
          refine lv_aload_n hx hb dX6_addScout_86 rfl (lv_at hl 0 rfl) ?_
          refine va_get (D := (dC, dI)) (ci := 6) (v := .int (nI (c_ns S))) (C := RX6) (T := TX6) (N := 23) hx hb hts i_X6 hown hK hP 0 rfl rfl 3 (by decide) f_1 (fun _ h9 => h9) rfl dX6_addScout_87 ?_
          refine lv_iload_n hx hb dX6_addScout_90 rfl (lv_at hl 3 rfl) ?_
          refine cb_iast hx hb hK hP hD hS 3 2 (f := c_skl S) rfl rfl (j := c_ns S) (by omega) (Nat.le_of_ble_eq_true rfl) dX6_addScout_91 (fun H locs hP hD hS => ?_)
          rw [wsM_skl] at hP hD
          have hP : va_P (dC, dI) vwCl (mb_w a k (s_skl (s_age (s_pat S (upd (c_pat S) (c_ns S) x0)) (upd (c_age S) (c_ns S) x1)) (upd (c_skl S) (c_ns S) x2)) 0) H := hP
          have hD : va_D A (mb_w a k (s_skl (s_age (s_pat S (upd (c_pat S) (c_ns S) x0)) (upd (c_age S) (c_ns S) x1)) (upd (c_skl S) (c_ns S) x2)) 0) := hD
          refine lv_aload_n hx hb dX6_addScout_92 rfl (lv_at hl 0 rfl) ?_
          refine va_get (D := (dC, dI)) (ci := 6) (v := .ref (a 5)) (C := RX6) (T := TX6) (N := 23) hx hb hts i_X6 hown hK hP 0 rfl rfl 8 (by decide) f_5 (fun _ h9 => h9) rfl dX6_addScout_93 ?_
          refine lv_aload_n hx hb dX6_addScout_96 rfl (lv_at hl 0 rfl) ?_
          refine va_get (D := (dC, dI)) (ci := 6) (v := .int (nI (c_ns S))) (C := RX6) (T := TX6) (N := 23) hx hb hts i_X6 hown hK hP 0 rfl rfl 3 (by decide) f_1 (fun _ h9 => h9) rfl dX6_addScout_97 ?_
          refine lv_iconst (v := (-1)) hx hb dX6_addScout_100 (by decide) ?_
          refine cb_iast hx hb hK hP hD hS 5 4 (f := c_ten S) rfl rfl (j := c_ns S) (by omega) (Nat.le_of_ble_eq_true rfl) dX6_addScout_101 (fun H locs hP hD hS => ?_)
          rw [wsM_ten] at hP hD
          have hP : va_P (dC, dI) vwCl (mb_w a k (s_ten (s_skl (s_age (s_pat S (upd (c_pat S) (c_ns S) x0)) (upd (c_age S) (c_ns S) x1)) (upd (c_skl S) (c_ns S) x2)) (upd (c_ten S) (c_ns S) (-1))) 0) H := hP
          have hD : va_D A (mb_w a k (s_ten (s_skl (s_age (s_pat S (upd (c_pat S) (c_ns S) x0)) (upd (c_age S) (c_ns S) x1)) (upd (c_skl S) (c_ns S) x2)) (upd (c_ten S) (c_ns S) (-1))) 0) := hD
          refine lv_aload_n hx hb dX6_addScout_102 rfl (lv_at hl 0 rfl) ?_
          refine lv_dup hx hb dX6_addScout_103 rfl ?_
          refine va_get (D := (dC, dI)) (ci := 6) (v := .int (nI (c_ns S))) (C := RX6) (T := TX6) (N := 23) hx hb hts i_X6 hown hK hP 0 rfl rfl 3 (by decide) f_1 (fun _ h9 => h9) rfl dX6_addScout_104 ?_
          refine lv_iconst (v := nI 1) hx hb dX6_addScout_107 (by decide) ?_
          refine lv_iadd hx hb dX6_addScout_108 ?_
          refine cb_topi (nI_add _ _) ?_
          refine va_put (D := (dC, dI)) (ci := 6) (v := .int (nI ((c_ns S) + 1))) (ty := .int) (C := RX6) (T := TX6) (N := 23) hx hb hts i_X6 tyX6 tyX6_ok nmX6 hown hK hP hD hS 0 rfl rfl 3 (by decide) f_1 (fun _ h9 => h9) rfl (by decide +kernel) rfl rfl (Nat.le_of_ble_eq_true rfl) dX6_addScout_109 (fun H locs hP hD hS => ?_)
          rw [wsM_ns] at hP hD
          have hP : va_P (dC, dI) vwCl (mb_w a k (s_ns (s_ten (s_skl (s_age (s_pat S (upd (c_pat S) (c_ns S) x0)) (upd (c_age S) (c_ns S) x1)) (upd (c_skl S) (c_ns S) x2)) (upd (c_ten S) (c_ns S) (-1))) ((c_ns S) + 1)) 0) H := hP
          have hD : va_D A (mb_w a k (s_ns (s_ten (s_skl (s_age (s_pat S (upd (c_pat S) (c_ns S) x0)) (upd (c_age S) (c_ns S) x1)) (upd (c_skl S) (c_ns S) x2)) (upd (c_ten S) (c_ns S) (-1))) ((c_ns S) + 1)) 0) := hD
          refine lv_aload_n hx hb dX6_addScout_112 rfl (lv_at hl 0 rfl) ?_
          refine va_get (D := (dC, dI)) (ci := 6) (v := .int (nI ((c_ns S) + 1))) (C := RX6) (T := TX6) (N := 23) hx hb hts i_X6 hown hK hP 0 rfl rfl 3 (by decide) f_1 (fun _ h9 => h9) rfl dX6_addScout_113 ?_
          refine lv_iconst (v := nI 1) hx hb dX6_addScout_116 (by decide) ?_
          refine lv_isub hx hb dX6_addScout_117 ?_
          have hk9 : k_addScout S x0 x1 x2 = 0 := by simp only [k_addScout, c_10, c_27, c_38, hq, if_true, if_false, Bool.false_eq_true, true_or, or_true, false_or, or_false, reduceCtorEq]
          have ew : (mb_w a k (s_ns (s_ten (s_skl (s_age (s_pat S (upd (c_pat S) (c_ns S) x0)) (upd (c_age S) (c_ns S) x1)) (upd (c_skl S) (c_ns S) x2)) (upd (c_ten S) (c_ns S) (-1))) ((c_ns S) + 1)) 0) = (mb_w a k (kS (k_addScout S x0 x1 x2) (S_addScout S x0 x1 x2) S) (k_addScout S x0 x1 x2)) := (by rw [hk9, kS_0, S_addScout, ss_nsten]; first | done | rfl)
          have hP : va_P (dC, dI) vwCl (mb_w a k (kS (k_addScout S x0 x1 x2) (S_addScout S x0 x1 x2) S) (k_addScout S x0 x1 x2)) H := by rw [← ew]; exact hP
          have hD : va_D A (mb_w a k (kS (k_addScout S x0 x1 x2) (S_addScout S x0 x1 x2) S) (k_addScout S x0 x1 x2)) := by rw [← ew]; exact hD
          rw [hQ]
          refine W.widen (k := 0) (n := 0) (by omega) (by omega) ?_
          exact W.iret (v := (nI ((c_ns S) + 1)) - (nI 1)) hx hb hr (fun t9 ht9 hW9 => ⟨⟨(nI ((c_ns S) + 1)) - (nI 1), (), rfl, (fun _ => by rw [pk_sub (by omega)]; rfl), cB_of hP hK hD ht9 hW9⟩, hS.F ht9⟩) hS.2.2 dX6_addScout_118
        · have c_53 : (c_ns S) = 30 := cb_nne (by omega) (by omega) c_53
          have hq : ¬ c_ns S < 30 := by omega
          refine lv_aload_n hx hb dX6_addScout_56 rfl (lv_at hl 0 rfl) ?_
          refine lv_iconst (v := nI 3) hx hb dX6_addScout_57 (by decide) ?_
          have hF_58 : ∀ q, va_A (mb_w a k S 0) H.size q → A q := va_free hD hS hA [0, 1, 2, 3, 4, 5, 6, 7, 8, 9, 10, 11, 12, 13, 14] rfl
          refine va_calli (va_runV (As := [.int (nI 3)]) (rest := []) ⟨hx, hb, hml, hown, hts⟩ (c_X6_no l dC dI a k S 0 H.size 3) (cwV 1 hts gX6_addScout_X6_no rfl rfl rfl (by decide +kernel) ⟨(Nat.le_of_ble_eq_true rfl), (Nat.le_of_ble_eq_true rfl)⟩) ⟨cT_blind, va_recv hK hP (ci := 6) (q0 := 0) rfl rfl, fun U hU hW => ⟨rfl, cT_of hK hP hD hU hW⟩⟩ rfl rfl hl.1 rfl (lv_room (Nat.le_of_ble_eq_true rfl)) dX6_addScout_58 ⟨(by show 0 + 0 ≤ 0; omega), (by show 0 + 0 ≤ 0; omega)⟩) hS (fun q _ h => hF_58 q h) hF_58 (fun r_58 u8 t8 H_58 L_58_ ht hvm hw hB hz1 hk1 hS => ?_)
          obtain ⟨hP, -, hD9⟩ := hB
          rw [ht] at hP
          have hD := hD9.weaken (B := A) (fun _ q _ h => hF_58 q.1 h)
          have hP : va_P (dC, dI) vwCl (mb_w a k S 3) H_58 := hP
          have hD : va_D A (mb_w a k S 3) := hD
          subst hw
          have hk9 : k_addScout S x0 x1 x2 = 3 := by simp only [k_addScout, c_10, c_27, c_38, hq, if_true, if_false, Bool.false_eq_true, true_or, or_true, false_or, or_false, reduceCtorEq]
          have ew : (mb_w a k S 3) = (mb_w a k (kS (k_addScout S x0 x1 x2) (S_addScout S x0 x1 x2) S) (k_addScout S x0 x1 x2)) := (by rw [hk9]; first | done | rfl)
          have hP : va_P (dC, dI) vwCl (mb_w a k (kS (k_addScout S x0 x1 x2) (S_addScout S x0 x1 x2) S) (k_addScout S x0 x1 x2)) H_58 := by rw [← ew]; exact hP
          have hD : va_D A (mb_w a k (kS (k_addScout S x0 x1 x2) (S_addScout S x0 x1 x2) S) (k_addScout S x0 x1 x2)) := by rw [← ew]; exact hD
          rw [hQ]
          refine W.widen (k := 0) (n := 0) (by omega) (by omega) ?_
          exact W.iret (v := nI 0) hx hb hr (fun t9 ht9 hW9 => ⟨⟨nI 0, (), rfl, (fun h => absurd (hk9.symm.trans h) (by decide)), cB_of hP hK hD ht9 hW9⟩, hS.F ht9⟩) hS.2.2 dX6_addScout_61
      · have c_38 : (inR x2 (nI 0) (nI 255)) = false := bI_0 c_38
        refine lv_aload_n hx hb dX6_addScout_41 rfl (lv_at hl 0 rfl) ?_
        refine lv_iconst (v := nI 2) hx hb dX6_addScout_42 (by decide) ?_
        have hF_43 : ∀ q, va_A (mb_w a k S 0) H.size q → A q := va_free hD hS hA [0, 1, 2, 3, 4, 5, 6, 7, 8, 9, 10, 11, 12, 13, 14] rfl
        refine va_calli (va_runV (As := [.int (nI 2)]) (rest := []) ⟨hx, hb, hml, hown, hts⟩ (c_X6_no l dC dI a k S 0 H.size 2) (cwV 1 hts gX6_addScout_X6_no rfl rfl rfl (by decide +kernel) ⟨(Nat.le_of_ble_eq_true rfl), (Nat.le_of_ble_eq_true rfl)⟩) ⟨cT_blind, va_recv hK hP (ci := 6) (q0 := 0) rfl rfl, fun U hU hW => ⟨rfl, cT_of hK hP hD hU hW⟩⟩ rfl rfl hl.1 rfl (lv_room (Nat.le_of_ble_eq_true rfl)) dX6_addScout_43 ⟨(by show 0 + 0 ≤ 0; omega), (by show 0 + 0 ≤ 0; omega)⟩) hS (fun q _ h => hF_43 q h) hF_43 (fun r_43 u8 t8 H_43 L_43_ ht hvm hw hB hz1 hk1 hS => ?_)
        obtain ⟨hP, -, hD9⟩ := hB
        rw [ht] at hP
        have hD := hD9.weaken (B := A) (fun _ q _ h => hF_43 q.1 h)
        have hP : va_P (dC, dI) vwCl (mb_w a k S 2) H_43 := hP
        have hD : va_D A (mb_w a k S 2) := hD
        subst hw
        have hk9 : k_addScout S x0 x1 x2 = 2 := by simp only [k_addScout, c_10, c_27, c_38, if_true, if_false, Bool.false_eq_true, true_or, or_true, false_or, or_false, reduceCtorEq]
        have ew : (mb_w a k S 2) = (mb_w a k (kS (k_addScout S x0 x1 x2) (S_addScout S x0 x1 x2) S) (k_addScout S x0 x1 x2)) := (by rw [hk9]; first | done | rfl)
        have hP : va_P (dC, dI) vwCl (mb_w a k (kS (k_addScout S x0 x1 x2) (S_addScout S x0 x1 x2) S) (k_addScout S x0 x1 x2)) H_43 := by rw [← ew]; exact hP
        have hD : va_D A (mb_w a k (kS (k_addScout S x0 x1 x2) (S_addScout S x0 x1 x2) S) (k_addScout S x0 x1 x2)) := by rw [← ew]; exact hD
        rw [hQ]
        refine W.widen (k := 0) (n := 0) (by omega) (by omega) ?_
        exact W.iret (v := nI 0) hx hb hr (fun t9 ht9 hW9 => ⟨⟨nI 0, (), rfl, (fun h => absurd (hk9.symm.trans h) (by decide)), cB_of hP hK hD ht9 hW9⟩, hS.F ht9⟩) hS.2.2 dX6_addScout_46
  · have c_10 : (ix x0 (c_np S)) = false := bI_0 c_10
    refine lv_aload_n hx hb dX6_addScout_13 rfl (lv_at hl 0 rfl) ?_
    refine lv_iconst (v := nI 1) hx hb dX6_addScout_14 (by decide) ?_
    have hF_15 : ∀ q, va_A (mb_w a k S 0) H.size q → A q := va_free hD hS hA [0, 1, 2, 3, 4, 5, 6, 7, 8, 9, 10, 11, 12, 13, 14] rfl
    refine va_calli (va_runV (As := [.int (nI 1)]) (rest := []) ⟨hx, hb, hml, hown, hts⟩ (c_X6_no l dC dI a k S 0 H.size 1) (cwV 1 hts gX6_addScout_X6_no rfl rfl rfl (by decide +kernel) ⟨(Nat.le_of_ble_eq_true rfl), (Nat.le_of_ble_eq_true rfl)⟩) ⟨cT_blind, va_recv hK hP (ci := 6) (q0 := 0) rfl rfl, fun U hU hW => ⟨rfl, cT_of hK hP hD hU hW⟩⟩ rfl rfl hl.1 rfl (lv_room (Nat.le_of_ble_eq_true rfl)) dX6_addScout_15 ⟨(by show 0 + 0 ≤ 0; omega), (by show 0 + 0 ≤ 0; omega)⟩) hS (fun q _ h => hF_15 q h) hF_15 (fun r_15 u8 t8 H_15 L_15_ ht hvm hw hB hz1 hk1 hS => ?_)
    obtain ⟨hP, -, hD9⟩ := hB
    rw [ht] at hP
    have hD := hD9.weaken (B := A) (fun _ q _ h => hF_15 q.1 h)
    have hP : va_P (dC, dI) vwCl (mb_w a k S 1) H_15 := hP
    have hD : va_D A (mb_w a k S 1) := hD
    subst hw
    have hk9 : k_addScout S x0 x1 x2 = 1 := by simp only [k_addScout, c_10, if_true, if_false, Bool.false_eq_true, true_or, or_true, false_or, or_false, reduceCtorEq]
    have ew : (mb_w a k S 1) = (mb_w a k (kS (k_addScout S x0 x1 x2) (S_addScout S x0 x1 x2) S) (k_addScout S x0 x1 x2)) := (by rw [hk9]; first | done | rfl)
    have hP : va_P (dC, dI) vwCl (mb_w a k (kS (k_addScout S x0 x1 x2) (S_addScout S x0 x1 x2) S) (k_addScout S x0 x1 x2)) H_15 := by rw [← ew]; exact hP
    have hD : va_D A (mb_w a k (kS (k_addScout S x0 x1 x2) (S_addScout S x0 x1 x2) S) (k_addScout S x0 x1 x2)) := by rw [← ew]; exact hD
    rw [hQ]
    refine W.widen (k := 0) (n := 0) (by omega) (by omega) ?_
    exact W.iret (v := nI 0) hx hb hr (fun t9 ht9 hW9 => ⟨⟨nI 0, (), rfl, (fun h => absurd (hk9.symm.trans h) (by decide)), cB_of hP hK hD ht9 hW9⟩, hS.F ht9⟩) hS.2.2 dX6_addScout_18
abbrev rm_X6_scout : Room := { frames := 2, cells := 1, slots := 7, locals := 46 }
set_option maxHeartbeats 4000000 in
set_option maxRecDepth 100000 in
theorem c_X6_scout (l : Launch) (dC : Nat → ClassId) (dI : Nat → Nat → Nat) (a : Nat → Nat) (k : Nat → ClassId) (S : cs_S) (th : Nat) (sz : Nat) (x0 : Int32) (x1 : Int32) (hI : Inv S) : Met l yX6_scout wsX6_scout rm_X6_scout (va_Pc [.ref (a 0), .int x0, .int x1] (cT dC dI sz (mb_w a k S th) (mb_ty k))) (va_Qi (fun (r : Int32) (_ : Unit) => (k_scout S x0 x1 = 0 → r = r_scout S x0 x1)) (fun _ t => cB dC dI (va_A (mb_w a k S th) sz) (mb_w a k S (k_scout S x0 x1)) (mb_ty k) t) (va_A (mb_w a k S th) sz)) 1 7 (va_A (mb_w a k S th) sz) := by
  refine Met.ofW (cc := cX6_scout) (maxL := 3) (ret := (some .int)) (by decide) rfl ?_
  intro p e s m args below meth c s₁ B hml hv
  obtain ⟨rfl, hsz, hP, hK, hD0⟩ := hv
  have hx := B.exec
  have hb := B.bytes
  have hr := B.returns
  have hts := atoms_spec (ws := wsX6_scout) B.pre
  have hown : s.vm.findClass RX6 = some m.cls := findClass_of_methodNamed B.named
  have hlocks := B.notSynchronized
  subst hsz
  have hD := hD0.self (sz := s.heap.size)
  generalize hAe : va_A (mb_w a k S th) s.heap.size = A at hD ⊢
  have hA : ∀ q : Nat, s.heap.size ≤ q → A q := fun q h => by rw [← hAe]; exact Or.inr h
  have hS : va_S A s.heap s.heap [] := va_S.rf
  obtain ⟨Q, hQ⟩ : ∃ Q, Q = MQ below (va_Qi (fun (r : Int32) (_ : Unit) => (k_scout S x0 x1 = 0 → r = r_scout S x0 x1)) (fun _ t => cB dC dI A (mb_w a k S (k_scout S x0 x1)) (mb_ty k) t) A) ([.ref (a 0), .int x0, .int x1] : List Value).toArray s 1 7 A := ⟨_, rfl⟩
  show W p l e rm_X6_scout s m _ below meth c s.heap [] 0 0 (MQ below _ _ _ _ _ _) _
  rw [← hQ]
  have i_X6 : ∀ w ∈ wsX60, w ∈ wsX6_scout := fun w h => List.mem_cons_of_mem _ (List.mem_append_right _ h)
  obtain ⟨⟨hday, hnp, hns, hnt, hnf, hnm, hnb, hme⟩, hpat, hage, hten, hcnt, hplc, heat, hned, hhld, hbad, hbad0, hbag⟩ := id hI
  have f_0 := hts (.fieldLink RX6 53 "CampBookModel" "thrown" "I") (by decide +kernel)
  have hl := lv_entry ([.ref (a 0), .int x0, .int x1]) (n := 3) (Nat.le_of_ble_eq_true rfl)
  rw [lg_entry_eq]
  generalize (lg_sl ([.ref (a 0), .int x0, .int x1]) ++ List.replicate (3 - (lg_sl ([.ref (a 0), .int x0, .int x1])).length) Slot.unset).toArray = ls at hl ⊢
  have hl : lv_has ls 3 [(0, .ref (a 0)), (1, .int x0), (2, .int x1)] := hl
  refine lv_aload_n hx hb dX6_scout_0 rfl (lv_at hl 0 rfl) ?_
  refine lv_iconst (v := nI 0) hx hb dX6_scout_1 (by decide) ?_
  refine va_put (D := (dC, dI)) (ci := 6) (v := .int (nI 0)) (ty := .int) (C := RX6) (T := TX6) (N := 23) hx hb hts i_X6 tyX6 tyX6_ok nmX6 hown hK hP hD hS 0 rfl rfl 0 (by decide) f_0 (fun _ h9 => h9) rfl (by decide +kernel) rfl rfl (Nat.le_of_ble_eq_true rfl) dX6_scout_2 (fun H locs hP hD hS => ?_)
  rw [wsM_TH] at hP hD
  have hP : va_P (dC, dI) vwCl (mb_w a k S 0) H := hP
  have hD : va_D A (mb_w a k S 0) := hD
  refine lv_aload_n hx hb dX6_scout_5 rfl (lv_at hl 0 rfl) ?_
  refine lv_iload_n hx hb dX6_scout_6 rfl (lv_at hl 1 rfl) ?_
  refine vp_callSi (W.runV (As := [.int x0]) (rest := []) ⟨hx, hb, hml, hown, hts⟩ (c_X6_isScout l dC dI a k S 0 x0 hI) (cwV 1 hts gX6_scout_X6_isScout rfl rfl rfl (by decide +kernel) ⟨(Nat.le_of_ble_eq_true rfl), (Nat.le_of_ble_eq_true rfl)⟩) ⟨cR_blind, va_recv hK hP (ci := 6) (q0 := 0) rfl rfl, fun U hU hW => ⟨rfl, cR_of hK hP hU hW⟩⟩ rfl rfl hl.1 rfl (lv_room (Nat.le_of_ble_eq_true rfl)) dX6_scout_7 ⟨(by show 0 + 0 ≤ 1; omega), (by show 0 + 0 ≤ 7; omega)⟩) (fun r er => ?_)
  subst er
  refine lv_if_eq (tgt := 32) hx hb dX6_scout_10 (by decide) (fun c_10 => ?_) (fun c_10 => ?_)
  · have c_10 : (ix x0 (c_ns S)) = false := bI_0 c_10
    refine lv_aload_n hx hb dX6_scout_32 rfl (lv_at hl 0 rfl) ?_
    refine lv_iconst (v := nI 1) hx hb dX6_scout_33 (by decide) ?_
    have hF_34 : ∀ q, va_A (mb_w a k S 0) H.size q → A q := va_free hD hS hA [0, 1, 2, 3, 4, 5, 6, 7, 8, 9, 10, 11, 12, 13, 14] rfl
    refine va_calli (va_runV (As := [.int (nI 1)]) (rest := []) ⟨hx, hb, hml, hown, hts⟩ (c_X6_no l dC dI a k S 0 H.size 1) (cwV 1 hts gX6_scout_X6_no rfl rfl rfl (by decide +kernel) ⟨(Nat.le_of_ble_eq_true rfl), (Nat.le_of_ble_eq_true rfl)⟩) ⟨cT_blind, va_recv hK hP (ci := 6) (q0 := 0) rfl rfl, fun U hU hW => ⟨rfl, cT_of hK hP hD hU hW⟩⟩ rfl rfl hl.1 rfl (lv_room (Nat.le_of_ble_eq_true rfl)) dX6_scout_34 ⟨(by show 0 + 0 ≤ 1; omega), (by show 0 + 0 ≤ 7; omega)⟩) hS (fun q _ h => hF_34 q h) hF_34 (fun r_34 u8 t8 H_34 L_34_ ht hvm hw hB hz1 hk1 hS => ?_)
    obtain ⟨hP, -, hD9⟩ := hB
    rw [ht] at hP
    have hD := hD9.weaken (B := A) (fun _ q _ h => hF_34 q.1 h)
    have hP : va_P (dC, dI) vwCl (mb_w a k S 1) H_34 := hP
    have hD : va_D A (mb_w a k S 1) := hD
    subst hw
    have hk9 : k_scout S x0 x1 = 1 := by simp only [k_scout, c_10, if_true, if_false, Bool.false_eq_true, true_or, or_true, false_or, or_false, reduceCtorEq]
    have ew : (mb_w a k S 1) = (mb_w a k S (k_scout S x0 x1)) := (by rw [hk9]; first | done | rfl)
    have hP : va_P (dC, dI) vwCl (mb_w a k S (k_scout S x0 x1)) H_34 := by rw [← ew]; exact hP
    have hD : va_D A (mb_w a k S (k_scout S x0 x1)) := by rw [← ew]; exact hD
    rw [hQ]
    refine W.widen (k := 1) (n := 7) (by omega) (by omega) ?_
    exact W.iret (v := nI 0) hx hb hr (fun t9 ht9 hW9 => ⟨⟨nI 0, (), rfl, (fun h => absurd (hk9.symm.trans h) (by decide)), cB_of hP hK hD ht9 hW9⟩, hS.F ht9⟩) hS.2.2 dX6_scout_37
  · have c_10 : (ix x0 (c_ns S)) = true := bI_n c_10
    obtain ⟨u, hu, eu⟩ := ix_t c_10 (by omega)
    rw [eu] at hl
    have tu : toN x0 = u := by rw [eu]; exact tn (by omega)
    refine lv_iload_n hx hb dX6_scout_13 rfl (lv_at hl 2 rfl) ?_
    refine lv_iconst (v := nI 0) hx hb dX6_scout_14 (by decide) ?_
    refine lv_bipush (v := nI 6) hx hb dX6_scout_15 (by decide) ?_
    refine vp_callSi (W.runS (As := [.int x1, .int (nI 0), .int (nI 6)]) (rest := []) ⟨hx, hb, hml, hown, hts⟩ (c_X6_isIn l x1 (nI 0) (nI 6)) (va_cwS 3 hts gX6_scout_X6_isIn rfl rfl rfl (by decide +kernel) ⟨(Nat.le_of_ble_eq_true rfl), (Nat.le_of_ble_eq_true rfl)⟩) ⟨cN_blind, fun U hU hW => ⟨rfl, trivial⟩⟩ rfl rfl hl.1 rfl (lv_room (Nat.le_of_ble_eq_true rfl)) dX6_scout_17 ⟨(by show 0 + 0 ≤ 1; omega), (by show 0 + 0 ≤ 7; omega)⟩) (fun r er => ?_)
    subst er
    refine cb_topi (z := bI (ix x1 7)) (congrArg bI (inR_ixm x1 (by omega))) ?_
    refine lv_if_eq (tgt := 32) hx hb dX6_scout_20 (by decide) (fun c_20 => ?_) (fun c_20 => ?_)
    · have c_20 : (ix x1 7) = false := bI_0 c_20
      refine lv_aload_n hx hb dX6_scout_32 rfl (lv_at hl 0 rfl) ?_
      refine lv_iconst (v := nI 1) hx hb dX6_scout_33 (by decide) ?_
      have hF_34 : ∀ q, va_A (mb_w a k S 0) H.size q → A q := va_free hD hS hA [0, 1, 2, 3, 4, 5, 6, 7, 8, 9, 10, 11, 12, 13, 14] rfl
      refine va_calli (va_runV (As := [.int (nI 1)]) (rest := []) ⟨hx, hb, hml, hown, hts⟩ (c_X6_no l dC dI a k S 0 H.size 1) (cwV 1 hts gX6_scout_X6_no rfl rfl rfl (by decide +kernel) ⟨(Nat.le_of_ble_eq_true rfl), (Nat.le_of_ble_eq_true rfl)⟩) ⟨cT_blind, va_recv hK hP (ci := 6) (q0 := 0) rfl rfl, fun U hU hW => ⟨rfl, cT_of hK hP hD hU hW⟩⟩ rfl rfl hl.1 rfl (lv_room (Nat.le_of_ble_eq_true rfl)) dX6_scout_34 ⟨(by show 0 + 0 ≤ 1; omega), (by show 0 + 0 ≤ 7; omega)⟩) hS (fun q _ h => hF_34 q h) hF_34 (fun r_34 u8 t8 H_34 L_34_ ht hvm hw hB hz1 hk1 hS => ?_)
      obtain ⟨hP, -, hD9⟩ := hB
      rw [ht] at hP
      have hD := hD9.weaken (B := A) (fun _ q _ h => hF_34 q.1 h)
      have hP : va_P (dC, dI) vwCl (mb_w a k S 1) H_34 := hP
      have hD : va_D A (mb_w a k S 1) := hD
      subst hw
      have hk9 : k_scout S x0 x1 = 1 := by simp only [k_scout, c_10, c_20, tu, if_true, if_false, Bool.false_eq_true, true_or, or_true, false_or, or_false, reduceCtorEq]
      have ew : (mb_w a k S 1) = (mb_w a k S (k_scout S x0 x1)) := (by rw [hk9]; first | done | rfl)
      have hP : va_P (dC, dI) vwCl (mb_w a k S (k_scout S x0 x1)) H_34 := by rw [← ew]; exact hP
      have hD : va_D A (mb_w a k S (k_scout S x0 x1)) := by rw [← ew]; exact hD
      rw [hQ]
      refine W.widen (k := 1) (n := 7) (by omega) (by omega) ?_
      exact W.iret (v := nI 0) hx hb hr (fun t9 ht9 hW9 => ⟨⟨nI 0, (), rfl, (fun h => absurd (hk9.symm.trans h) (by decide)), cB_of hP hK hD ht9 hW9⟩, hS.F ht9⟩) hS.2.2 dX6_scout_37
    · have c_20 : (ix x1 7) = true := bI_n c_20
      obtain ⟨w9, hw9, ew9⟩ := ix_t c_20 (by omega)
      rw [ew9] at hl
      have tw9 : toN x1 = w9 := by rw [ew9]; exact tn (by omega)
      refine lv_aload_n hx hb dX6_scout_23 rfl (lv_at hl 0 rfl) ?_
      refine lv_iload_n hx hb dX6_scout_24 rfl (lv_at hl 1 rfl) ?_
      refine lv_iload_n hx hb dX6_scout_25 rfl (lv_at hl 2 rfl) ?_
      have hF_26 : ∀ q, va_A (mb_w a k S 0) H.size q → A q := va_free hD hS hA [0, 1, 2, 3, 4, 5, 6, 7, 8, 9, 10, 11, 12, 13, 14] rfl
      refine va_calli (va_runV (As := [.int (nI u), .int (nI w9)]) (rest := []) ⟨hx, hb, hml, hown, hts⟩ (c_X6_told l dC dI a k S 0 H.size u w9 (by omega) (by omega) (by omega)) (cwV 2 hts gX6_scout_X6_told rfl rfl rfl (by decide +kernel) ⟨(Nat.le_of_ble_eq_true rfl), (Nat.le_of_ble_eq_true rfl)⟩) ⟨cT_blind, va_recv hK hP (ci := 6) (q0 := 0) rfl rfl, fun U hU hW => ⟨rfl, cT_of hK hP hD hU hW⟩⟩ rfl rfl hl.1 rfl (lv_room (Nat.le_of_ble_eq_true rfl)) dX6_scout_26 ⟨(by show 0 + 1 ≤ 1; omega), (by show 0 + 7 ≤ 7; omega)⟩) hS (fun q _ h => hF_26 q h) hF_26 (fun r_26 u8 t8 H_26 L_26_ ht hvm hw hB hz1 hk1 hS => ?_)
      obtain ⟨hP, -, hD9⟩ := hB
      rw [ht] at hP
      have hD := hD9.weaken (B := A) (fun _ q _ h => hF_26 q.1 h)
      have hP : va_P (dC, dI) vwCl (mb_w a k S 0) H_26 := hP
      have hD : va_D A (mb_w a k S 0) := hD
      subst hw
      refine lv_goto (tgt := 37) hx hb dX6_scout_29 (by decide) ?_
      have hk9 : k_scout S x0 x1 = 0 := by simp only [k_scout, c_10, c_20, tu, tw9, if_true, if_false, Bool.false_eq_true, true_or, or_true, false_or, or_false, reduceCtorEq]
      have ew : (mb_w a k S 0) = (mb_w a k S (k_scout S x0 x1)) := (by rw [hk9]; first | done | rfl)
      have hP : va_P (dC, dI) vwCl (mb_w a k S (k_scout S x0 x1)) H_26 := by rw [← ew]; exact hP
      have hD : va_D A (mb_w a k S (k_scout S x0 x1)) := by rw [← ew]; exact hD
      rw [hQ]
      refine W.widen (k := 1) (n := 7) (by omega) (by omega) ?_
      exact W.iret (v := fct S u w9) hx hb hr (fun t9 ht9 hW9 => ⟨⟨fct S u w9, (), rfl, (fun _ => by rw [r_scout, tu, tw9]), cB_of hP hK hD ht9 hW9⟩, hS.F ht9⟩) hS.2.2 dX6_scout_37
abbrev rm_X6_addTent : Room := { frames := 1, cells := 0, slots := 0, locals := 22 }
set_option maxHeartbeats 4000000 in
set_option maxRecDepth 100000 in
theorem c_X6_addTent (l : Launch) (dC : Nat → ClassId) (dI : Nat → Nat → Nat) (a : Nat → Nat) (k : Nat → ClassId) (S : cs_S) (th : Nat) (sz : Nat) (x0 : Int32) (hI : Inv S) : Met l yX6_addTent wsX6_addTent rm_X6_addTent (va_Pc [.ref (a 0), .int x0] (cT dC dI sz (mb_w a k S th) (mb_ty k))) (va_Qi (fun (r : Int32) (_ : Unit) => (k_addTent S x0 = 0 → r = nI (c_nt S))) (fun _ t => cB dC dI (va_A (mb_w a k S th) sz) (mb_w a k (kS (k_addTent S x0) (S_addTent S x0) S) (k_addTent S x0)) (mb_ty k) t) (va_A (mb_w a k S th) sz)) 0 0 (va_A (mb_w a k S th) sz) := by
  refine Met.ofW (cc := cX6_addTent) (maxL := 2) (ret := (some .int)) (by decide) rfl ?_
  intro p e s m args below meth c s₁ B hml hv
  obtain ⟨rfl, hsz, hP, hK, hD0⟩ := hv
  have hx := B.exec
  have hb := B.bytes
  have hr := B.returns
  have hts := atoms_spec (ws := wsX6_addTent) B.pre
  have hown : s.vm.findClass RX6 = some m.cls := findClass_of_methodNamed B.named
  have hlocks := B.notSynchronized
  subst hsz
  have hD := hD0.self (sz := s.heap.size)
  generalize hAe : va_A (mb_w a k S th) s.heap.size = A at hD ⊢
  have hA : ∀ q : Nat, s.heap.size ≤ q → A q := fun q h => by rw [← hAe]; exact Or.inr h
  have hS : va_S A s.heap s.heap [] := va_S.rf
  obtain ⟨Q, hQ⟩ : ∃ Q, Q = MQ below (va_Qi (fun (r : Int32) (_ : Unit) => (k_addTent S x0 = 0 → r = nI (c_nt S))) (fun _ t => cB dC dI A (mb_w a k (kS (k_addTent S x0) (S_addTent S x0) S) (k_addTent S x0)) (mb_ty k) t) A) ([.ref (a 0), .int x0] : List Value).toArray s 0 0 A := ⟨_, rfl⟩
  show W p l e rm_X6_addTent s m _ below meth c s.heap [] 0 0 (MQ below _ _ _ _ _ _) _
  rw [← hQ]
  have i_X6 : ∀ w ∈ wsX60, w ∈ wsX6_addTent := fun w h => List.mem_cons_of_mem _ (List.mem_append_right _ h)
  obtain ⟨⟨hday, hnp, hns, hnt, hnf, hnm, hnb, hme⟩, hpat, hage, hten, hcnt, hplc, heat, hned, hhld, hbad, hbad0, hbag⟩ := id hI
  have f_0 := hts (.fieldLink RX6 53 "CampBookModel" "thrown" "I") (by decide +kernel)
  have f_1 := hts (.fieldLink RX6 67 "CampBookModel" "tents" "I") (by decide +kernel)
  have f_2 := hts (.fieldLink RX6 35 "CampBookModel" "places" "[I") (by decide +kernel)
  have hl := lv_entry ([.ref (a 0), .int x0]) (n := 2) (Nat.le_of_ble_eq_true rfl)
  rw [lg_entry_eq]
  generalize (lg_sl ([.ref (a 0), .int x0]) ++ List.replicate (2 - (lg_sl ([.ref (a 0), .int x0])).length) Slot.unset).toArray = ls at hl ⊢
  have hl : lv_has ls 2 [(0, .ref (a 0)), (1, .int x0)] := hl
  refine lv_aload_n hx hb dX6_addTent_0 rfl (lv_at hl 0 rfl) ?_
  refine lv_iconst (v := nI 0) hx hb dX6_addTent_1 (by decide) ?_
  refine va_put (D := (dC, dI)) (ci := 6) (v := .int (nI 0)) (ty := .int) (C := RX6) (T := TX6) (N := 23) hx hb hts i_X6 tyX6 tyX6_ok nmX6 hown hK hP hD hS 0 rfl rfl 0 (by decide) f_0 (fun _ h9 => h9) rfl (by decide +kernel) rfl rfl (Nat.le_of_ble_eq_true rfl) dX6_addTent_2 (fun H locs hP hD hS => ?_)
  rw [wsM_TH] at hP hD
  have hP : va_P (dC, dI) vwCl (mb_w a k S 0) H := hP
  have hD : va_D A (mb_w a k S 0) := hD
  refine lv_iload_n hx hb dX6_addTent_5 rfl (lv_at hl 1 rfl) ?_
  refine lv_iconst (v := nI 1) hx hb dX6_addTent_6 (by decide) ?_
  refine lv_bipush (v := nI 8) hx hb dX6_addTent_7 (by decide) ?_
  refine vp_callSi (W.runS (As := [.int x0, .int (nI 1), .int (nI 8)]) (rest := []) ⟨hx, hb, hml, hown, hts⟩ (c_X6_isIn l x0 (nI 1) (nI 8)) (va_cwS 3 hts gX6_addTent_X6_isIn rfl rfl rfl (by decide +kernel) ⟨(Nat.le_of_ble_eq_true rfl), (Nat.le_of_ble_eq_true rfl)⟩) ⟨cN_blind, fun U hU hW => ⟨rfl, trivial⟩⟩ rfl rfl hl.1 rfl (lv_room (Nat.le_of_ble_eq_true rfl)) dX6_addTent_9 ⟨(by show 0 + 0 ≤ 0; omega), (by show 0 + 0 ≤ 0; omega)⟩) (fun r er => ?_)
  subst er
  refine lv_if_ne (tgt := 21) hx hb dX6_addTent_12 (by decide) (fun c_12 => ?_) (fun c_12 => ?_)
  · have c_12 : (inR x0 (nI 1) (nI 8)) = true := bI_n c_12
    refine lv_aload_n hx hb dX6_addTent_21 rfl (lv_at hl 0 rfl) ?_
    refine va_get (D := (dC, dI)) (ci := 6) (v := .int (nI (c_nt S))) (C := RX6) (T := TX6) (N := 23) hx hb hts i_X6 hown hK hP 0 rfl rfl 12 (by decide) f_1 (fun _ h9 => h9) rfl dX6_addTent_22 ?_
    refine lv_bipush (v := nI 10) hx hb dX6_addTent_25 (by decide) ?_
    refine lv_icmp_ne (tgt := 36) hx hb dX6_addTent_27 (by decide) (fun c_27 => ?_) (fun c_27 => ?_)
    · have c_27 : (c_nt S) ≠ 10 := cb_ne (by omega) (by omega) c_27
      have hq : c_nt S < 10 := by omega
      refine lv_aload_n hx hb dX6_addTent_36 rfl (lv_at hl 0 rfl) ?_
      refine va_get (D := (dC, dI)) (ci := 6) (v := .ref (a 9)) (C := RX6) (T := TX6) (N := 23) hx hb hts i_X6 hown hK hP 0 rfl rfl 13 (by decide) f_2 (fun _ h9 => h9) rfl dX6_addTent_37 ?_
      refine lv_aload_n hx hb dX6_addTent_40 rfl (lv_at hl 0 rfl) ?_
      refine va_get (D := (dC, dI)) (ci := 6) (v := .int (nI (c_nt S))) (C := RX6) (T := TX6) (N := 23) hx hb hts i_X6 hown hK hP 0 rfl rfl 12 (by decide) f_1 (fun _ h9 => h9) rfl dX6_addTent_41 ?_
      refine lv_iload_n hx hb dX6_addTent_44 rfl (lv_at hl 1 rfl) ?_
      refine cb_iast hx hb hK hP hD hS 9 8 (f := c_plc S) rfl rfl (j := c_nt S) (by omega) (Nat.le_of_ble_eq_true rfl) dX6_addTent_45 (fun H locs hP hD hS => ?_)
      rw [wsM_plc] at hP hD
      have hP : va_P (dC, dI) vwCl (mb_w a k (s_plc S (upd (c_plc S) (c_nt S) x0)) 0) H := hP
      have hD : va_D A (mb_w a k (s_plc S (upd (c_plc S) (c_nt S) x0)) 0) := hD
      refine lv_aload_n hx hb dX6_addTent_46 rfl (lv_at hl 0 rfl) ?_
      refine lv_dup hx hb dX6_addTent_47 rfl ?_
      refine va_get (D := (dC, dI)) (ci := 6) (v := .int (nI (c_nt S))) (C := RX6) (T := TX6) (N := 23) hx hb hts i_X6 hown hK hP 0 rfl rfl 12 (by decide) f_1 (fun _ h9 => h9) rfl dX6_addTent_48 ?_
      refine lv_iconst (v := nI 1) hx hb dX6_addTent_51 (by decide) ?_
      refine lv_iadd hx hb dX6_addTent_52 ?_
      refine cb_topi (nI_add _ _) ?_
      refine va_put (D := (dC, dI)) (ci := 6) (v := .int (nI ((c_nt S) + 1))) (ty := .int) (C := RX6) (T := TX6) (N := 23) hx hb hts i_X6 tyX6 tyX6_ok nmX6 hown hK hP hD hS 0 rfl rfl 12 (by decide) f_1 (fun _ h9 => h9) rfl (by decide +kernel) rfl rfl (Nat.le_of_ble_eq_true rfl) dX6_addTent_53 (fun H locs hP hD hS => ?_)
      rw [wsM_nt] at hP hD
      have hP : va_P (dC, dI) vwCl (mb_w a k (s_nt (s_plc S (upd (c_plc S) (c_nt S) x0)) ((c_nt S) + 1)) 0) H := hP
      have hD : va_D A (mb_w a k (s_nt (s_plc S (upd (c_plc S) (c_nt S) x0)) ((c_nt S) + 1)) 0) := hD
      refine lv_aload_n hx hb dX6_addTent_56 rfl (lv_at hl 0 rfl) ?_
      refine va_get (D := (dC, dI)) (ci := 6) (v := .int (nI ((c_nt S) + 1))) (C := RX6) (T := TX6) (N := 23) hx hb hts i_X6 hown hK hP 0 rfl rfl 12 (by decide) f_1 (fun _ h9 => h9) rfl dX6_addTent_57 ?_
      refine lv_iconst (v := nI 1) hx hb dX6_addTent_60 (by decide) ?_
      refine lv_isub hx hb dX6_addTent_61 ?_
      have hk9 : k_addTent S x0 = 0 := by simp only [k_addTent, c_12, hq, if_true, if_false, Bool.false_eq_true, true_or, or_true, false_or, or_false, reduceCtorEq]
      have ew : (mb_w a k (s_nt (s_plc S (upd (c_plc S) (c_nt S) x0)) ((c_nt S) + 1)) 0) = (mb_w a k (kS (k_addTent S x0) (S_addTent S x0) S) (k_addTent S x0)) := (by rw [hk9, kS_0, S_addTent]; first | done | rfl)
      have hP : va_P (dC, dI) vwCl (mb_w a k (kS (k_addTent S x0) (S_addTent S x0) S) (k_addTent S x0)) H := by rw [← ew]; exact hP
      have hD : va_D A (mb_w a k (kS (k_addTent S x0) (S_addTent S x0) S) (k_addTent S x0)) := by rw [← ew]; exact hD
      rw [hQ]
      refine W.widen (k := 0) (n := 0) (by omega) (by omega) ?_
      exact W.iret (v := (nI ((c_nt S) + 1)) - (nI 1)) hx hb hr (fun t9 ht9 hW9 => ⟨⟨(nI ((c_nt S) + 1)) - (nI 1), (), rfl, (fun _ => by rw [pk_sub (by omega)]; rfl), cB_of hP hK hD ht9 hW9⟩, hS.F ht9⟩) hS.2.2 dX6_addTent_62
    · have c_27 : (c_nt S) = 10 := cb_nne (by omega) (by omega) c_27
      have hq : ¬ c_nt S < 10 := by omega
      refine lv_aload_n hx hb dX6_addTent_30 rfl (lv_at hl 0 rfl) ?_
      refine lv_iconst (v := nI 2) hx hb dX6_addTent_31 (by decide) ?_
      have hF_32 : ∀ q, va_A (mb_w a k S 0) H.size q → A q := va_free hD hS hA [0, 1, 2, 3, 4, 5, 6, 7, 8, 9, 10, 11, 12, 13, 14] rfl
      refine va_calli (va_runV (As := [.int (nI 2)]) (rest := []) ⟨hx, hb, hml, hown, hts⟩ (c_X6_no l dC dI a k S 0 H.size 2) (cwV 1 hts gX6_addTent_X6_no rfl rfl rfl (by decide +kernel) ⟨(Nat.le_of_ble_eq_true rfl), (Nat.le_of_ble_eq_true rfl)⟩) ⟨cT_blind, va_recv hK hP (ci := 6) (q0 := 0) rfl rfl, fun U hU hW => ⟨rfl, cT_of hK hP hD hU hW⟩⟩ rfl rfl hl.1 rfl (lv_room (Nat.le_of_ble_eq_true rfl)) dX6_addTent_32 ⟨(by show 0 + 0 ≤ 0; omega), (by show 0 + 0 ≤ 0; omega)⟩) hS (fun q _ h => hF_32 q h) hF_32 (fun r_32 u8 t8 H_32 L_32_ ht hvm hw hB hz1 hk1 hS => ?_)
      obtain ⟨hP, -, hD9⟩ := hB
      rw [ht] at hP
      have hD := hD9.weaken (B := A) (fun _ q _ h => hF_32 q.1 h)
      have hP : va_P (dC, dI) vwCl (mb_w a k S 2) H_32 := hP
      have hD : va_D A (mb_w a k S 2) := hD
      subst hw
      have hk9 : k_addTent S x0 = 2 := by simp only [k_addTent, c_12, hq, if_true, if_false, Bool.false_eq_true, true_or, or_true, false_or, or_false, reduceCtorEq]
      have ew : (mb_w a k S 2) = (mb_w a k (kS (k_addTent S x0) (S_addTent S x0) S) (k_addTent S x0)) := (by rw [hk9]; first | done | rfl)
      have hP : va_P (dC, dI) vwCl (mb_w a k (kS (k_addTent S x0) (S_addTent S x0) S) (k_addTent S x0)) H_32 := by rw [← ew]; exact hP
      have hD : va_D A (mb_w a k (kS (k_addTent S x0) (S_addTent S x0) S) (k_addTent S x0)) := by rw [← ew]; exact hD
      rw [hQ]
      refine W.widen (k := 0) (n := 0) (by omega) (by omega) ?_
      exact W.iret (v := nI 0) hx hb hr (fun t9 ht9 hW9 => ⟨⟨nI 0, (), rfl, (fun h => absurd (hk9.symm.trans h) (by decide)), cB_of hP hK hD ht9 hW9⟩, hS.F ht9⟩) hS.2.2 dX6_addTent_35
  · have c_12 : (inR x0 (nI 1) (nI 8)) = false := bI_0 c_12
    refine lv_aload_n hx hb dX6_addTent_15 rfl (lv_at hl 0 rfl) ?_
    refine lv_iconst (v := nI 1) hx hb dX6_addTent_16 (by decide) ?_
    have hF_17 : ∀ q, va_A (mb_w a k S 0) H.size q → A q := va_free hD hS hA [0, 1, 2, 3, 4, 5, 6, 7, 8, 9, 10, 11, 12, 13, 14] rfl
    refine va_calli (va_runV (As := [.int (nI 1)]) (rest := []) ⟨hx, hb, hml, hown, hts⟩ (c_X6_no l dC dI a k S 0 H.size 1) (cwV 1 hts gX6_addTent_X6_no rfl rfl rfl (by decide +kernel) ⟨(Nat.le_of_ble_eq_true rfl), (Nat.le_of_ble_eq_true rfl)⟩) ⟨cT_blind, va_recv hK hP (ci := 6) (q0 := 0) rfl rfl, fun U hU hW => ⟨rfl, cT_of hK hP hD hU hW⟩⟩ rfl rfl hl.1 rfl (lv_room (Nat.le_of_ble_eq_true rfl)) dX6_addTent_17 ⟨(by show 0 + 0 ≤ 0; omega), (by show 0 + 0 ≤ 0; omega)⟩) hS (fun q _ h => hF_17 q h) hF_17 (fun r_17 u8 t8 H_17 L_17_ ht hvm hw hB hz1 hk1 hS => ?_)
    obtain ⟨hP, -, hD9⟩ := hB
    rw [ht] at hP
    have hD := hD9.weaken (B := A) (fun _ q _ h => hF_17 q.1 h)
    have hP : va_P (dC, dI) vwCl (mb_w a k S 1) H_17 := hP
    have hD : va_D A (mb_w a k S 1) := hD
    subst hw
    have hk9 : k_addTent S x0 = 1 := by simp only [k_addTent, c_12, if_true, if_false, Bool.false_eq_true, true_or, or_true, false_or, or_false, reduceCtorEq]
    have ew : (mb_w a k S 1) = (mb_w a k (kS (k_addTent S x0) (S_addTent S x0) S) (k_addTent S x0)) := (by rw [hk9]; first | done | rfl)
    have hP : va_P (dC, dI) vwCl (mb_w a k (kS (k_addTent S x0) (S_addTent S x0) S) (k_addTent S x0)) H_17 := by rw [← ew]; exact hP
    have hD : va_D A (mb_w a k (kS (k_addTent S x0) (S_addTent S x0) S) (k_addTent S x0)) := by rw [← ew]; exact hD
    rw [hQ]
    refine W.widen (k := 0) (n := 0) (by omega) (by omega) ?_
    exact W.iret (v := nI 0) hx hb hr (fun t9 ht9 hW9 => ⟨⟨nI 0, (), rfl, (fun h => absurd (hk9.symm.trans h) (by decide)), cB_of hP hK hD ht9 hW9⟩, hS.F ht9⟩) hS.2.2 dX6_addTent_20
abbrev rm_X6_sleep : Room := { frames := 2, cells := 0, slots := 0, locals := 48 }
set_option maxHeartbeats 4000000 in
set_option maxRecDepth 100000 in
theorem c_X6_sleep (l : Launch) (dC : Nat → ClassId) (dI : Nat → Nat → Nat) (a : Nat → Nat) (k : Nat → ClassId) (S : cs_S) (th : Nat) (sz : Nat) (x0 : Int32) (x1 : Int32) (hI : Inv S) : Met l yX6_sleep wsX6_sleep rm_X6_sleep (va_Pc [.ref (a 0), .int x0, .int x1] (cT dC dI sz (mb_w a k S th) (mb_ty k))) (va_Qi (fun (r : Int32) (_ : Unit) => (k_sleep S x0 x1 = 0 → r = r_sleep S x0)) (fun _ t => cB dC dI (va_A (mb_w a k S th) sz) (mb_w a k (kS (k_sleep S x0 x1) (S_sleep S x0 x1) S) (k_sleep S x0 x1)) (mb_ty k) t) (va_A (mb_w a k S th) sz)) 0 0 (va_A (mb_w a k S th) sz) := by
  refine Met.ofW (cc := cX6_sleep) (maxL := 4) (ret := (some .int)) (by decide) rfl ?_
  intro p e s m args below meth c s₁ B hml hv
  obtain ⟨rfl, hsz, hP, hK, hD0⟩ := hv
  have hx := B.exec
  have hb := B.bytes
  have hr := B.returns
  have hts := atoms_spec (ws := wsX6_sleep) B.pre
  have hown : s.vm.findClass RX6 = some m.cls := findClass_of_methodNamed B.named
  have hlocks := B.notSynchronized
  subst hsz
  have hD := hD0.self (sz := s.heap.size)
  generalize hAe : va_A (mb_w a k S th) s.heap.size = A at hD ⊢
  have hA : ∀ q : Nat, s.heap.size ≤ q → A q := fun q h => by rw [← hAe]; exact Or.inr h
  have hS : va_S A s.heap s.heap [] := va_S.rf
  obtain ⟨Q, hQ⟩ : ∃ Q, Q = MQ below (va_Qi (fun (r : Int32) (_ : Unit) => (k_sleep S x0 x1 = 0 → r = r_sleep S x0)) (fun _ t => cB dC dI A (mb_w a k (kS (k_sleep S x0 x1) (S_sleep S x0 x1) S) (k_sleep S x0 x1)) (mb_ty k) t) A) ([.ref (a 0), .int x0, .int x1] : List Value).toArray s 0 0 A := ⟨_, rfl⟩
  show W p l e rm_X6_sleep s m _ below meth c s.heap [] 0 0 (MQ below _ _ _ _ _ _) _
  rw [← hQ]
  have i_X6 : ∀ w ∈ wsX60, w ∈ wsX6_sleep := fun w h => List.mem_cons_of_mem _ (List.mem_append_right _ h)
  obtain ⟨⟨hday, hnp, hns, hnt, hnf, hnm, hnb, hme⟩, hpat, hage, hten, hcnt, hplc, heat, hned, hhld, hbad, hbad0, hbag⟩ := id hI
  have f_0 := hts (.fieldLink RX6 53 "CampBookModel" "thrown" "I") (by decide +kernel)
  have f_1 := hts (.fieldLink RX6 22 "CampBookModel" "tentOf" "[I") (by decide +kernel)
  have hl := lv_entry ([.ref (a 0), .int x0, .int x1]) (n := 4) (Nat.le_of_ble_eq_true rfl)
  rw [lg_entry_eq]
  generalize (lg_sl ([.ref (a 0), .int x0, .int x1]) ++ List.replicate (4 - (lg_sl ([.ref (a 0), .int x0, .int x1])).length) Slot.unset).toArray = ls at hl ⊢
  have hl : lv_has ls 4 [(0, .ref (a 0)), (1, .int x0), (2, .int x1)] := hl
  refine lv_aload_n hx hb dX6_sleep_0 rfl (lv_at hl 0 rfl) ?_
  refine lv_iconst (v := nI 0) hx hb dX6_sleep_1 (by decide) ?_
  refine va_put (D := (dC, dI)) (ci := 6) (v := .int (nI 0)) (ty := .int) (C := RX6) (T := TX6) (N := 23) hx hb hts i_X6 tyX6 tyX6_ok nmX6 hown hK hP hD hS 0 rfl rfl 0 (by decide) f_0 (fun _ h9 => h9) rfl (by decide +kernel) rfl rfl (Nat.le_of_ble_eq_true rfl) dX6_sleep_2 (fun H locs hP hD hS => ?_)
  rw [wsM_TH] at hP hD
  have hP : va_P (dC, dI) vwCl (mb_w a k S 0) H := hP
  have hD : va_D A (mb_w a k S 0) := hD
  refine lv_aload_n hx hb dX6_sleep_5 rfl (lv_at hl 0 rfl) ?_
  refine lv_iload_n hx hb dX6_sleep_6 rfl (lv_at hl 1 rfl) ?_
  refine vp_callSi (W.runV (As := [.int x0]) (rest := []) ⟨hx, hb, hml, hown, hts⟩ (c_X6_isScout l dC dI a k S 0 x0 hI) (cwV 1 hts gX6_sleep_X6_isScout rfl rfl rfl (by decide +kernel) ⟨(Nat.le_of_ble_eq_true rfl), (Nat.le_of_ble_eq_true rfl)⟩) ⟨cR_blind, va_recv hK hP (ci := 6) (q0 := 0) rfl rfl, fun U hU hW => ⟨rfl, cR_of hK hP hU hW⟩⟩ rfl rfl hl.1 rfl (lv_room (Nat.le_of_ble_eq_true rfl)) dX6_sleep_7 ⟨(by show 0 + 0 ≤ 0; omega), (by show 0 + 0 ≤ 0; omega)⟩) (fun r er => ?_)
  subst er
  refine lv_if_eq (tgt := 26) hx hb dX6_sleep_10 (by decide) (fun c_10 => ?_) (fun c_10 => ?_)
  · have c_10 : (ix x0 (c_ns S)) = false := bI_0 c_10
    refine lv_aload_n hx hb dX6_sleep_26 rfl (lv_at hl 0 rfl) ?_
    refine lv_iconst (v := nI 1) hx hb dX6_sleep_27 (by decide) ?_
    have hF_28 : ∀ q, va_A (mb_w a k S 0) H.size q → A q := va_free hD hS hA [0, 1, 2, 3, 4, 5, 6, 7, 8, 9, 10, 11, 12, 13, 14] rfl
    refine va_calli (va_runV (As := [.int (nI 1)]) (rest := []) ⟨hx, hb, hml, hown, hts⟩ (c_X6_no l dC dI a k S 0 H.size 1) (cwV 1 hts gX6_sleep_X6_no rfl rfl rfl (by decide +kernel) ⟨(Nat.le_of_ble_eq_true rfl), (Nat.le_of_ble_eq_true rfl)⟩) ⟨cT_blind, va_recv hK hP (ci := 6) (q0 := 0) rfl rfl, fun U hU hW => ⟨rfl, cT_of hK hP hD hU hW⟩⟩ rfl rfl hl.1 rfl (lv_room (Nat.le_of_ble_eq_true rfl)) dX6_sleep_28 ⟨(by show 0 + 0 ≤ 0; omega), (by show 0 + 0 ≤ 0; omega)⟩) hS (fun q _ h => hF_28 q h) hF_28 (fun r_28 u8 t8 H_28 L_28_ ht hvm hw hB hz1 hk1 hS => ?_)
    obtain ⟨hP, -, hD9⟩ := hB
    rw [ht] at hP
    have hD := hD9.weaken (B := A) (fun _ q _ h => hF_28 q.1 h)
    have hP : va_P (dC, dI) vwCl (mb_w a k S 1) H_28 := hP
    have hD : va_D A (mb_w a k S 1) := hD
    subst hw
    have hk9 : k_sleep S x0 x1 = 1 := by rw [k_sleep, if_neg (by rw [c_10]; decide)]
    have ew : (mb_w a k S 1) = (mb_w a k (kS (k_sleep S x0 x1) (S_sleep S x0 x1) S) (k_sleep S x0 x1)) := (by rw [hk9]; first | done | rfl)
    have hP : va_P (dC, dI) vwCl (mb_w a k (kS (k_sleep S x0 x1) (S_sleep S x0 x1) S) (k_sleep S x0 x1)) H_28 := by rw [← ew]; exact hP
    have hD : va_D A (mb_w a k (kS (k_sleep S x0 x1) (S_sleep S x0 x1) S) (k_sleep S x0 x1)) := by rw [← ew]; exact hD
    rw [hQ]
    refine W.widen (k := 0) (n := 0) (by omega) (by omega) ?_
    exact W.iret (v := nI 0) hx hb hr (fun t9 ht9 hW9 => ⟨⟨nI 0, (), rfl, (fun h => absurd (hk9.symm.trans h) (by decide)), cB_of hP hK hD ht9 hW9⟩, hS.F ht9⟩) hS.2.2 dX6_sleep_31
  · have c_10 : (ix x0 (c_ns S)) = true := bI_n c_10
    obtain ⟨u, hu, eu⟩ := ix_t c_10 (by omega)
    rw [eu] at hl
    have tu : toN x0 = u := by rw [eu]; exact tn (by omega)
    refine lv_iload_n hx hb dX6_sleep_13 rfl (lv_at hl 2 rfl) ?_
    refine lv_iconst (v := (-1)) hx hb dX6_sleep_14 (by decide) ?_
    refine lv_icmp_eq (tgt := 32) hx hb dX6_sleep_15 (by decide) (fun c_15 => ?_) (fun c_15 => ?_)
    · skip
      refine lv_aload_n hx hb dX6_sleep_32 rfl (lv_at hl 0 rfl) ?_
      refine va_get (D := (dC, dI)) (ci := 6) (v := .ref (a 5)) (C := RX6) (T := TX6) (N := 23) hx hb hts i_X6 hown hK hP 0 rfl rfl 8 (by decide) f_1 (fun _ h9 => h9) rfl dX6_sleep_33 ?_
      refine lv_iload_n hx hb dX6_sleep_36 rfl (lv_at hl 1 rfl) ?_
      refine cb_iald hx hb hK hP 5 4 (f := c_ten S) rfl rfl (j := u) (by omega) (Nat.le_of_ble_eq_true rfl) dX6_sleep_37 ?_
      refine lv_istore_n (lv' := [(3, .int (c_ten S u)), (0, .ref (a 0)), (1, .int (nI u)), (2, .int x1)]) hx hb dX6_sleep_38 rfl hl (by decide) rfl (fun ls hl => ?_)
      refine lv_iload_n hx hb dX6_sleep_39 rfl (lv_at hl 0 rfl) ?_
      refine lv_iload_n hx hb dX6_sleep_40 rfl (lv_at hl 3 rfl) ?_
      refine lv_icmp_eq (tgt := 58) hx hb dX6_sleep_41 (by decide) (fun c_41 => ?_) (fun c_41 => ?_)
      · skip
        refine lv_aload_n hx hb dX6_sleep_58 rfl (lv_at hl 1 rfl) ?_
        refine lv_iconst (v := nI 2) hx hb dX6_sleep_59 (by decide) ?_
        have hF_60 : ∀ q, va_A (mb_w a k S 0) H.size q → A q := va_free hD hS hA [0, 1, 2, 3, 4, 5, 6, 7, 8, 9, 10, 11, 12, 13, 14] rfl
        refine va_calli (va_runV (As := [.int (nI 2)]) (rest := []) ⟨hx, hb, hml, hown, hts⟩ (c_X6_no l dC dI a k S 0 H.size 2) (cwV 1 hts gX6_sleep_X6_no rfl rfl rfl (by decide +kernel) ⟨(Nat.le_of_ble_eq_true rfl), (Nat.le_of_ble_eq_true rfl)⟩) ⟨cT_blind, va_recv hK hP (ci := 6) (q0 := 0) rfl rfl, fun U hU hW => ⟨rfl, cT_of hK hP hD hU hW⟩⟩ rfl rfl hl.1 rfl (lv_room (Nat.le_of_ble_eq_true rfl)) dX6_sleep_60 ⟨(by show 0 + 0 ≤ 0; omega), (by show 0 + 0 ≤ 0; omega)⟩) hS (fun q _ h => hF_60 q h) hF_60 (fun r_60 u8 t8 H_60 L_60_ ht hvm hw hB hz1 hk1 hS => ?_)
        obtain ⟨hP, -, hD9⟩ := hB
        rw [ht] at hP
        have hD := hD9.weaken (B := A) (fun _ q _ h => hF_60 q.1 h)
        have hP : va_P (dC, dI) vwCl (mb_w a k S 2) H_60 := hP
        have hD : va_D A (mb_w a k S 2) := hD
        subst hw
        have hk9 : k_sleep S x0 x1 = 2 := by rw [k_sleep, if_pos c_10, if_pos (Or.inl c_15), tu, if_pos c_41]
        have ew : (mb_w a k S 2) = (mb_w a k (kS (k_sleep S x0 x1) (S_sleep S x0 x1) S) (k_sleep S x0 x1)) := (by rw [hk9]; first | done | rfl)
        have hP : va_P (dC, dI) vwCl (mb_w a k (kS (k_sleep S x0 x1) (S_sleep S x0 x1) S) (k_sleep S x0 x1)) H_60 := by rw [← ew]; exact hP
        have hD : va_D A (mb_w a k (kS (k_sleep S x0 x1) (S_sleep S x0 x1) S) (k_sleep S x0 x1)) := by rw [← ew]; exact hD
        rw [hQ]
        refine W.widen (k := 0) (n := 0) (by omega) (by omega) ?_
        exact W.iret (v := nI 0) hx hb hr (fun t9 ht9 hW9 => ⟨⟨nI 0, (), rfl, (fun h => absurd (hk9.symm.trans h) (by decide)), cB_of hP hK hD ht9 hW9⟩, hS.F ht9⟩) hS.2.2 dX6_sleep_63
      · skip
        refine lv_iload_n hx hb dX6_sleep_44 rfl (lv_at hl 3 rfl) ?_
        refine lv_iconst (v := (-1)) hx hb dX6_sleep_45 (by decide) ?_
        refine lv_icmp_eq (tgt := 64) hx hb dX6_sleep_46 (by decide) (fun c_46 => ?_) (fun c_46 => ?_)
        · skip
          refine lv_aload_n hx hb dX6_sleep_64 rfl (lv_at hl 1 rfl) ?_
          refine va_get (D := (dC, dI)) (ci := 6) (v := .ref (a 5)) (C := RX6) (T := TX6) (N := 23) hx hb hts i_X6 hown hK hP 0 rfl rfl 8 (by decide) f_1 (fun _ h9 => h9) rfl dX6_sleep_65 ?_
          refine lv_iload_n hx hb dX6_sleep_68 rfl (lv_at hl 2 rfl) ?_
          refine lv_iload_n hx hb dX6_sleep_69 rfl (lv_at hl 3 rfl) ?_
          refine cb_iast hx hb hK hP hD hS 5 4 (f := c_ten S) rfl rfl (j := u) (by omega) (Nat.le_of_ble_eq_true rfl) dX6_sleep_70 (fun H locs hP hD hS => ?_)
          rw [wsM_ten] at hP hD
          have hP : va_P (dC, dI) vwCl (mb_w a k (s_ten S (upd (c_ten S) u x1)) 0) H := hP
          have hD : va_D A (mb_w a k (s_ten S (upd (c_ten S) u x1)) 0) := hD
          refine lv_iload_n hx hb dX6_sleep_71 rfl (lv_at hl 0 rfl) ?_
          have hk9 : k_sleep S x0 x1 = 0 := by rw [k_sleep, if_pos c_10, if_pos (Or.inl c_15), tu, if_neg c_41, if_pos (Or.inl c_15)]
          have ew : (mb_w a k (s_ten S (upd (c_ten S) u x1)) 0) = (mb_w a k (kS (k_sleep S x0 x1) (S_sleep S x0 x1) S) (k_sleep S x0 x1)) := (by rw [hk9, kS_0, S_sleep, tu]; first | done | rfl)
          have hP : va_P (dC, dI) vwCl (mb_w a k (kS (k_sleep S x0 x1) (S_sleep S x0 x1) S) (k_sleep S x0 x1)) H := by rw [← ew]; exact hP
          have hD : va_D A (mb_w a k (kS (k_sleep S x0 x1) (S_sleep S x0 x1) S) (k_sleep S x0 x1)) := by rw [← ew]; exact hD
          rw [hQ]
          refine W.widen (k := 0) (n := 0) (by omega) (by omega) ?_
          exact W.iret (v := c_ten S u) hx hb hr (fun t9 ht9 hW9 => ⟨⟨c_ten S u, (), rfl, (fun _ => by rw [r_sleep, tu]), cB_of hP hK hD ht9 hW9⟩, hS.F ht9⟩) hS.2.2 dX6_sleep_72
        · skip
          exact absurd c_15 c_46
    · skip
      refine lv_aload_n hx hb dX6_sleep_18 rfl (lv_at hl 0 rfl) ?_
      refine lv_iload_n hx hb dX6_sleep_19 rfl (lv_at hl 2 rfl) ?_
      refine vp_callSi (W.runV (As := [.int x1]) (rest := []) ⟨hx, hb, hml, hown, hts⟩ (c_X6_isTent l dC dI a k S 0 x1 hI) (cwV 1 hts gX6_sleep_X6_isTent rfl rfl rfl (by decide +kernel) ⟨(Nat.le_of_ble_eq_true rfl), (Nat.le_of_ble_eq_true rfl)⟩) ⟨cR_blind, va_recv hK hP (ci := 6) (q0 := 0) rfl rfl, fun U hU hW => ⟨rfl, cR_of hK hP hU hW⟩⟩ rfl rfl hl.1 rfl (lv_room (Nat.le_of_ble_eq_true rfl)) dX6_sleep_20 ⟨(by show 0 + 0 ≤ 0; omega), (by show 0 + 0 ≤ 0; omega)⟩) (fun r er => ?_)
      subst er
      refine lv_if_ne (tgt := 32) hx hb dX6_sleep_23 (by decide) (fun c_23 => ?_) (fun c_23 => ?_)
      · have c_23 : (ix x1 (c_nt S)) = true := bI_n c_23
        obtain ⟨t, ht, et⟩ := ix_t c_23 (by omega)
        rw [et] at hl
        have tt : toN x1 = t := by rw [et]; exact tn (by omega)
        refine lv_aload_n hx hb dX6_sleep_32 rfl (lv_at hl 0 rfl) ?_
        refine va_get (D := (dC, dI)) (ci := 6) (v := .ref (a 5)) (C := RX6) (T := TX6) (N := 23) hx hb hts i_X6 hown hK hP 0 rfl rfl 8 (by decide) f_1 (fun _ h9 => h9) rfl dX6_sleep_33 ?_
        refine lv_iload_n hx hb dX6_sleep_36 rfl (lv_at hl 1 rfl) ?_
        refine cb_iald hx hb hK hP 5 4 (f := c_ten S) rfl rfl (j := u) (by omega) (Nat.le_of_ble_eq_true rfl) dX6_sleep_37 ?_
        refine lv_istore_n (lv' := [(3, .int (c_ten S u)), (0, .ref (a 0)), (1, .int (nI u)), (2, .int (nI t))]) hx hb dX6_sleep_38 rfl hl (by decide) rfl (fun ls hl => ?_)
        refine lv_iload_n hx hb dX6_sleep_39 rfl (lv_at hl 0 rfl) ?_
        refine lv_iload_n hx hb dX6_sleep_40 rfl (lv_at hl 3 rfl) ?_
        refine lv_icmp_eq (tgt := 58) hx hb dX6_sleep_41 (by decide) (fun c_41 => ?_) (fun c_41 => ?_)
        · skip
          refine lv_aload_n hx hb dX6_sleep_58 rfl (lv_at hl 1 rfl) ?_
          refine lv_iconst (v := nI 2) hx hb dX6_sleep_59 (by decide) ?_
          have hF_60 : ∀ q, va_A (mb_w a k S 0) H.size q → A q := va_free hD hS hA [0, 1, 2, 3, 4, 5, 6, 7, 8, 9, 10, 11, 12, 13, 14] rfl
          refine va_calli (va_runV (As := [.int (nI 2)]) (rest := []) ⟨hx, hb, hml, hown, hts⟩ (c_X6_no l dC dI a k S 0 H.size 2) (cwV 1 hts gX6_sleep_X6_no rfl rfl rfl (by decide +kernel) ⟨(Nat.le_of_ble_eq_true rfl), (Nat.le_of_ble_eq_true rfl)⟩) ⟨cT_blind, va_recv hK hP (ci := 6) (q0 := 0) rfl rfl, fun U hU hW => ⟨rfl, cT_of hK hP hD hU hW⟩⟩ rfl rfl hl.1 rfl (lv_room (Nat.le_of_ble_eq_true rfl)) dX6_sleep_60 ⟨(by show 0 + 0 ≤ 0; omega), (by show 0 + 0 ≤ 0; omega)⟩) hS (fun q _ h => hF_60 q h) hF_60 (fun r_60 u8 t8 H_60 L_60_ ht hvm hw hB hz1 hk1 hS => ?_)
          obtain ⟨hP, -, hD9⟩ := hB
          rw [ht] at hP
          have hD := hD9.weaken (B := A) (fun _ q _ h => hF_60 q.1 h)
          have hP : va_P (dC, dI) vwCl (mb_w a k S 2) H_60 := hP
          have hD : va_D A (mb_w a k S 2) := hD
          subst hw
          have hk9 : k_sleep S x0 x1 = 2 := by rw [k_sleep, if_pos c_10, if_pos (Or.inr c_23), tu, if_pos (c_41.trans et.symm)]
          have ew : (mb_w a k S 2) = (mb_w a k (kS (k_sleep S x0 x1) (S_sleep S x0 x1) S) (k_sleep S x0 x1)) := (by rw [hk9]; first | done | rfl)
          have hP : va_P (dC, dI) vwCl (mb_w a k (kS (k_sleep S x0 x1) (S_sleep S x0 x1) S) (k_sleep S x0 x1)) H_60 := by rw [← ew]; exact hP
          have hD : va_D A (mb_w a k (kS (k_sleep S x0 x1) (S_sleep S x0 x1) S) (k_sleep S x0 x1)) := by rw [← ew]; exact hD
          rw [hQ]
          refine W.widen (k := 0) (n := 0) (by omega) (by omega) ?_
          exact W.iret (v := nI 0) hx hb hr (fun t9 ht9 hW9 => ⟨⟨nI 0, (), rfl, (fun h => absurd (hk9.symm.trans h) (by decide)), cB_of hP hK hD ht9 hW9⟩, hS.F ht9⟩) hS.2.2 dX6_sleep_63
        · skip
          refine lv_iload_n hx hb dX6_sleep_44 rfl (lv_at hl 3 rfl) ?_
          refine lv_iconst (v := (-1)) hx hb dX6_sleep_45 (by decide) ?_
          refine lv_icmp_eq (tgt := 64) hx hb dX6_sleep_46 (by decide) (fun c_46 => ?_) (fun c_46 => ?_)
          · skip
            exact absurd c_46.symm (nI_m1 (by omega))
          · skip
            refine lv_aload_n hx hb dX6_sleep_49 rfl (lv_at hl 1 rfl) ?_
            refine lv_iload_n hx hb dX6_sleep_50 rfl (lv_at hl 2 rfl) ?_
            refine lv_iload_n hx hb dX6_sleep_51 rfl (lv_at hl 3 rfl) ?_
            refine vp_callSi (W.runV (As := [.int (nI u), .int (nI t)]) (rest := []) ⟨hx, hb, hml, hown, hts⟩ (c_X6_canSleep l dC dI a k S 0 u t (by omega) (by omega) (by omega)) (cwV 2 hts gX6_sleep_X6_canSleep rfl rfl rfl (by decide +kernel) ⟨(Nat.le_of_ble_eq_true rfl), (Nat.le_of_ble_eq_true rfl)⟩) ⟨cR_blind, va_recv hK hP (ci := 6) (q0 := 0) rfl rfl, fun U hU hW => ⟨rfl, cR_of hK hP hU hW⟩⟩ rfl rfl hl.1 rfl (lv_room (Nat.le_of_ble_eq_true rfl)) dX6_sleep_52 ⟨(by show 0 + 0 ≤ 0; omega), (by show 0 + 0 ≤ 0; omega)⟩) (fun r er => ?_)
            subst er
            refine lv_if_ne (tgt := 64) hx hb dX6_sleep_55 (by decide) (fun c_55 => ?_) (fun c_55 => ?_)
            · have c_55 : (canT S u t) = true := bI_n c_55
              refine lv_aload_n hx hb dX6_sleep_64 rfl (lv_at hl 1 rfl) ?_
              refine va_get (D := (dC, dI)) (ci := 6) (v := .ref (a 5)) (C := RX6) (T := TX6) (N := 23) hx hb hts i_X6 hown hK hP 0 rfl rfl 8 (by decide) f_1 (fun _ h9 => h9) rfl dX6_sleep_65 ?_
              refine lv_iload_n hx hb dX6_sleep_68 rfl (lv_at hl 2 rfl) ?_
              refine lv_iload_n hx hb dX6_sleep_69 rfl (lv_at hl 3 rfl) ?_
              refine cb_iast hx hb hK hP hD hS 5 4 (f := c_ten S) rfl rfl (j := u) (by omega) (Nat.le_of_ble_eq_true rfl) dX6_sleep_70 (fun H locs hP hD hS => ?_)
              rw [wsM_ten] at hP hD
              have hP : va_P (dC, dI) vwCl (mb_w a k (s_ten S (upd (c_ten S) u (nI t))) 0) H := hP
              have hD : va_D A (mb_w a k (s_ten S (upd (c_ten S) u (nI t))) 0) := hD
              refine lv_iload_n hx hb dX6_sleep_71 rfl (lv_at hl 0 rfl) ?_
              have hk9 : k_sleep S x0 x1 = 0 := by rw [k_sleep, if_pos c_10, if_pos (Or.inr c_23), tu, if_neg (fun z => c_41 (z.trans et)), tt, if_pos (Or.inr c_55)]
              have ew : (mb_w a k (s_ten S (upd (c_ten S) u (nI t))) 0) = (mb_w a k (kS (k_sleep S x0 x1) (S_sleep S x0 x1) S) (k_sleep S x0 x1)) := (by rw [hk9, kS_0, S_sleep, tu, et]; first | done | rfl)
              have hP : va_P (dC, dI) vwCl (mb_w a k (kS (k_sleep S x0 x1) (S_sleep S x0 x1) S) (k_sleep S x0 x1)) H := by rw [← ew]; exact hP
              have hD : va_D A (mb_w a k (kS (k_sleep S x0 x1) (S_sleep S x0 x1) S) (k_sleep S x0 x1)) := by rw [← ew]; exact hD
              rw [hQ]
              refine W.widen (k := 0) (n := 0) (by omega) (by omega) ?_
              exact W.iret (v := c_ten S u) hx hb hr (fun t9 ht9 hW9 => ⟨⟨c_ten S u, (), rfl, (fun _ => by rw [r_sleep, tu]), cB_of hP hK hD ht9 hW9⟩, hS.F ht9⟩) hS.2.2 dX6_sleep_72
            · have c_55 : (canT S u t) = false := bI_0 c_55
              refine lv_aload_n hx hb dX6_sleep_58 rfl (lv_at hl 1 rfl) ?_
              refine lv_iconst (v := nI 2) hx hb dX6_sleep_59 (by decide) ?_
              have hF_60 : ∀ q, va_A (mb_w a k S 0) H.size q → A q := va_free hD hS hA [0, 1, 2, 3, 4, 5, 6, 7, 8, 9, 10, 11, 12, 13, 14] rfl
              refine va_calli (va_runV (As := [.int (nI 2)]) (rest := []) ⟨hx, hb, hml, hown, hts⟩ (c_X6_no l dC dI a k S 0 H.size 2) (cwV 1 hts gX6_sleep_X6_no rfl rfl rfl (by decide +kernel) ⟨(Nat.le_of_ble_eq_true rfl), (Nat.le_of_ble_eq_true rfl)⟩) ⟨cT_blind, va_recv hK hP (ci := 6) (q0 := 0) rfl rfl, fun U hU hW => ⟨rfl, cT_of hK hP hD hU hW⟩⟩ rfl rfl hl.1 rfl (lv_room (Nat.le_of_ble_eq_true rfl)) dX6_sleep_60 ⟨(by show 0 + 0 ≤ 0; omega), (by show 0 + 0 ≤ 0; omega)⟩) hS (fun q _ h => hF_60 q h) hF_60 (fun r_60 u8 t8 H_60 L_60_ ht hvm hw hB hz1 hk1 hS => ?_)
              obtain ⟨hP, -, hD9⟩ := hB
              rw [ht] at hP
              have hD := hD9.weaken (B := A) (fun _ q _ h => hF_60 q.1 h)
              have hP : va_P (dC, dI) vwCl (mb_w a k S 2) H_60 := hP
              have hD : va_D A (mb_w a k S 2) := hD
              subst hw
              have hk9 : k_sleep S x0 x1 = 2 := by rw [k_sleep, if_pos c_10, if_pos (Or.inr c_23), tu, if_neg (fun z => c_41 (z.trans et)), tt, if_neg (fun z => z.elim c_15 (fun z => by rw [c_55] at z; exact absurd z (by decide)))]
              have ew : (mb_w a k S 2) = (mb_w a k (kS (k_sleep S x0 x1) (S_sleep S x0 x1) S) (k_sleep S x0 x1)) := (by rw [hk9]; first | done | rfl)
              have hP : va_P (dC, dI) vwCl (mb_w a k (kS (k_sleep S x0 x1) (S_sleep S x0 x1) S) (k_sleep S x0 x1)) H_60 := by rw [← ew]; exact hP
              have hD : va_D A (mb_w a k (kS (k_sleep S x0 x1) (S_sleep S x0 x1) S) (k_sleep S x0 x1)) := by rw [← ew]; exact hD
              rw [hQ]
              refine W.widen (k := 0) (n := 0) (by omega) (by omega) ?_
              exact W.iret (v := nI 0) hx hb hr (fun t9 ht9 hW9 => ⟨⟨nI 0, (), rfl, (fun h => absurd (hk9.symm.trans h) (by decide)), cB_of hP hK hD ht9 hW9⟩, hS.F ht9⟩) hS.2.2 dX6_sleep_63
      · have c_23 : (ix x1 (c_nt S)) = false := bI_0 c_23
        refine lv_aload_n hx hb dX6_sleep_26 rfl (lv_at hl 0 rfl) ?_
        refine lv_iconst (v := nI 1) hx hb dX6_sleep_27 (by decide) ?_
        have hF_28 : ∀ q, va_A (mb_w a k S 0) H.size q → A q := va_free hD hS hA [0, 1, 2, 3, 4, 5, 6, 7, 8, 9, 10, 11, 12, 13, 14] rfl
        refine va_calli (va_runV (As := [.int (nI 1)]) (rest := []) ⟨hx, hb, hml, hown, hts⟩ (c_X6_no l dC dI a k S 0 H.size 1) (cwV 1 hts gX6_sleep_X6_no rfl rfl rfl (by decide +kernel) ⟨(Nat.le_of_ble_eq_true rfl), (Nat.le_of_ble_eq_true rfl)⟩) ⟨cT_blind, va_recv hK hP (ci := 6) (q0 := 0) rfl rfl, fun U hU hW => ⟨rfl, cT_of hK hP hD hU hW⟩⟩ rfl rfl hl.1 rfl (lv_room (Nat.le_of_ble_eq_true rfl)) dX6_sleep_28 ⟨(by show 0 + 0 ≤ 0; omega), (by show 0 + 0 ≤ 0; omega)⟩) hS (fun q _ h => hF_28 q h) hF_28 (fun r_28 u8 t8 H_28 L_28_ ht hvm hw hB hz1 hk1 hS => ?_)
        obtain ⟨hP, -, hD9⟩ := hB
        rw [ht] at hP
        have hD := hD9.weaken (B := A) (fun _ q _ h => hF_28 q.1 h)
        have hP : va_P (dC, dI) vwCl (mb_w a k S 1) H_28 := hP
        have hD : va_D A (mb_w a k S 1) := hD
        subst hw
        have hk9 : k_sleep S x0 x1 = 1 := by rw [k_sleep, if_pos c_10, if_neg (fun z => z.elim c_15 (fun z => by rw [c_23] at z; exact absurd z (by decide)))]
        have ew : (mb_w a k S 1) = (mb_w a k (kS (k_sleep S x0 x1) (S_sleep S x0 x1) S) (k_sleep S x0 x1)) := (by rw [hk9]; first | done | rfl)
        have hP : va_P (dC, dI) vwCl (mb_w a k (kS (k_sleep S x0 x1) (S_sleep S x0 x1) S) (k_sleep S x0 x1)) H_28 := by rw [← ew]; exact hP
        have hD : va_D A (mb_w a k (kS (k_sleep S x0 x1) (S_sleep S x0 x1) S) (k_sleep S x0 x1)) := by rw [← ew]; exact hD
        rw [hQ]
        refine W.widen (k := 0) (n := 0) (by omega) (by omega) ?_
        exact W.iret (v := nI 0) hx hb hr (fun t9 ht9 hW9 => ⟨⟨nI 0, (), rfl, (fun h => absurd (hk9.symm.trans h) (by decide)), cB_of hP hK hD ht9 hW9⟩, hS.F ht9⟩) hS.2.2 dX6_sleep_31
abbrev rm_X6_inTent : Room := { frames := 2, cells := 0, slots := 0, locals := 43 }
set_option maxHeartbeats 4000000 in
set_option maxRecDepth 100000 in
theorem c_X6_inTent (l : Launch) (dC : Nat → ClassId) (dI : Nat → Nat → Nat) (a : Nat → Nat) (k : Nat → ClassId) (S : cs_S) (th : Nat) (sz : Nat) (x0 : Int32) (hI : Inv S) : Met l yX6_inTent wsX6_inTent rm_X6_inTent (va_Pc [.ref (a 0), .int x0] (cT dC dI sz (mb_w a k S th) (mb_ty k))) (va_Ql (fun (r : Int64) (_ : Unit) => (k_inTent S x0 = 0 → r = r_inTent S x0)) (fun _ t => cB dC dI (va_A (mb_w a k S th) sz) (mb_w a k S (k_inTent S x0)) (mb_ty k) t) (va_A (mb_w a k S th) sz)) 0 0 (va_A (mb_w a k S th) sz) := by
  refine Met.ofW (cc := cX6_inTent) (maxL := 2) (ret := (some .long)) (by decide) rfl ?_
  intro p e s m args below meth c s₁ B hml hv
  obtain ⟨rfl, hsz, hP, hK, hD0⟩ := hv
  have hx := B.exec
  have hb := B.bytes
  have hr := B.returns
  have hts := atoms_spec (ws := wsX6_inTent) B.pre
  have hown : s.vm.findClass RX6 = some m.cls := findClass_of_methodNamed B.named
  have hlocks := B.notSynchronized
  subst hsz
  have hD := hD0.self (sz := s.heap.size)
  generalize hAe : va_A (mb_w a k S th) s.heap.size = A at hD ⊢
  have hA : ∀ q : Nat, s.heap.size ≤ q → A q := fun q h => by rw [← hAe]; exact Or.inr h
  have hS : va_S A s.heap s.heap [] := va_S.rf
  obtain ⟨Q, hQ⟩ : ∃ Q, Q = MQ below (va_Ql (fun (r : Int64) (_ : Unit) => (k_inTent S x0 = 0 → r = r_inTent S x0)) (fun _ t => cB dC dI A (mb_w a k S (k_inTent S x0)) (mb_ty k) t) A) ([.ref (a 0), .int x0] : List Value).toArray s 0 0 A := ⟨_, rfl⟩
  show W p l e rm_X6_inTent s m _ below meth c s.heap [] 0 0 (MQ below _ _ _ _ _ _) _
  rw [← hQ]
  have i_X6 : ∀ w ∈ wsX60, w ∈ wsX6_inTent := fun w h => List.mem_cons_of_mem _ (List.mem_append_right _ h)
  obtain ⟨⟨hday, hnp, hns, hnt, hnf, hnm, hnb, hme⟩, hpat, hage, hten, hcnt, hplc, heat, hned, hhld, hbad, hbad0, hbag⟩ := id hI
  have f_0 := hts (.fieldLink RX6 53 "CampBookModel" "thrown" "I") (by decide +kernel)
  have hl := lv_entry ([.ref (a 0), .int x0]) (n := 2) (Nat.le_of_ble_eq_true rfl)
  rw [lg_entry_eq]
  generalize (lg_sl ([.ref (a 0), .int x0]) ++ List.replicate (2 - (lg_sl ([.ref (a 0), .int x0])).length) Slot.unset).toArray = ls at hl ⊢
  have hl : lv_has ls 2 [(0, .ref (a 0)), (1, .int x0)] := hl
  refine lv_aload_n hx hb dX6_inTent_0 rfl (lv_at hl 0 rfl) ?_
  refine lv_aload_n hx hb dX6_inTent_1 rfl (lv_at hl 0 rfl) ?_
  refine lv_iload_n hx hb dX6_inTent_2 rfl (lv_at hl 1 rfl) ?_
  refine vp_callSi (W.runV (As := [.int x0]) (rest := [.ref (a 0)]) ⟨hx, hb, hml, hown, hts⟩ (c_X6_isTent l dC dI a k S th x0 hI) (cwV 1 hts gX6_inTent_X6_isTent rfl rfl rfl (by decide +kernel) ⟨(Nat.le_of_ble_eq_true rfl), (Nat.le_of_ble_eq_true rfl)⟩) ⟨cR_blind, va_recv hK hP (ci := 6) (q0 := 0) rfl rfl, fun U hU hW => ⟨rfl, cR_of hK hP hU hW⟩⟩ rfl rfl hl.1 rfl (lv_room (Nat.le_of_ble_eq_true rfl)) dX6_inTent_3 ⟨(by show 0 + 0 ≤ 0; omega), (by show 0 + 0 ≤ 0; omega)⟩) (fun r er => ?_)
  subst er
  refine lv_if_eq (tgt := 13) hx hb dX6_inTent_6 (by decide) (fun c_6 => ?_) (fun c_6 => ?_)
  · have c_6 : (ix x0 (c_nt S)) = false := bI_0 c_6
    refine lv_iconst (v := nI 1) hx hb dX6_inTent_13 (by decide) ?_
    refine va_put (D := (dC, dI)) (ci := 6) (v := .int (nI 1)) (ty := .int) (C := RX6) (T := TX6) (N := 23) hx hb hts i_X6 tyX6 tyX6_ok nmX6 hown hK hP hD hS 0 rfl rfl 0 (by decide) f_0 (fun _ h9 => h9) rfl (by decide +kernel) rfl rfl (Nat.le_of_ble_eq_true rfl) dX6_inTent_14 (fun H locs hP hD hS => ?_)
    rw [wsM_TH] at hP hD
    have hP : va_P (dC, dI) vwCl (mb_w a k S 1) H := hP
    have hD : va_D A (mb_w a k S 1) := hD
    refine lv_aload_n hx hb dX6_inTent_17 rfl (lv_at hl 0 rfl) ?_
    refine va_get (D := (dC, dI)) (ci := 6) (v := .int (nI 1)) (C := RX6) (T := TX6) (N := 23) hx hb hts i_X6 hown hK hP 0 rfl rfl 0 (by decide) f_0 (fun _ h9 => h9) rfl dX6_inTent_18 ?_
    refine lv_if_ne (tgt := 32) hx hb dX6_inTent_21 (by decide) (fun c_21 => ?_) (fun c_21 => ?_)
    · skip
      refine lv_lconst (v := lN 0) hx hb dX6_inTent_32 rfl ?_
      have hk9 : k_inTent S x0 = 1 := by simp only [k_inTent, c_6, if_true, if_false, Bool.false_eq_true, true_or, or_true, false_or, or_false, reduceCtorEq]
      have ew : (mb_w a k S 1) = (mb_w a k S (k_inTent S x0)) := (by rw [hk9]; first | done | rfl)
      have hP : va_P (dC, dI) vwCl (mb_w a k S (k_inTent S x0)) H := by rw [← ew]; exact hP
      have hD : va_D A (mb_w a k S (k_inTent S x0)) := by rw [← ew]; exact hD
      rw [hQ]
      refine W.widen (k := 0) (n := 0) (by omega) (by omega) ?_
      exact W.lret (v := lN 0) hx hb hr (fun t9 ht9 hW9 => ⟨⟨lN 0, (), rfl, (fun h => absurd (hk9.symm.trans h) (by decide)), cB_of hP hK hD ht9 hW9⟩, hS.F ht9⟩) hS.2.2 dX6_inTent_33
    · exact absurd c_21 (by decide)
  · have c_6 : (ix x0 (c_nt S)) = true := bI_n c_6
    obtain ⟨t, ht, et⟩ := ix_t c_6 (by omega)
    rw [et] at hl
    have tt : toN x0 = t := by rw [et]; exact tn (by omega)
    refine lv_iconst (v := nI 0) hx hb dX6_inTent_9 (by decide) ?_
    refine lv_goto (tgt := 14) hx hb dX6_inTent_10 (by decide) ?_
    refine va_put (D := (dC, dI)) (ci := 6) (v := .int (nI 0)) (ty := .int) (C := RX6) (T := TX6) (N := 23) hx hb hts i_X6 tyX6 tyX6_ok nmX6 hown hK hP hD hS 0 rfl rfl 0 (by decide) f_0 (fun _ h9 => h9) rfl (by decide +kernel) rfl rfl (Nat.le_of_ble_eq_true rfl) dX6_inTent_14 (fun H locs hP hD hS => ?_)
    rw [wsM_TH] at hP hD
    have hP : va_P (dC, dI) vwCl (mb_w a k S 0) H := hP
    have hD : va_D A (mb_w a k S 0) := hD
    refine lv_aload_n hx hb dX6_inTent_17 rfl (lv_at hl 0 rfl) ?_
    refine va_get (D := (dC, dI)) (ci := 6) (v := .int (nI 0)) (C := RX6) (T := TX6) (N := 23) hx hb hts i_X6 hown hK hP 0 rfl rfl 0 (by decide) f_0 (fun _ h9 => h9) rfl dX6_inTent_18 ?_
    refine lv_if_ne (tgt := 32) hx hb dX6_inTent_21 (by decide) (fun c_21 => ?_) (fun c_21 => ?_)
    · exact absurd c_21 (by decide)
    · skip
      refine lv_aload_n hx hb dX6_inTent_24 rfl (lv_at hl 0 rfl) ?_
      refine lv_iload_n hx hb dX6_inTent_25 rfl (lv_at hl 1 rfl) ?_
      refine vp_callSl (W.runV (As := [.int (nI t)]) (rest := []) ⟨hx, hb, hml, hown, hts⟩ (c_X6_in l dC dI a k S 0 t (by omega)) (cwV 1 hts gX6_inTent_X6_in rfl rfl rfl (by decide +kernel) ⟨(Nat.le_of_ble_eq_true rfl), (Nat.le_of_ble_eq_true rfl)⟩) ⟨cR_blind, va_recv hK hP (ci := 6) (q0 := 0) rfl rfl, fun U hU hW => ⟨rfl, cR_of hK hP hU hW⟩⟩ rfl rfl hl.1 rfl (lv_room (Nat.le_of_ble_eq_true rfl)) dX6_inTent_26 ⟨(by show 0 + 0 ≤ 0; omega), (by show 0 + 0 ≤ 0; omega)⟩) (fun r er => ?_)
      subst er
      refine lv_goto (tgt := 33) hx hb dX6_inTent_29 (by decide) ?_
      have hk9 : k_inTent S x0 = 0 := by simp only [k_inTent, c_6, tt, if_true, if_false, Bool.false_eq_true, true_or, or_true, false_or, or_false, reduceCtorEq]
      have ew : (mb_w a k S 0) = (mb_w a k S (k_inTent S x0)) := (by rw [hk9]; first | done | rfl)
      have hP : va_P (dC, dI) vwCl (mb_w a k S (k_inTent S x0)) H := by rw [← ew]; exact hP
      have hD : va_D A (mb_w a k S (k_inTent S x0)) := by rw [← ew]; exact hD
      rw [hQ]
      refine W.widen (k := 0) (n := 0) (by omega) (by omega) ?_
      exact W.lret (v := lN (bs (inT S t) (c_ns S))) hx hb hr (fun t9 ht9 hW9 => ⟨⟨lN (bs (inT S t) (c_ns S)), (), rfl, (fun _ => by rw [r_inTent, tt]; rfl), cB_of hP hK hD ht9 hW9⟩, hS.F ht9⟩) hS.2.2 dX6_inTent_33
abbrev rm_X6_count : Room := { frames := 2, cells := 1, slots := 7, locals := 46 }
set_option maxHeartbeats 4000000 in
set_option maxRecDepth 100000 in
theorem c_X6_count (l : Launch) (dC : Nat → ClassId) (dI : Nat → Nat → Nat) (a : Nat → Nat) (k : Nat → ClassId) (S : cs_S) (th : Nat) (sz : Nat) (x0 : Int32) (hI : Inv S) : Met l yX6_count wsX6_count rm_X6_count (va_Pc [.ref (a 0), .int x0] (cT dC dI sz (mb_w a k S th) (mb_ty k))) (va_Qi (fun (r : Int32) (_ : Unit) => (k_count x0 = 0 → r = r_count S x0)) (fun _ t => cB dC dI (va_A (mb_w a k S th) sz) (mb_w a k S (k_count x0)) (mb_ty k) t) (va_A (mb_w a k S th) sz)) 1 7 (va_A (mb_w a k S th) sz) := by
  refine Met.ofW (cc := cX6_count) (maxL := 2) (ret := (some .int)) (by decide) rfl ?_
  intro p e s m args below meth c s₁ B hml hv
  obtain ⟨rfl, hsz, hP, hK, hD0⟩ := hv
  have hx := B.exec
  have hb := B.bytes
  have hr := B.returns
  have hts := atoms_spec (ws := wsX6_count) B.pre
  have hown : s.vm.findClass RX6 = some m.cls := findClass_of_methodNamed B.named
  have hlocks := B.notSynchronized
  subst hsz
  have hD := hD0.self (sz := s.heap.size)
  generalize hAe : va_A (mb_w a k S th) s.heap.size = A at hD ⊢
  have hA : ∀ q : Nat, s.heap.size ≤ q → A q := fun q h => by rw [← hAe]; exact Or.inr h
  have hS : va_S A s.heap s.heap [] := va_S.rf
  obtain ⟨Q, hQ⟩ : ∃ Q, Q = MQ below (va_Qi (fun (r : Int32) (_ : Unit) => (k_count x0 = 0 → r = r_count S x0)) (fun _ t => cB dC dI A (mb_w a k S (k_count x0)) (mb_ty k) t) A) ([.ref (a 0), .int x0] : List Value).toArray s 1 7 A := ⟨_, rfl⟩
  show W p l e rm_X6_count s m _ below meth c s.heap [] 0 0 (MQ below _ _ _ _ _ _) _
  rw [← hQ]
  have i_X6 : ∀ w ∈ wsX60, w ∈ wsX6_count := fun w h => List.mem_cons_of_mem _ (List.mem_append_right _ h)
  obtain ⟨⟨hday, hnp, hns, hnt, hnf, hnm, hnb, hme⟩, hpat, hage, hten, hcnt, hplc, heat, hned, hhld, hbad, hbad0, hbag⟩ := id hI
  have f_0 := hts (.fieldLink RX6 53 "CampBookModel" "thrown" "I") (by decide +kernel)
  have hl := lv_entry ([.ref (a 0), .int x0]) (n := 2) (Nat.le_of_ble_eq_true rfl)
  rw [lg_entry_eq]
  generalize (lg_sl ([.ref (a 0), .int x0]) ++ List.replicate (2 - (lg_sl ([.ref (a 0), .int x0])).length) Slot.unset).toArray = ls at hl ⊢
  have hl : lv_has ls 2 [(0, .ref (a 0)), (1, .int x0)] := hl
  refine lv_aload_n hx hb dX6_count_0 rfl (lv_at hl 0 rfl) ?_
  refine lv_iconst (v := nI 0) hx hb dX6_count_1 (by decide) ?_
  refine va_put (D := (dC, dI)) (ci := 6) (v := .int (nI 0)) (ty := .int) (C := RX6) (T := TX6) (N := 23) hx hb hts i_X6 tyX6 tyX6_ok nmX6 hown hK hP hD hS 0 rfl rfl 0 (by decide) f_0 (fun _ h9 => h9) rfl (by decide +kernel) rfl rfl (Nat.le_of_ble_eq_true rfl) dX6_count_2 (fun H locs hP hD hS => ?_)
  rw [wsM_TH] at hP hD
  have hP : va_P (dC, dI) vwCl (mb_w a k S 0) H := hP
  have hD : va_D A (mb_w a k S 0) := hD
  refine lv_iload_n hx hb dX6_count_5 rfl (lv_at hl 1 rfl) ?_
  refine lv_iconst (v := nI 0) hx hb dX6_count_6 (by decide) ?_
  refine lv_bipush (v := nI 6) hx hb dX6_count_7 (by decide) ?_
  refine vp_callSi (W.runS (As := [.int x0, .int (nI 0), .int (nI 6)]) (rest := []) ⟨hx, hb, hml, hown, hts⟩ (c_X6_isIn l x0 (nI 0) (nI 6)) (va_cwS 3 hts gX6_count_X6_isIn rfl rfl rfl (by decide +kernel) ⟨(Nat.le_of_ble_eq_true rfl), (Nat.le_of_ble_eq_true rfl)⟩) ⟨cN_blind, fun U hU hW => ⟨rfl, trivial⟩⟩ rfl rfl hl.1 rfl (lv_room (Nat.le_of_ble_eq_true rfl)) dX6_count_9 ⟨(by show 0 + 0 ≤ 1; omega), (by show 0 + 0 ≤ 7; omega)⟩) (fun r er => ?_)
  subst er
  refine cb_topi (z := bI (ix x0 7)) (congrArg bI (inR_ixm x0 (by omega))) ?_
  refine lv_if_eq (tgt := 23) hx hb dX6_count_12 (by decide) (fun c_12 => ?_) (fun c_12 => ?_)
  · have c_12 : (ix x0 7) = false := bI_0 c_12
    refine lv_aload_n hx hb dX6_count_23 rfl (lv_at hl 0 rfl) ?_
    refine lv_iconst (v := nI 1) hx hb dX6_count_24 (by decide) ?_
    have hF_25 : ∀ q, va_A (mb_w a k S 0) H.size q → A q := va_free hD hS hA [0, 1, 2, 3, 4, 5, 6, 7, 8, 9, 10, 11, 12, 13, 14] rfl
    refine va_calli (va_runV (As := [.int (nI 1)]) (rest := []) ⟨hx, hb, hml, hown, hts⟩ (c_X6_no l dC dI a k S 0 H.size 1) (cwV 1 hts gX6_count_X6_no rfl rfl rfl (by decide +kernel) ⟨(Nat.le_of_ble_eq_true rfl), (Nat.le_of_ble_eq_true rfl)⟩) ⟨cT_blind, va_recv hK hP (ci := 6) (q0 := 0) rfl rfl, fun U hU hW => ⟨rfl, cT_of hK hP hD hU hW⟩⟩ rfl rfl hl.1 rfl (lv_room (Nat.le_of_ble_eq_true rfl)) dX6_count_25 ⟨(by show 0 + 0 ≤ 1; omega), (by show 0 + 0 ≤ 7; omega)⟩) hS (fun q _ h => hF_25 q h) hF_25 (fun r_25 u8 t8 H_25 L_25_ ht hvm hw hB hz1 hk1 hS => ?_)
    obtain ⟨hP, -, hD9⟩ := hB
    rw [ht] at hP
    have hD := hD9.weaken (B := A) (fun _ q _ h => hF_25 q.1 h)
    have hP : va_P (dC, dI) vwCl (mb_w a k S 1) H_25 := hP
    have hD : va_D A (mb_w a k S 1) := hD
    subst hw
    have hk9 : k_count x0 = 1 := by simp only [k_count, c_12, if_true, if_false, Bool.false_eq_true, true_or, or_true, false_or, or_false, reduceCtorEq]
    have ew : (mb_w a k S 1) = (mb_w a k S (k_count x0)) := (by rw [hk9]; first | done | rfl)
    have hP : va_P (dC, dI) vwCl (mb_w a k S (k_count x0)) H_25 := by rw [← ew]; exact hP
    have hD : va_D A (mb_w a k S (k_count x0)) := by rw [← ew]; exact hD
    rw [hQ]
    refine W.widen (k := 1) (n := 7) (by omega) (by omega) ?_
    exact W.iret (v := nI 0) hx hb hr (fun t9 ht9 hW9 => ⟨⟨nI 0, (), rfl, (fun h => absurd (hk9.symm.trans h) (by decide)), cB_of hP hK hD ht9 hW9⟩, hS.F ht9⟩) hS.2.2 dX6_count_28
  · have c_12 : (ix x0 7) = true := bI_n c_12
    obtain ⟨w9, hw9, ew9⟩ := ix_t c_12 (by omega)
    rw [ew9] at hl
    have tw9 : toN x0 = w9 := by rw [ew9]; exact tn (by omega)
    refine lv_aload_n hx hb dX6_count_15 rfl (lv_at hl 0 rfl) ?_
    refine lv_iload_n hx hb dX6_count_16 rfl (lv_at hl 1 rfl) ?_
    have hF_17 : ∀ q, va_A (mb_w a k S 0) H.size q → A q := va_free hD hS hA [0, 1, 2, 3, 4, 5, 6, 7, 8, 9, 10, 11, 12, 13, 14] rfl
    refine va_calli (va_runV (As := [.int (nI w9)]) (rest := []) ⟨hx, hb, hml, hown, hts⟩ (c_X6_counted l dC dI a k S 0 H.size w9 (by omega) (by omega)) (cwV 1 hts gX6_count_X6_counted rfl rfl rfl (by decide +kernel) ⟨(Nat.le_of_ble_eq_true rfl), (Nat.le_of_ble_eq_true rfl)⟩) ⟨cT_blind, va_recv hK hP (ci := 6) (q0 := 0) rfl rfl, fun U hU hW => ⟨rfl, cT_of hK hP hD hU hW⟩⟩ rfl rfl hl.1 rfl (lv_room (Nat.le_of_ble_eq_true rfl)) dX6_count_17 ⟨(by show 0 + 1 ≤ 1; omega), (by show 0 + 7 ≤ 7; omega)⟩) hS (fun q _ h => hF_17 q h) hF_17 (fun r_17 u8 t8 H_17 L_17_ ht hvm hw hB hz1 hk1 hS => ?_)
    obtain ⟨hP, -, hD9⟩ := hB
    rw [ht] at hP
    have hD := hD9.weaken (B := A) (fun _ q _ h => hF_17 q.1 h)
    have hP : va_P (dC, dI) vwCl (mb_w a k S 0) H_17 := hP
    have hD : va_D A (mb_w a k S 0) := hD
    subst hw
    refine lv_goto (tgt := 28) hx hb dX6_count_20 (by decide) ?_
    have hk9 : k_count x0 = 0 := by simp only [k_count, c_12, tw9, if_true, if_false, Bool.false_eq_true, true_or, or_true, false_or, or_false, reduceCtorEq]
    have ew : (mb_w a k S 0) = (mb_w a k S (k_count x0)) := (by rw [hk9]; first | done | rfl)
    have hP : va_P (dC, dI) vwCl (mb_w a k S (k_count x0)) H_17 := by rw [← ew]; exact hP
    have hD : va_D A (mb_w a k S (k_count x0)) := by rw [← ew]; exact hD
    rw [hQ]
    refine W.widen (k := 1) (n := 7) (by omega) (by omega) ?_
    exact W.iret (v := cnts S w9) hx hb hr (fun t9 ht9 hW9 => ⟨⟨cnts S w9, (), rfl, (fun _ => by rw [r_count, tw9]), cB_of hP hK hD ht9 hW9⟩, hS.F ht9⟩) hS.2.2 dX6_count_28
abbrev rm_X6_giveDuty : Room := { frames := 3, cells := 0, slots := 0, locals := 69 }
set_option maxHeartbeats 4000000 in
set_option maxRecDepth 100000 in
theorem c_X6_giveDuty (l : Launch) (dC : Nat → ClassId) (dI : Nat → Nat → Nat) (a : Nat → Nat) (k : Nat → ClassId) (S : cs_S) (th : Nat) (sz : Nat) (x0 : Int32) (x1 : Int32) (x2 : Int32) (hI : Inv S) : Met l yX6_giveDuty wsX6_giveDuty rm_X6_giveDuty (va_Pc [.ref (a 0), .int x0, .int x1, .int x2] (cT dC dI sz (mb_w a k S th) (mb_ty k))) (va_Qi (fun (r : Int32) (_ : Unit) => (k_giveDuty S x0 x1 x2 = 0 → r = r_giveDuty S x0 x1)) (fun _ t => cB dC dI (va_A (mb_w a k S th) sz) (mb_w a k (kS (k_giveDuty S x0 x1 x2) (S_giveDuty S x0 x1 x2) S) (k_giveDuty S x0 x1 x2)) (mb_ty k) t) (va_A (mb_w a k S th) sz)) 0 0 (va_A (mb_w a k S th) sz) := by
  refine Met.ofW (cc := cX6_giveDuty) (maxL := 5) (ret := (some .int)) (by decide) rfl ?_
  intro p e s m args below meth c s₁ B hml hv
  obtain ⟨rfl, hsz, hP, hK, hD0⟩ := hv
  have hx := B.exec
  have hb := B.bytes
  have hr := B.returns
  have hts := atoms_spec (ws := wsX6_giveDuty) B.pre
  have hown : s.vm.findClass RX6 = some m.cls := findClass_of_methodNamed B.named
  have hlocks := B.notSynchronized
  subst hsz
  have hD := hD0.self (sz := s.heap.size)
  generalize hAe : va_A (mb_w a k S th) s.heap.size = A at hD ⊢
  have hA : ∀ q : Nat, s.heap.size ≤ q → A q := fun q h => by rw [← hAe]; exact Or.inr h
  have hS : va_S A s.heap s.heap [] := va_S.rf
  obtain ⟨Q, hQ⟩ : ∃ Q, Q = MQ below (va_Qi (fun (r : Int32) (_ : Unit) => (k_giveDuty S x0 x1 x2 = 0 → r = r_giveDuty S x0 x1)) (fun _ t => cB dC dI A (mb_w a k (kS (k_giveDuty S x0 x1 x2) (S_giveDuty S x0 x1 x2) S) (k_giveDuty S x0 x1 x2)) (mb_ty k) t) A) ([.ref (a 0), .int x0, .int x1, .int x2] : List Value).toArray s 0 0 A := ⟨_, rfl⟩
  show W p l e rm_X6_giveDuty s m _ below meth c s.heap [] 0 0 (MQ below _ _ _ _ _ _) _
  rw [← hQ]
  have i_X6 : ∀ w ∈ wsX60, w ∈ wsX6_giveDuty := fun w h => List.mem_cons_of_mem _ (List.mem_append_right _ h)
  obtain ⟨⟨hday, hnp, hns, hnt, hnf, hnm, hnb, hme⟩, hpat, hage, hten, hcnt, hplc, heat, hned, hhld, hbad, hbad0, hbag⟩ := id hI
  have f_0 := hts (.fieldLink RX6 53 "CampBookModel" "thrown" "I") (by decide +kernel)
  have f_1 := hts (.fieldLink RX6 128 "CampBookModel" "day" "I") (by decide +kernel)
  have f_2 := hts (.fieldLink RX6 38 "CampBookModel" "duties" "[I") (by decide +kernel)
  have hl := lv_entry ([.ref (a 0), .int x0, .int x1, .int x2]) (n := 5) (Nat.le_of_ble_eq_true rfl)
  rw [lg_entry_eq]
  generalize (lg_sl ([.ref (a 0), .int x0, .int x1, .int x2]) ++ List.replicate (5 - (lg_sl ([.ref (a 0), .int x0, .int x1, .int x2])).length) Slot.unset).toArray = ls at hl ⊢
  have hl : lv_has ls 5 [(0, .ref (a 0)), (1, .int x0), (2, .int x1), (3, .int x2)] := hl
  refine lv_aload_n hx hb dX6_giveDuty_0 rfl (lv_at hl 0 rfl) ?_
  refine lv_iconst (v := nI 0) hx hb dX6_giveDuty_1 (by decide) ?_
  refine va_put (D := (dC, dI)) (ci := 6) (v := .int (nI 0)) (ty := .int) (C := RX6) (T := TX6) (N := 23) hx hb hts i_X6 tyX6 tyX6_ok nmX6 hown hK hP hD hS 0 rfl rfl 0 (by decide) f_0 (fun _ h9 => h9) rfl (by decide +kernel) rfl rfl (Nat.le_of_ble_eq_true rfl) dX6_giveDuty_2 (fun H locs hP hD hS => ?_)
  rw [wsM_TH] at hP hD
  have hP : va_P (dC, dI) vwCl (mb_w a k S 0) H := hP
  have hD : va_D A (mb_w a k S 0) := hD
  refine lv_iload_n hx hb dX6_giveDuty_5 rfl (lv_at hl 2 rfl) ?_
  refine lv_iconst (v := nI 0) hx hb dX6_giveDuty_6 (by decide) ?_
  refine lv_iconst (v := nI 4) hx hb dX6_giveDuty_7 (by decide) ?_
  refine vp_callSi (W.runS (As := [.int x1, .int (nI 0), .int (nI 4)]) (rest := []) ⟨hx, hb, hml, hown, hts⟩ (c_X6_isIn l x1 (nI 0) (nI 4)) (va_cwS 3 hts gX6_giveDuty_X6_isIn rfl rfl rfl (by decide +kernel) ⟨(Nat.le_of_ble_eq_true rfl), (Nat.le_of_ble_eq_true rfl)⟩) ⟨cN_blind, fun U hU hW => ⟨rfl, trivial⟩⟩ rfl rfl hl.1 rfl (lv_room (Nat.le_of_ble_eq_true rfl)) dX6_giveDuty_8 ⟨(by show 0 + 0 ≤ 0; omega), (by show 0 + 0 ≤ 0; omega)⟩) (fun r er => ?_)
  subst er
  refine cb_topi (z := bI (ix x1 5)) (congrArg bI (inR_ixm x1 (by omega))) ?_
  refine lv_if_eq (tgt := 27) hx hb dX6_giveDuty_11 (by decide) (fun c_11 => ?_) (fun c_11 => ?_)
  · have c_11 : (ix x1 5) = false := bI_0 c_11
    refine lv_aload_n hx hb dX6_giveDuty_27 rfl (lv_at hl 0 rfl) ?_
    refine lv_iconst (v := nI 1) hx hb dX6_giveDuty_28 (by decide) ?_
    have hF_29 : ∀ q, va_A (mb_w a k S 0) H.size q → A q := va_free hD hS hA [0, 1, 2, 3, 4, 5, 6, 7, 8, 9, 10, 11, 12, 13, 14] rfl
    refine va_calli (va_runV (As := [.int (nI 1)]) (rest := []) ⟨hx, hb, hml, hown, hts⟩ (c_X6_no l dC dI a k S 0 H.size 1) (cwV 1 hts gX6_giveDuty_X6_no rfl rfl rfl (by decide +kernel) ⟨(Nat.le_of_ble_eq_true rfl), (Nat.le_of_ble_eq_true rfl)⟩) ⟨cT_blind, va_recv hK hP (ci := 6) (q0 := 0) rfl rfl, fun U hU hW => ⟨rfl, cT_of hK hP hD hU hW⟩⟩ rfl rfl hl.1 rfl (lv_room (Nat.le_of_ble_eq_true rfl)) dX6_giveDuty_29 ⟨(by show 0 + 0 ≤ 0; omega), (by show 0 + 0 ≤ 0; omega)⟩) hS (fun q _ h => hF_29 q h) hF_29 (fun r_29 u8 t8 H_29 L_29_ ht hvm hw hB hz1 hk1 hS => ?_)
    obtain ⟨hP, -, hD9⟩ := hB
    rw [ht] at hP
    have hD := hD9.weaken (B := A) (fun _ q _ h => hF_29 q.1 h)
    have hP : va_P (dC, dI) vwCl (mb_w a k S 1) H_29 := hP
    have hD : va_D A (mb_w a k S 1) := hD
    subst hw
    have hk9 : k_giveDuty S x0 x1 x2 = 1 := by rw [k_giveDuty, if_neg (by rw [c_11]; decide)]
    have ew : (mb_w a k S 1) = (mb_w a k (kS (k_giveDuty S x0 x1 x2) (S_giveDuty S x0 x1 x2) S) (k_giveDuty S x0 x1 x2)) := (by rw [hk9]; first | done | rfl)
    have hP : va_P (dC, dI) vwCl (mb_w a k (kS (k_giveDuty S x0 x1 x2) (S_giveDuty S x0 x1 x2) S) (k_giveDuty S x0 x1 x2)) H_29 := by rw [← ew]; exact hP
    have hD : va_D A (mb_w a k (kS (k_giveDuty S x0 x1 x2) (S_giveDuty S x0 x1 x2) S) (k_giveDuty S x0 x1 x2)) := by rw [← ew]; exact hD
    rw [hQ]
    refine W.widen (k := 0) (n := 0) (by omega) (by omega) ?_
    exact W.iret (v := nI 0) hx hb hr (fun t9 ht9 hW9 => ⟨⟨nI 0, (), rfl, (fun h => absurd (hk9.symm.trans h) (by decide)), cB_of hP hK hD ht9 hW9⟩, hS.F ht9⟩) hS.2.2 dX6_giveDuty_32
  · have c_11 : (ix x1 5) = true := bI_n c_11
    obtain ⟨q, hq, eq⟩ := ix_t c_11 (by omega)
    rw [eq] at hl
    have tq : toN x1 = q := by rw [eq]; exact tn (by omega)
    refine lv_iload_n hx hb dX6_giveDuty_14 rfl (lv_at hl 3 rfl) ?_
    refine lv_iconst (v := (-1)) hx hb dX6_giveDuty_15 (by decide) ?_
    refine lv_icmp_eq (tgt := 33) hx hb dX6_giveDuty_16 (by decide) (fun c_16 => ?_) (fun c_16 => ?_)
    · skip
      refine lv_iload_n hx hb dX6_giveDuty_33 rfl (lv_at hl 1 rfl) ?_
      refine lv_aload_n hx hb dX6_giveDuty_34 rfl (lv_at hl 0 rfl) ?_
      refine va_get (D := (dC, dI)) (ci := 6) (v := .int (nI (c_day S))) (C := RX6) (T := TX6) (N := 23) hx hb hts i_X6 hown hK hP 0 rfl rfl 1 (by decide) f_1 (fun _ h9 => h9) rfl dX6_giveDuty_35 ?_
      refine lv_bipush (v := nI 60) hx hb dX6_giveDuty_38 (by decide) ?_
      refine vp_callSi (W.runS (As := [.int x0, .int (nI (c_day S)), .int (nI 60)]) (rest := []) ⟨hx, hb, hml, hown, hts⟩ (c_X6_isIn l x0 (nI (c_day S)) (nI 60)) (va_cwS 3 hts gX6_giveDuty_X6_isIn rfl rfl rfl (by decide +kernel) ⟨(Nat.le_of_ble_eq_true rfl), (Nat.le_of_ble_eq_true rfl)⟩) ⟨cN_blind, fun U hU hW => ⟨rfl, trivial⟩⟩ rfl rfl hl.1 rfl (lv_room (Nat.le_of_ble_eq_true rfl)) dX6_giveDuty_40 ⟨(by show 0 + 0 ≤ 0; omega), (by show 0 + 0 ≤ 0; omega)⟩) (fun r er => ?_)
      subst er
      refine lv_if_ne (tgt := 52) hx hb dX6_giveDuty_43 (by decide) (fun c_43 => ?_) (fun c_43 => ?_)
      · have c_43 : (inR x0 (nI (c_day S)) (nI 60)) = true := bI_n c_43
        obtain ⟨d, hdl, hd, ed⟩ := inR_ex (by omega) (by omega) c_43
        rw [ed] at hl
        have td : toN x0 = d := by rw [ed]; exact tn (by omega)
        refine lv_iload_n hx hb dX6_giveDuty_52 rfl (lv_at hl 3 rfl) ?_
        refine lv_iconst (v := (-1)) hx hb dX6_giveDuty_53 (by decide) ?_
        refine lv_icmp_eq (tgt := 73) hx hb dX6_giveDuty_54 (by decide) (fun c_54 => ?_) (fun c_54 => ?_)
        · skip
          refine lv_aload_n hx hb dX6_giveDuty_73 rfl (lv_at hl 0 rfl) ?_
          refine lv_iload_n hx hb dX6_giveDuty_74 rfl (lv_at hl 1 rfl) ?_
          refine lv_iload_n hx hb dX6_giveDuty_75 rfl (lv_at hl 2 rfl) ?_
          refine vp_callSi (W.runV (As := [.int (nI d), .int (nI q)]) (rest := []) ⟨hx, hb, hml, hown, hts⟩ (c_X6_at l dC dI a k S 0 (nI d) q (by omega)) (cwV 2 hts gX6_giveDuty_X6_at rfl rfl rfl (by decide +kernel) ⟨(Nat.le_of_ble_eq_true rfl), (Nat.le_of_ble_eq_true rfl)⟩) ⟨cR_blind, va_recv hK hP (ci := 6) (q0 := 0) rfl rfl, fun U hU hW => ⟨rfl, cR_of hK hP hU hW⟩⟩ rfl rfl hl.1 rfl (lv_room (Nat.le_of_ble_eq_true rfl)) dX6_giveDuty_76 ⟨(by show 0 + 0 ≤ 0; omega), (by show 0 + 0 ≤ 0; omega)⟩) (fun r er => ?_)
          subst er
          refine cb_topi (z := c_hld S (d * 5 + q)) (hol_nI (by omega)) ?_
          refine lv_istore (lv' := [(4, .int (c_hld S (d * 5 + q))), (0, .ref (a 0)), (1, .int (nI d)), (2, .int (nI q)), (3, .int x2)]) hx hb dX6_giveDuty_79 hl (by decide) rfl (fun ls hl => ?_)
          refine lv_aload_n hx hb dX6_giveDuty_81 rfl (lv_at hl 1 rfl) ?_
          refine va_get (D := (dC, dI)) (ci := 6) (v := .ref (a 10)) (C := RX6) (T := TX6) (N := 23) hx hb hts i_X6 hown hK hP 0 rfl rfl 14 (by decide) f_2 (fun _ h9 => h9) rfl dX6_giveDuty_82 ?_
          refine lv_iconst (v := nI 5) hx hb dX6_giveDuty_85 (by decide) ?_
          refine lv_iload_n hx hb dX6_giveDuty_86 rfl (lv_at hl 2 rfl) ?_
          refine lv_imul hx hb dX6_giveDuty_87 ?_
          refine cb_topi (pk_mul _ _) ?_
          refine lv_iload_n hx hb dX6_giveDuty_88 rfl (lv_at hl 3 rfl) ?_
          refine lv_iadd hx hb dX6_giveDuty_89 ?_
          refine cb_topi (nI_add _ _) ?_
          refine cb_topi (z := nI (d * 5 + q)) (congrArg nI (by omega)) ?_
          refine lv_iload_n hx hb dX6_giveDuty_90 rfl (lv_at hl 4 rfl) ?_
          refine cb_iast hx hb hK hP hD hS 10 9 (f := c_hld S) rfl rfl (j := d * 5 + q) (by omega) (Nat.le_of_ble_eq_true rfl) dX6_giveDuty_91 (fun H locs hP hD hS => ?_)
          rw [wsM_hld] at hP hD
          have hP : va_P (dC, dI) vwCl (mb_w a k (s_hld S (upd (c_hld S) (d * 5 + q) x2)) 0) H := hP
          have hD : va_D A (mb_w a k (s_hld S (upd (c_hld S) (d * 5 + q) x2)) 0) := hD
          refine lv_iload hx hb dX6_giveDuty_92 (lv_at hl 0 rfl) ?_
          have hk9 : k_giveDuty S x0 x1 x2 = 0 := by rw [k_giveDuty, if_pos c_11, if_pos (Or.inl c_16), if_pos c_43, td, tq, if_pos (Or.inl c_16)]
          have ew : (mb_w a k (s_hld S (upd (c_hld S) (d * 5 + q) x2)) 0) = (mb_w a k (kS (k_giveDuty S x0 x1 x2) (S_giveDuty S x0 x1 x2) S) (k_giveDuty S x0 x1 x2)) := (by rw [hk9, kS_0, S_giveDuty, td, tq]; first | done | rfl)
          have hP : va_P (dC, dI) vwCl (mb_w a k (kS (k_giveDuty S x0 x1 x2) (S_giveDuty S x0 x1 x2) S) (k_giveDuty S x0 x1 x2)) H := by rw [← ew]; exact hP
          have hD : va_D A (mb_w a k (kS (k_giveDuty S x0 x1 x2) (S_giveDuty S x0 x1 x2) S) (k_giveDuty S x0 x1 x2)) := by rw [← ew]; exact hD
          rw [hQ]
          refine W.widen (k := 0) (n := 0) (by omega) (by omega) ?_
          exact W.iret (v := c_hld S (d * 5 + q)) hx hb hr (fun t9 ht9 hW9 => ⟨⟨c_hld S (d * 5 + q), (), rfl, (fun _ => by rw [r_giveDuty, td, tq]), cB_of hP hK hD ht9 hW9⟩, hS.F ht9⟩) hS.2.2 dX6_giveDuty_94
        · skip
          exact absurd c_16 c_54
      · have c_43 : (inR x0 (nI (c_day S)) (nI 60)) = false := bI_0 c_43
        refine lv_aload_n hx hb dX6_giveDuty_46 rfl (lv_at hl 0 rfl) ?_
        refine lv_iconst (v := nI 2) hx hb dX6_giveDuty_47 (by decide) ?_
        have hF_48 : ∀ q, va_A (mb_w a k S 0) H.size q → A q := va_free hD hS hA [0, 1, 2, 3, 4, 5, 6, 7, 8, 9, 10, 11, 12, 13, 14] rfl
        refine va_calli (va_runV (As := [.int (nI 2)]) (rest := []) ⟨hx, hb, hml, hown, hts⟩ (c_X6_no l dC dI a k S 0 H.size 2) (cwV 1 hts gX6_giveDuty_X6_no rfl rfl rfl (by decide +kernel) ⟨(Nat.le_of_ble_eq_true rfl), (Nat.le_of_ble_eq_true rfl)⟩) ⟨cT_blind, va_recv hK hP (ci := 6) (q0 := 0) rfl rfl, fun U hU hW => ⟨rfl, cT_of hK hP hD hU hW⟩⟩ rfl rfl hl.1 rfl (lv_room (Nat.le_of_ble_eq_true rfl)) dX6_giveDuty_48 ⟨(by show 0 + 0 ≤ 0; omega), (by show 0 + 0 ≤ 0; omega)⟩) hS (fun q _ h => hF_48 q h) hF_48 (fun r_48 u8 t8 H_48 L_48_ ht hvm hw hB hz1 hk1 hS => ?_)
        obtain ⟨hP, -, hD9⟩ := hB
        rw [ht] at hP
        have hD := hD9.weaken (B := A) (fun _ q _ h => hF_48 q.1 h)
        have hP : va_P (dC, dI) vwCl (mb_w a k S 2) H_48 := hP
        have hD : va_D A (mb_w a k S 2) := hD
        subst hw
        have hk9 : k_giveDuty S x0 x1 x2 = 2 := by rw [k_giveDuty, if_pos c_11, if_pos (Or.inl c_16), if_neg (by rw [c_43]; decide)]
        have ew : (mb_w a k S 2) = (mb_w a k (kS (k_giveDuty S x0 x1 x2) (S_giveDuty S x0 x1 x2) S) (k_giveDuty S x0 x1 x2)) := (by rw [hk9]; first | done | rfl)
        have hP : va_P (dC, dI) vwCl (mb_w a k (kS (k_giveDuty S x0 x1 x2) (S_giveDuty S x0 x1 x2) S) (k_giveDuty S x0 x1 x2)) H_48 := by rw [← ew]; exact hP
        have hD : va_D A (mb_w a k (kS (k_giveDuty S x0 x1 x2) (S_giveDuty S x0 x1 x2) S) (k_giveDuty S x0 x1 x2)) := by rw [← ew]; exact hD
        rw [hQ]
        refine W.widen (k := 0) (n := 0) (by omega) (by omega) ?_
        exact W.iret (v := nI 0) hx hb hr (fun t9 ht9 hW9 => ⟨⟨nI 0, (), rfl, (fun h => absurd (hk9.symm.trans h) (by decide)), cB_of hP hK hD ht9 hW9⟩, hS.F ht9⟩) hS.2.2 dX6_giveDuty_51
    · skip
      refine lv_aload_n hx hb dX6_giveDuty_19 rfl (lv_at hl 0 rfl) ?_
      refine lv_iload_n hx hb dX6_giveDuty_20 rfl (lv_at hl 3 rfl) ?_
      refine vp_callSi (W.runV (As := [.int x2]) (rest := []) ⟨hx, hb, hml, hown, hts⟩ (c_X6_isPatrol l dC dI a k S 0 x2 hI) (cwV 1 hts gX6_giveDuty_X6_isPatrol rfl rfl rfl (by decide +kernel) ⟨(Nat.le_of_ble_eq_true rfl), (Nat.le_of_ble_eq_true rfl)⟩) ⟨cR_blind, va_recv hK hP (ci := 6) (q0 := 0) rfl rfl, fun U hU hW => ⟨rfl, cR_of hK hP hU hW⟩⟩ rfl rfl hl.1 rfl (lv_room (Nat.le_of_ble_eq_true rfl)) dX6_giveDuty_21 ⟨(by show 0 + 0 ≤ 0; omega), (by show 0 + 0 ≤ 0; omega)⟩) (fun r er => ?_)
      subst er
      refine lv_if_ne (tgt := 33) hx hb dX6_giveDuty_24 (by decide) (fun c_24 => ?_) (fun c_24 => ?_)
      · have c_24 : (ix x2 (c_np S)) = true := bI_n c_24
        obtain ⟨pp, hpp, epp⟩ := ix_t c_24 (by omega)
        rw [epp] at hl
        have tpp : toN x2 = pp := by rw [epp]; exact tn (by omega)
        refine lv_iload_n hx hb dX6_giveDuty_33 rfl (lv_at hl 1 rfl) ?_
        refine lv_aload_n hx hb dX6_giveDuty_34 rfl (lv_at hl 0 rfl) ?_
        refine va_get (D := (dC, dI)) (ci := 6) (v := .int (nI (c_day S))) (C := RX6) (T := TX6) (N := 23) hx hb hts i_X6 hown hK hP 0 rfl rfl 1 (by decide) f_1 (fun _ h9 => h9) rfl dX6_giveDuty_35 ?_
        refine lv_bipush (v := nI 60) hx hb dX6_giveDuty_38 (by decide) ?_
        refine vp_callSi (W.runS (As := [.int x0, .int (nI (c_day S)), .int (nI 60)]) (rest := []) ⟨hx, hb, hml, hown, hts⟩ (c_X6_isIn l x0 (nI (c_day S)) (nI 60)) (va_cwS 3 hts gX6_giveDuty_X6_isIn rfl rfl rfl (by decide +kernel) ⟨(Nat.le_of_ble_eq_true rfl), (Nat.le_of_ble_eq_true rfl)⟩) ⟨cN_blind, fun U hU hW => ⟨rfl, trivial⟩⟩ rfl rfl hl.1 rfl (lv_room (Nat.le_of_ble_eq_true rfl)) dX6_giveDuty_40 ⟨(by show 0 + 0 ≤ 0; omega), (by show 0 + 0 ≤ 0; omega)⟩) (fun r er => ?_)
        subst er
        refine lv_if_ne (tgt := 52) hx hb dX6_giveDuty_43 (by decide) (fun c_43 => ?_) (fun c_43 => ?_)
        · have c_43 : (inR x0 (nI (c_day S)) (nI 60)) = true := bI_n c_43
          obtain ⟨d, hdl, hd, ed⟩ := inR_ex (by omega) (by omega) c_43
          rw [ed] at hl
          have td : toN x0 = d := by rw [ed]; exact tn (by omega)
          refine lv_iload_n hx hb dX6_giveDuty_52 rfl (lv_at hl 3 rfl) ?_
          refine lv_iconst (v := (-1)) hx hb dX6_giveDuty_53 (by decide) ?_
          refine lv_icmp_eq (tgt := 73) hx hb dX6_giveDuty_54 (by decide) (fun c_54 => ?_) (fun c_54 => ?_)
          · skip
            exact absurd c_54.symm (nI_m1 (by omega))
          · skip
            refine lv_aload_n hx hb dX6_giveDuty_57 rfl (lv_at hl 0 rfl) ?_
            refine lv_iload_n hx hb dX6_giveDuty_58 rfl (lv_at hl 1 rfl) ?_
            refine lv_iload_n hx hb dX6_giveDuty_59 rfl (lv_at hl 2 rfl) ?_
            refine lv_iload_n hx hb dX6_giveDuty_60 rfl (lv_at hl 3 rfl) ?_
            refine vp_callSi (W.runV (As := [.int (nI d), .int (nI q), .int (nI pp)]) (rest := []) ⟨hx, hb, hml, hown, hts⟩ (c_X6_canBeGiven l dC dI a k S 0 d q pp (by omega) (by omega) (by omega) hI) (cwV 3 hts gX6_giveDuty_X6_canBeGiven rfl rfl rfl (by decide +kernel) ⟨(Nat.le_of_ble_eq_true rfl), (Nat.le_of_ble_eq_true rfl)⟩) ⟨cR_blind, va_recv hK hP (ci := 6) (q0 := 0) rfl rfl, fun U hU hW => ⟨rfl, cR_of hK hP hU hW⟩⟩ rfl rfl hl.1 rfl (lv_room (Nat.le_of_ble_eq_true rfl)) dX6_giveDuty_61 ⟨(by show 0 + 0 ≤ 0; omega), (by show 0 + 0 ≤ 0; omega)⟩) (fun r er => ?_)
            subst er
            refine lv_if_ne (tgt := 73) hx hb dX6_giveDuty_64 (by decide) (fun c_64 => ?_) (fun c_64 => ?_)
            · have c_64 : (canG S d q pp) = true := bI_n c_64
              refine lv_aload_n hx hb dX6_giveDuty_73 rfl (lv_at hl 0 rfl) ?_
              refine lv_iload_n hx hb dX6_giveDuty_74 rfl (lv_at hl 1 rfl) ?_
              refine lv_iload_n hx hb dX6_giveDuty_75 rfl (lv_at hl 2 rfl) ?_
              refine vp_callSi (W.runV (As := [.int (nI d), .int (nI q)]) (rest := []) ⟨hx, hb, hml, hown, hts⟩ (c_X6_at l dC dI a k S 0 (nI d) q (by omega)) (cwV 2 hts gX6_giveDuty_X6_at rfl rfl rfl (by decide +kernel) ⟨(Nat.le_of_ble_eq_true rfl), (Nat.le_of_ble_eq_true rfl)⟩) ⟨cR_blind, va_recv hK hP (ci := 6) (q0 := 0) rfl rfl, fun U hU hW => ⟨rfl, cR_of hK hP hU hW⟩⟩ rfl rfl hl.1 rfl (lv_room (Nat.le_of_ble_eq_true rfl)) dX6_giveDuty_76 ⟨(by show 0 + 0 ≤ 0; omega), (by show 0 + 0 ≤ 0; omega)⟩) (fun r er => ?_)
              subst er
              refine cb_topi (z := c_hld S (d * 5 + q)) (hol_nI (by omega)) ?_
              refine lv_istore (lv' := [(4, .int (c_hld S (d * 5 + q))), (0, .ref (a 0)), (1, .int (nI d)), (2, .int (nI q)), (3, .int (nI pp))]) hx hb dX6_giveDuty_79 hl (by decide) rfl (fun ls hl => ?_)
              refine lv_aload_n hx hb dX6_giveDuty_81 rfl (lv_at hl 1 rfl) ?_
              refine va_get (D := (dC, dI)) (ci := 6) (v := .ref (a 10)) (C := RX6) (T := TX6) (N := 23) hx hb hts i_X6 hown hK hP 0 rfl rfl 14 (by decide) f_2 (fun _ h9 => h9) rfl dX6_giveDuty_82 ?_
              refine lv_iconst (v := nI 5) hx hb dX6_giveDuty_85 (by decide) ?_
              refine lv_iload_n hx hb dX6_giveDuty_86 rfl (lv_at hl 2 rfl) ?_
              refine lv_imul hx hb dX6_giveDuty_87 ?_
              refine cb_topi (pk_mul _ _) ?_
              refine lv_iload_n hx hb dX6_giveDuty_88 rfl (lv_at hl 3 rfl) ?_
              refine lv_iadd hx hb dX6_giveDuty_89 ?_
              refine cb_topi (nI_add _ _) ?_
              refine cb_topi (z := nI (d * 5 + q)) (congrArg nI (by omega)) ?_
              refine lv_iload_n hx hb dX6_giveDuty_90 rfl (lv_at hl 4 rfl) ?_
              refine cb_iast hx hb hK hP hD hS 10 9 (f := c_hld S) rfl rfl (j := d * 5 + q) (by omega) (Nat.le_of_ble_eq_true rfl) dX6_giveDuty_91 (fun H locs hP hD hS => ?_)
              rw [wsM_hld] at hP hD
              have hP : va_P (dC, dI) vwCl (mb_w a k (s_hld S (upd (c_hld S) (d * 5 + q) (nI pp))) 0) H := hP
              have hD : va_D A (mb_w a k (s_hld S (upd (c_hld S) (d * 5 + q) (nI pp))) 0) := hD
              refine lv_iload hx hb dX6_giveDuty_92 (lv_at hl 0 rfl) ?_
              have hk9 : k_giveDuty S x0 x1 x2 = 0 := by rw [k_giveDuty, if_pos c_11, if_pos (Or.inr c_24), if_pos c_43, td, tq, tpp, if_pos (Or.inr c_64)]
              have ew : (mb_w a k (s_hld S (upd (c_hld S) (d * 5 + q) (nI pp))) 0) = (mb_w a k (kS (k_giveDuty S x0 x1 x2) (S_giveDuty S x0 x1 x2) S) (k_giveDuty S x0 x1 x2)) := (by rw [hk9, kS_0, S_giveDuty, td, tq, epp]; first | done | rfl)
              have hP : va_P (dC, dI) vwCl (mb_w a k (kS (k_giveDuty S x0 x1 x2) (S_giveDuty S x0 x1 x2) S) (k_giveDuty S x0 x1 x2)) H := by rw [← ew]; exact hP
              have hD : va_D A (mb_w a k (kS (k_giveDuty S x0 x1 x2) (S_giveDuty S x0 x1 x2) S) (k_giveDuty S x0 x1 x2)) := by rw [← ew]; exact hD
              rw [hQ]
              refine W.widen (k := 0) (n := 0) (by omega) (by omega) ?_
              exact W.iret (v := c_hld S (d * 5 + q)) hx hb hr (fun t9 ht9 hW9 => ⟨⟨c_hld S (d * 5 + q), (), rfl, (fun _ => by rw [r_giveDuty, td, tq]), cB_of hP hK hD ht9 hW9⟩, hS.F ht9⟩) hS.2.2 dX6_giveDuty_94
            · have c_64 : (canG S d q pp) = false := bI_0 c_64
              refine lv_aload_n hx hb dX6_giveDuty_67 rfl (lv_at hl 0 rfl) ?_
              refine lv_iconst (v := nI 3) hx hb dX6_giveDuty_68 (by decide) ?_
              have hF_69 : ∀ q, va_A (mb_w a k S 0) H.size q → A q := va_free hD hS hA [0, 1, 2, 3, 4, 5, 6, 7, 8, 9, 10, 11, 12, 13, 14] rfl
              refine va_calli (va_runV (As := [.int (nI 3)]) (rest := []) ⟨hx, hb, hml, hown, hts⟩ (c_X6_no l dC dI a k S 0 H.size 3) (cwV 1 hts gX6_giveDuty_X6_no rfl rfl rfl (by decide +kernel) ⟨(Nat.le_of_ble_eq_true rfl), (Nat.le_of_ble_eq_true rfl)⟩) ⟨cT_blind, va_recv hK hP (ci := 6) (q0 := 0) rfl rfl, fun U hU hW => ⟨rfl, cT_of hK hP hD hU hW⟩⟩ rfl rfl hl.1 rfl (lv_room (Nat.le_of_ble_eq_true rfl)) dX6_giveDuty_69 ⟨(by show 0 + 0 ≤ 0; omega), (by show 0 + 0 ≤ 0; omega)⟩) hS (fun q _ h => hF_69 q h) hF_69 (fun r_69 u8 t8 H_69 L_69_ ht hvm hw hB hz1 hk1 hS => ?_)
              obtain ⟨hP, -, hD9⟩ := hB
              rw [ht] at hP
              have hD := hD9.weaken (B := A) (fun _ q _ h => hF_69 q.1 h)
              have hP : va_P (dC, dI) vwCl (mb_w a k S 3) H_69 := hP
              have hD : va_D A (mb_w a k S 3) := hD
              subst hw
              have hk9 : k_giveDuty S x0 x1 x2 = 3 := by rw [k_giveDuty, if_pos c_11, if_pos (Or.inr c_24), if_pos c_43, td, tq, tpp, if_neg (fun z => z.elim c_16 (fun z => by rw [c_64] at z; exact absurd z (by decide)))]
              have ew : (mb_w a k S 3) = (mb_w a k (kS (k_giveDuty S x0 x1 x2) (S_giveDuty S x0 x1 x2) S) (k_giveDuty S x0 x1 x2)) := (by rw [hk9]; first | done | rfl)
              have hP : va_P (dC, dI) vwCl (mb_w a k (kS (k_giveDuty S x0 x1 x2) (S_giveDuty S x0 x1 x2) S) (k_giveDuty S x0 x1 x2)) H_69 := by rw [← ew]; exact hP
              have hD : va_D A (mb_w a k (kS (k_giveDuty S x0 x1 x2) (S_giveDuty S x0 x1 x2) S) (k_giveDuty S x0 x1 x2)) := by rw [← ew]; exact hD
              rw [hQ]
              refine W.widen (k := 0) (n := 0) (by omega) (by omega) ?_
              exact W.iret (v := nI 0) hx hb hr (fun t9 ht9 hW9 => ⟨⟨nI 0, (), rfl, (fun h => absurd (hk9.symm.trans h) (by decide)), cB_of hP hK hD ht9 hW9⟩, hS.F ht9⟩) hS.2.2 dX6_giveDuty_72
        · have c_43 : (inR x0 (nI (c_day S)) (nI 60)) = false := bI_0 c_43
          refine lv_aload_n hx hb dX6_giveDuty_46 rfl (lv_at hl 0 rfl) ?_
          refine lv_iconst (v := nI 2) hx hb dX6_giveDuty_47 (by decide) ?_
          have hF_48 : ∀ q, va_A (mb_w a k S 0) H.size q → A q := va_free hD hS hA [0, 1, 2, 3, 4, 5, 6, 7, 8, 9, 10, 11, 12, 13, 14] rfl
          refine va_calli (va_runV (As := [.int (nI 2)]) (rest := []) ⟨hx, hb, hml, hown, hts⟩ (c_X6_no l dC dI a k S 0 H.size 2) (cwV 1 hts gX6_giveDuty_X6_no rfl rfl rfl (by decide +kernel) ⟨(Nat.le_of_ble_eq_true rfl), (Nat.le_of_ble_eq_true rfl)⟩) ⟨cT_blind, va_recv hK hP (ci := 6) (q0 := 0) rfl rfl, fun U hU hW => ⟨rfl, cT_of hK hP hD hU hW⟩⟩ rfl rfl hl.1 rfl (lv_room (Nat.le_of_ble_eq_true rfl)) dX6_giveDuty_48 ⟨(by show 0 + 0 ≤ 0; omega), (by show 0 + 0 ≤ 0; omega)⟩) hS (fun q _ h => hF_48 q h) hF_48 (fun r_48 u8 t8 H_48 L_48_ ht hvm hw hB hz1 hk1 hS => ?_)
          obtain ⟨hP, -, hD9⟩ := hB
          rw [ht] at hP
          have hD := hD9.weaken (B := A) (fun _ q _ h => hF_48 q.1 h)
          have hP : va_P (dC, dI) vwCl (mb_w a k S 2) H_48 := hP
          have hD : va_D A (mb_w a k S 2) := hD
          subst hw
          have hk9 : k_giveDuty S x0 x1 x2 = 2 := by rw [k_giveDuty, if_pos c_11, if_pos (Or.inr c_24), if_neg (by rw [c_43]; decide)]
          have ew : (mb_w a k S 2) = (mb_w a k (kS (k_giveDuty S x0 x1 x2) (S_giveDuty S x0 x1 x2) S) (k_giveDuty S x0 x1 x2)) := (by rw [hk9]; first | done | rfl)
          have hP : va_P (dC, dI) vwCl (mb_w a k (kS (k_giveDuty S x0 x1 x2) (S_giveDuty S x0 x1 x2) S) (k_giveDuty S x0 x1 x2)) H_48 := by rw [← ew]; exact hP
          have hD : va_D A (mb_w a k (kS (k_giveDuty S x0 x1 x2) (S_giveDuty S x0 x1 x2) S) (k_giveDuty S x0 x1 x2)) := by rw [← ew]; exact hD
          rw [hQ]
          refine W.widen (k := 0) (n := 0) (by omega) (by omega) ?_
          exact W.iret (v := nI 0) hx hb hr (fun t9 ht9 hW9 => ⟨⟨nI 0, (), rfl, (fun h => absurd (hk9.symm.trans h) (by decide)), cB_of hP hK hD ht9 hW9⟩, hS.F ht9⟩) hS.2.2 dX6_giveDuty_51
      · have c_24 : (ix x2 (c_np S)) = false := bI_0 c_24
        refine lv_aload_n hx hb dX6_giveDuty_27 rfl (lv_at hl 0 rfl) ?_
        refine lv_iconst (v := nI 1) hx hb dX6_giveDuty_28 (by decide) ?_
        have hF_29 : ∀ q, va_A (mb_w a k S 0) H.size q → A q := va_free hD hS hA [0, 1, 2, 3, 4, 5, 6, 7, 8, 9, 10, 11, 12, 13, 14] rfl
        refine va_calli (va_runV (As := [.int (nI 1)]) (rest := []) ⟨hx, hb, hml, hown, hts⟩ (c_X6_no l dC dI a k S 0 H.size 1) (cwV 1 hts gX6_giveDuty_X6_no rfl rfl rfl (by decide +kernel) ⟨(Nat.le_of_ble_eq_true rfl), (Nat.le_of_ble_eq_true rfl)⟩) ⟨cT_blind, va_recv hK hP (ci := 6) (q0 := 0) rfl rfl, fun U hU hW => ⟨rfl, cT_of hK hP hD hU hW⟩⟩ rfl rfl hl.1 rfl (lv_room (Nat.le_of_ble_eq_true rfl)) dX6_giveDuty_29 ⟨(by show 0 + 0 ≤ 0; omega), (by show 0 + 0 ≤ 0; omega)⟩) hS (fun q _ h => hF_29 q h) hF_29 (fun r_29 u8 t8 H_29 L_29_ ht hvm hw hB hz1 hk1 hS => ?_)
        obtain ⟨hP, -, hD9⟩ := hB
        rw [ht] at hP
        have hD := hD9.weaken (B := A) (fun _ q _ h => hF_29 q.1 h)
        have hP : va_P (dC, dI) vwCl (mb_w a k S 1) H_29 := hP
        have hD : va_D A (mb_w a k S 1) := hD
        subst hw
        have hk9 : k_giveDuty S x0 x1 x2 = 1 := by rw [k_giveDuty, if_pos c_11, if_neg (fun z => z.elim c_16 (fun z => by rw [c_24] at z; exact absurd z (by decide)))]
        have ew : (mb_w a k S 1) = (mb_w a k (kS (k_giveDuty S x0 x1 x2) (S_giveDuty S x0 x1 x2) S) (k_giveDuty S x0 x1 x2)) := (by rw [hk9]; first | done | rfl)
        have hP : va_P (dC, dI) vwCl (mb_w a k (kS (k_giveDuty S x0 x1 x2) (S_giveDuty S x0 x1 x2) S) (k_giveDuty S x0 x1 x2)) H_29 := by rw [← ew]; exact hP
        have hD : va_D A (mb_w a k (kS (k_giveDuty S x0 x1 x2) (S_giveDuty S x0 x1 x2) S) (k_giveDuty S x0 x1 x2)) := by rw [← ew]; exact hD
        rw [hQ]
        refine W.widen (k := 0) (n := 0) (by omega) (by omega) ?_
        exact W.iret (v := nI 0) hx hb hr (fun t9 ht9 hW9 => ⟨⟨nI 0, (), rfl, (fun h => absurd (hk9.symm.trans h) (by decide)), cB_of hP hK hD ht9 hW9⟩, hS.F ht9⟩) hS.2.2 dX6_giveDuty_32
abbrev rm_X6_duty : Room := { frames := 2, cells := 0, slots := 0, locals := 44 }
set_option maxHeartbeats 4000000 in
set_option maxRecDepth 100000 in
theorem c_X6_duty (l : Launch) (dC : Nat → ClassId) (dI : Nat → Nat → Nat) (a : Nat → Nat) (k : Nat → ClassId) (S : cs_S) (th : Nat) (sz : Nat) (x0 : Int32) (x1 : Int32) (hI : Inv S) : Met l yX6_duty wsX6_duty rm_X6_duty (va_Pc [.ref (a 0), .int x0, .int x1] (cT dC dI sz (mb_w a k S th) (mb_ty k))) (va_Qi (fun (r : Int32) (_ : Unit) => (k_duty x0 x1 = 0 → r = r_giveDuty S x0 x1)) (fun _ t => cB dC dI (va_A (mb_w a k S th) sz) (mb_w a k S (k_duty x0 x1)) (mb_ty k) t) (va_A (mb_w a k S th) sz)) 0 0 (va_A (mb_w a k S th) sz) := by
  refine Met.ofW (cc := cX6_duty) (maxL := 3) (ret := (some .int)) (by decide) rfl ?_
  intro p e s m args below meth c s₁ B hml hv
  obtain ⟨rfl, hsz, hP, hK, hD0⟩ := hv
  have hx := B.exec
  have hb := B.bytes
  have hr := B.returns
  have hts := atoms_spec (ws := wsX6_duty) B.pre
  have hown : s.vm.findClass RX6 = some m.cls := findClass_of_methodNamed B.named
  have hlocks := B.notSynchronized
  subst hsz
  have hD := hD0.self (sz := s.heap.size)
  generalize hAe : va_A (mb_w a k S th) s.heap.size = A at hD ⊢
  have hA : ∀ q : Nat, s.heap.size ≤ q → A q := fun q h => by rw [← hAe]; exact Or.inr h
  have hS : va_S A s.heap s.heap [] := va_S.rf
  obtain ⟨Q, hQ⟩ : ∃ Q, Q = MQ below (va_Qi (fun (r : Int32) (_ : Unit) => (k_duty x0 x1 = 0 → r = r_giveDuty S x0 x1)) (fun _ t => cB dC dI A (mb_w a k S (k_duty x0 x1)) (mb_ty k) t) A) ([.ref (a 0), .int x0, .int x1] : List Value).toArray s 0 0 A := ⟨_, rfl⟩
  show W p l e rm_X6_duty s m _ below meth c s.heap [] 0 0 (MQ below _ _ _ _ _ _) _
  rw [← hQ]
  have i_X6 : ∀ w ∈ wsX60, w ∈ wsX6_duty := fun w h => List.mem_cons_of_mem _ (List.mem_append_right _ h)
  obtain ⟨⟨hday, hnp, hns, hnt, hnf, hnm, hnb, hme⟩, hpat, hage, hten, hcnt, hplc, heat, hned, hhld, hbad, hbad0, hbag⟩ := id hI
  have f_0 := hts (.fieldLink RX6 53 "CampBookModel" "thrown" "I") (by decide +kernel)
  have hl := lv_entry ([.ref (a 0), .int x0, .int x1]) (n := 3) (Nat.le_of_ble_eq_true rfl)
  rw [lg_entry_eq]
  generalize (lg_sl ([.ref (a 0), .int x0, .int x1]) ++ List.replicate (3 - (lg_sl ([.ref (a 0), .int x0, .int x1])).length) Slot.unset).toArray = ls at hl ⊢
  have hl : lv_has ls 3 [(0, .ref (a 0)), (1, .int x0), (2, .int x1)] := hl
  refine lv_aload_n hx hb dX6_duty_0 rfl (lv_at hl 0 rfl) ?_
  refine lv_iconst (v := nI 0) hx hb dX6_duty_1 (by decide) ?_
  refine va_put (D := (dC, dI)) (ci := 6) (v := .int (nI 0)) (ty := .int) (C := RX6) (T := TX6) (N := 23) hx hb hts i_X6 tyX6 tyX6_ok nmX6 hown hK hP hD hS 0 rfl rfl 0 (by decide) f_0 (fun _ h9 => h9) rfl (by decide +kernel) rfl rfl (Nat.le_of_ble_eq_true rfl) dX6_duty_2 (fun H locs hP hD hS => ?_)
  rw [wsM_TH] at hP hD
  have hP : va_P (dC, dI) vwCl (mb_w a k S 0) H := hP
  have hD : va_D A (mb_w a k S 0) := hD
  refine lv_iload_n hx hb dX6_duty_5 rfl (lv_at hl 2 rfl) ?_
  refine lv_iconst (v := nI 0) hx hb dX6_duty_6 (by decide) ?_
  refine lv_iconst (v := nI 4) hx hb dX6_duty_7 (by decide) ?_
  refine vp_callSi (W.runS (As := [.int x1, .int (nI 0), .int (nI 4)]) (rest := []) ⟨hx, hb, hml, hown, hts⟩ (c_X6_isIn l x1 (nI 0) (nI 4)) (va_cwS 3 hts gX6_duty_X6_isIn rfl rfl rfl (by decide +kernel) ⟨(Nat.le_of_ble_eq_true rfl), (Nat.le_of_ble_eq_true rfl)⟩) ⟨cN_blind, fun U hU hW => ⟨rfl, trivial⟩⟩ rfl rfl hl.1 rfl (lv_room (Nat.le_of_ble_eq_true rfl)) dX6_duty_8 ⟨(by show 0 + 0 ≤ 0; omega), (by show 0 + 0 ≤ 0; omega)⟩) (fun r er => ?_)
  subst er
  refine cb_topi (z := bI (ix x1 5)) (congrArg bI (inR_ixm x1 (by omega))) ?_
  refine lv_if_eq (tgt := 33) hx hb dX6_duty_11 (by decide) (fun c_11 => ?_) (fun c_11 => ?_)
  · have c_11 : (ix x1 5) = false := bI_0 c_11
    refine lv_aload_n hx hb dX6_duty_33 rfl (lv_at hl 0 rfl) ?_
    refine lv_iconst (v := nI 1) hx hb dX6_duty_34 (by decide) ?_
    have hF_35 : ∀ q, va_A (mb_w a k S 0) H.size q → A q := va_free hD hS hA [0, 1, 2, 3, 4, 5, 6, 7, 8, 9, 10, 11, 12, 13, 14] rfl
    refine va_calli (va_runV (As := [.int (nI 1)]) (rest := []) ⟨hx, hb, hml, hown, hts⟩ (c_X6_no l dC dI a k S 0 H.size 1) (cwV 1 hts gX6_duty_X6_no rfl rfl rfl (by decide +kernel) ⟨(Nat.le_of_ble_eq_true rfl), (Nat.le_of_ble_eq_true rfl)⟩) ⟨cT_blind, va_recv hK hP (ci := 6) (q0 := 0) rfl rfl, fun U hU hW => ⟨rfl, cT_of hK hP hD hU hW⟩⟩ rfl rfl hl.1 rfl (lv_room (Nat.le_of_ble_eq_true rfl)) dX6_duty_35 ⟨(by show 0 + 0 ≤ 0; omega), (by show 0 + 0 ≤ 0; omega)⟩) hS (fun q _ h => hF_35 q h) hF_35 (fun r_35 u8 t8 H_35 L_35_ ht hvm hw hB hz1 hk1 hS => ?_)
    obtain ⟨hP, -, hD9⟩ := hB
    rw [ht] at hP
    have hD := hD9.weaken (B := A) (fun _ q _ h => hF_35 q.1 h)
    have hP : va_P (dC, dI) vwCl (mb_w a k S 1) H_35 := hP
    have hD : va_D A (mb_w a k S 1) := hD
    subst hw
    have hk9 : k_duty x0 x1 = 1 := by simp only [k_duty, c_11, if_true, if_false, Bool.false_eq_true, true_or, or_true, false_or, or_false, reduceCtorEq]
    have ew : (mb_w a k S 1) = (mb_w a k S (k_duty x0 x1)) := (by rw [hk9]; first | done | rfl)
    have hP : va_P (dC, dI) vwCl (mb_w a k S (k_duty x0 x1)) H_35 := by rw [← ew]; exact hP
    have hD : va_D A (mb_w a k S (k_duty x0 x1)) := by rw [← ew]; exact hD
    rw [hQ]
    refine W.widen (k := 0) (n := 0) (by omega) (by omega) ?_
    exact W.iret (v := nI 0) hx hb hr (fun t9 ht9 hW9 => ⟨⟨nI 0, (), rfl, (fun h => absurd (hk9.symm.trans h) (by decide)), cB_of hP hK hD ht9 hW9⟩, hS.F ht9⟩) hS.2.2 dX6_duty_38
  · have c_11 : (ix x1 5) = true := bI_n c_11
    obtain ⟨q, hq, eq⟩ := ix_t c_11 (by omega)
    rw [eq] at hl
    have tq : toN x1 = q := by rw [eq]; exact tn (by omega)
    refine lv_iload_n hx hb dX6_duty_14 rfl (lv_at hl 1 rfl) ?_
    refine lv_iconst (v := nI 0) hx hb dX6_duty_15 (by decide) ?_
    refine lv_bipush (v := nI 60) hx hb dX6_duty_16 (by decide) ?_
    refine vp_callSi (W.runS (As := [.int x0, .int (nI 0), .int (nI 60)]) (rest := []) ⟨hx, hb, hml, hown, hts⟩ (c_X6_isIn l x0 (nI 0) (nI 60)) (va_cwS 3 hts gX6_duty_X6_isIn rfl rfl rfl (by decide +kernel) ⟨(Nat.le_of_ble_eq_true rfl), (Nat.le_of_ble_eq_true rfl)⟩) ⟨cN_blind, fun U hU hW => ⟨rfl, trivial⟩⟩ rfl rfl hl.1 rfl (lv_room (Nat.le_of_ble_eq_true rfl)) dX6_duty_18 ⟨(by show 0 + 0 ≤ 0; omega), (by show 0 + 0 ≤ 0; omega)⟩) (fun r er => ?_)
    subst er
    refine cb_topi (z := bI (ix x0 61)) (congrArg bI (inR_ixm x0 (by omega))) ?_
    refine lv_if_eq (tgt := 33) hx hb dX6_duty_21 (by decide) (fun c_21 => ?_) (fun c_21 => ?_)
    · have c_21 : (ix x0 61) = false := bI_0 c_21
      refine lv_aload_n hx hb dX6_duty_33 rfl (lv_at hl 0 rfl) ?_
      refine lv_iconst (v := nI 1) hx hb dX6_duty_34 (by decide) ?_
      have hF_35 : ∀ q, va_A (mb_w a k S 0) H.size q → A q := va_free hD hS hA [0, 1, 2, 3, 4, 5, 6, 7, 8, 9, 10, 11, 12, 13, 14] rfl
      refine va_calli (va_runV (As := [.int (nI 1)]) (rest := []) ⟨hx, hb, hml, hown, hts⟩ (c_X6_no l dC dI a k S 0 H.size 1) (cwV 1 hts gX6_duty_X6_no rfl rfl rfl (by decide +kernel) ⟨(Nat.le_of_ble_eq_true rfl), (Nat.le_of_ble_eq_true rfl)⟩) ⟨cT_blind, va_recv hK hP (ci := 6) (q0 := 0) rfl rfl, fun U hU hW => ⟨rfl, cT_of hK hP hD hU hW⟩⟩ rfl rfl hl.1 rfl (lv_room (Nat.le_of_ble_eq_true rfl)) dX6_duty_35 ⟨(by show 0 + 0 ≤ 0; omega), (by show 0 + 0 ≤ 0; omega)⟩) hS (fun q _ h => hF_35 q h) hF_35 (fun r_35 u8 t8 H_35 L_35_ ht hvm hw hB hz1 hk1 hS => ?_)
      obtain ⟨hP, -, hD9⟩ := hB
      rw [ht] at hP
      have hD := hD9.weaken (B := A) (fun _ q _ h => hF_35 q.1 h)
      have hP : va_P (dC, dI) vwCl (mb_w a k S 1) H_35 := hP
      have hD : va_D A (mb_w a k S 1) := hD
      subst hw
      have hk9 : k_duty x0 x1 = 1 := by simp only [k_duty, c_11, c_21, tq, if_true, if_false, Bool.false_eq_true, true_or, or_true, false_or, or_false, reduceCtorEq]
      have ew : (mb_w a k S 1) = (mb_w a k S (k_duty x0 x1)) := (by rw [hk9]; first | done | rfl)
      have hP : va_P (dC, dI) vwCl (mb_w a k S (k_duty x0 x1)) H_35 := by rw [← ew]; exact hP
      have hD : va_D A (mb_w a k S (k_duty x0 x1)) := by rw [← ew]; exact hD
      rw [hQ]
      refine W.widen (k := 0) (n := 0) (by omega) (by omega) ?_
      exact W.iret (v := nI 0) hx hb hr (fun t9 ht9 hW9 => ⟨⟨nI 0, (), rfl, (fun h => absurd (hk9.symm.trans h) (by decide)), cB_of hP hK hD ht9 hW9⟩, hS.F ht9⟩) hS.2.2 dX6_duty_38
    · have c_21 : (ix x0 61) = true := bI_n c_21
      obtain ⟨d, hd, ed⟩ := ix_t c_21 (by omega)
      rw [ed] at hl
      have td : toN x0 = d := by rw [ed]; exact tn (by omega)
      refine lv_aload_n hx hb dX6_duty_24 rfl (lv_at hl 0 rfl) ?_
      refine lv_iload_n hx hb dX6_duty_25 rfl (lv_at hl 1 rfl) ?_
      refine lv_iload_n hx hb dX6_duty_26 rfl (lv_at hl 2 rfl) ?_
      refine vp_callSi (W.runV (As := [.int (nI d), .int (nI q)]) (rest := []) ⟨hx, hb, hml, hown, hts⟩ (c_X6_at l dC dI a k S 0 (nI d) q (by omega)) (cwV 2 hts gX6_duty_X6_at rfl rfl rfl (by decide +kernel) ⟨(Nat.le_of_ble_eq_true rfl), (Nat.le_of_ble_eq_true rfl)⟩) ⟨cR_blind, va_recv hK hP (ci := 6) (q0 := 0) rfl rfl, fun U hU hW => ⟨rfl, cR_of hK hP hU hW⟩⟩ rfl rfl hl.1 rfl (lv_room (Nat.le_of_ble_eq_true rfl)) dX6_duty_27 ⟨(by show 0 + 0 ≤ 0; omega), (by show 0 + 0 ≤ 0; omega)⟩) (fun r er => ?_)
      subst er
      refine cb_topi (z := c_hld S (d * 5 + q)) (hol_nI (by omega)) ?_
      refine lv_goto (tgt := 38) hx hb dX6_duty_30 (by decide) ?_
      have hk9 : k_duty x0 x1 = 0 := by simp only [k_duty, c_11, c_21, tq, td, if_true, if_false, Bool.false_eq_true, true_or, or_true, false_or, or_false, reduceCtorEq]
      have ew : (mb_w a k S 0) = (mb_w a k S (k_duty x0 x1)) := (by rw [hk9]; first | done | rfl)
      have hP : va_P (dC, dI) vwCl (mb_w a k S (k_duty x0 x1)) H := by rw [← ew]; exact hP
      have hD : va_D A (mb_w a k S (k_duty x0 x1)) := by rw [← ew]; exact hD
      rw [hQ]
      refine W.widen (k := 0) (n := 0) (by omega) (by omega) ?_
      exact W.iret (v := c_hld S (d * 5 + q)) hx hb hr (fun t9 ht9 hW9 => ⟨⟨c_hld S (d * 5 + q), (), rfl, (fun _ => by rw [r_giveDuty, td, tq]), cB_of hP hK hD ht9 hW9⟩, hS.F ht9⟩) hS.2.2 dX6_duty_38
abbrev rm_X6_points : Room := { frames := 2, cells := 1, slots := 5, locals := 43 }
set_option maxHeartbeats 4000000 in
set_option maxRecDepth 100000 in
theorem c_X6_points (l : Launch) (dC : Nat → ClassId) (dI : Nat → Nat → Nat) (a : Nat → Nat) (k : Nat → ClassId) (S : cs_S) (th : Nat) (sz : Nat) (x0 : Int32) (hI : Inv S) : Met l yX6_points wsX6_points rm_X6_points (va_Pc [.ref (a 0), .int x0] (cT dC dI sz (mb_w a k S th) (mb_ty k))) (va_Qi (fun (r : Int32) (_ : Unit) => (k_points S x0 = 0 → r = r_points S x0)) (fun _ t => cB dC dI (va_A (mb_w a k S th) sz) (mb_w a k S (k_points S x0)) (mb_ty k) t) (va_A (mb_w a k S th) sz)) 1 5 (va_A (mb_w a k S th) sz) := by
  refine Met.ofW (cc := cX6_points) (maxL := 2) (ret := (some .int)) (by decide) rfl ?_
  intro p e s m args below meth c s₁ B hml hv
  obtain ⟨rfl, hsz, hP, hK, hD0⟩ := hv
  have hx := B.exec
  have hb := B.bytes
  have hr := B.returns
  have hts := atoms_spec (ws := wsX6_points) B.pre
  have hown : s.vm.findClass RX6 = some m.cls := findClass_of_methodNamed B.named
  have hlocks := B.notSynchronized
  subst hsz
  have hD := hD0.self (sz := s.heap.size)
  generalize hAe : va_A (mb_w a k S th) s.heap.size = A at hD ⊢
  have hA : ∀ q : Nat, s.heap.size ≤ q → A q := fun q h => by rw [← hAe]; exact Or.inr h
  have hS : va_S A s.heap s.heap [] := va_S.rf
  obtain ⟨Q, hQ⟩ : ∃ Q, Q = MQ below (va_Qi (fun (r : Int32) (_ : Unit) => (k_points S x0 = 0 → r = r_points S x0)) (fun _ t => cB dC dI A (mb_w a k S (k_points S x0)) (mb_ty k) t) A) ([.ref (a 0), .int x0] : List Value).toArray s 1 5 A := ⟨_, rfl⟩
  show W p l e rm_X6_points s m _ below meth c s.heap [] 0 0 (MQ below _ _ _ _ _ _) _
  rw [← hQ]
  have i_X6 : ∀ w ∈ wsX60, w ∈ wsX6_points := fun w h => List.mem_cons_of_mem _ (List.mem_append_right _ h)
  obtain ⟨⟨hday, hnp, hns, hnt, hnf, hnm, hnb, hme⟩, hpat, hage, hten, hcnt, hplc, heat, hned, hhld, hbad, hbad0, hbag⟩ := id hI
  have f_0 := hts (.fieldLink RX6 53 "CampBookModel" "thrown" "I") (by decide +kernel)
  have hl := lv_entry ([.ref (a 0), .int x0]) (n := 2) (Nat.le_of_ble_eq_true rfl)
  rw [lg_entry_eq]
  generalize (lg_sl ([.ref (a 0), .int x0]) ++ List.replicate (2 - (lg_sl ([.ref (a 0), .int x0])).length) Slot.unset).toArray = ls at hl ⊢
  have hl : lv_has ls 2 [(0, .ref (a 0)), (1, .int x0)] := hl
  refine lv_aload_n hx hb dX6_points_0 rfl (lv_at hl 0 rfl) ?_
  refine lv_iconst (v := nI 0) hx hb dX6_points_1 (by decide) ?_
  refine va_put (D := (dC, dI)) (ci := 6) (v := .int (nI 0)) (ty := .int) (C := RX6) (T := TX6) (N := 23) hx hb hts i_X6 tyX6 tyX6_ok nmX6 hown hK hP hD hS 0 rfl rfl 0 (by decide) f_0 (fun _ h9 => h9) rfl (by decide +kernel) rfl rfl (Nat.le_of_ble_eq_true rfl) dX6_points_2 (fun H locs hP hD hS => ?_)
  rw [wsM_TH] at hP hD
  have hP : va_P (dC, dI) vwCl (mb_w a k S 0) H := hP
  have hD : va_D A (mb_w a k S 0) := hD
  refine lv_aload_n hx hb dX6_points_5 rfl (lv_at hl 0 rfl) ?_
  refine lv_iload_n hx hb dX6_points_6 rfl (lv_at hl 1 rfl) ?_
  refine vp_callSi (W.runV (As := [.int x0]) (rest := []) ⟨hx, hb, hml, hown, hts⟩ (c_X6_isPatrol l dC dI a k S 0 x0 hI) (cwV 1 hts gX6_points_X6_isPatrol rfl rfl rfl (by decide +kernel) ⟨(Nat.le_of_ble_eq_true rfl), (Nat.le_of_ble_eq_true rfl)⟩) ⟨cR_blind, va_recv hK hP (ci := 6) (q0 := 0) rfl rfl, fun U hU hW => ⟨rfl, cR_of hK hP hU hW⟩⟩ rfl rfl hl.1 rfl (lv_room (Nat.le_of_ble_eq_true rfl)) dX6_points_7 ⟨(by show 0 + 0 ≤ 1; omega), (by show 0 + 0 ≤ 5; omega)⟩) (fun r er => ?_)
  subst er
  refine lv_if_eq (tgt := 21) hx hb dX6_points_10 (by decide) (fun c_10 => ?_) (fun c_10 => ?_)
  · have c_10 : (ix x0 (c_np S)) = false := bI_0 c_10
    refine lv_aload_n hx hb dX6_points_21 rfl (lv_at hl 0 rfl) ?_
    refine lv_iconst (v := nI 1) hx hb dX6_points_22 (by decide) ?_
    have hF_23 : ∀ q, va_A (mb_w a k S 0) H.size q → A q := va_free hD hS hA [0, 1, 2, 3, 4, 5, 6, 7, 8, 9, 10, 11, 12, 13, 14] rfl
    refine va_calli (va_runV (As := [.int (nI 1)]) (rest := []) ⟨hx, hb, hml, hown, hts⟩ (c_X6_no l dC dI a k S 0 H.size 1) (cwV 1 hts gX6_points_X6_no rfl rfl rfl (by decide +kernel) ⟨(Nat.le_of_ble_eq_true rfl), (Nat.le_of_ble_eq_true rfl)⟩) ⟨cT_blind, va_recv hK hP (ci := 6) (q0 := 0) rfl rfl, fun U hU hW => ⟨rfl, cT_of hK hP hD hU hW⟩⟩ rfl rfl hl.1 rfl (lv_room (Nat.le_of_ble_eq_true rfl)) dX6_points_23 ⟨(by show 0 + 0 ≤ 1; omega), (by show 0 + 0 ≤ 5; omega)⟩) hS (fun q _ h => hF_23 q h) hF_23 (fun r_23 u8 t8 H_23 L_23_ ht hvm hw hB hz1 hk1 hS => ?_)
    obtain ⟨hP, -, hD9⟩ := hB
    rw [ht] at hP
    have hD := hD9.weaken (B := A) (fun _ q _ h => hF_23 q.1 h)
    have hP : va_P (dC, dI) vwCl (mb_w a k S 1) H_23 := hP
    have hD : va_D A (mb_w a k S 1) := hD
    subst hw
    have hk9 : k_points S x0 = 1 := by simp only [k_points, c_10, if_true, if_false, Bool.false_eq_true, true_or, or_true, false_or, or_false, reduceCtorEq]
    have ew : (mb_w a k S 1) = (mb_w a k S (k_points S x0)) := (by rw [hk9]; first | done | rfl)
    have hP : va_P (dC, dI) vwCl (mb_w a k S (k_points S x0)) H_23 := by rw [← ew]; exact hP
    have hD : va_D A (mb_w a k S (k_points S x0)) := by rw [← ew]; exact hD
    rw [hQ]
    refine W.widen (k := 1) (n := 5) (by omega) (by omega) ?_
    exact W.iret (v := nI 0) hx hb hr (fun t9 ht9 hW9 => ⟨⟨nI 0, (), rfl, (fun h => absurd (hk9.symm.trans h) (by decide)), cB_of hP hK hD ht9 hW9⟩, hS.F ht9⟩) hS.2.2 dX6_points_26
  · have c_10 : (ix x0 (c_np S)) = true := bI_n c_10
    obtain ⟨pp, hpp, epp⟩ := ix_t c_10 (by omega)
    rw [epp] at hl
    have tpp : toN x0 = pp := by rw [epp]; exact tn (by omega)
    refine lv_aload_n hx hb dX6_points_13 rfl (lv_at hl 0 rfl) ?_
    refine lv_iload_n hx hb dX6_points_14 rfl (lv_at hl 1 rfl) ?_
    have hF_15 : ∀ q, va_A (mb_w a k S 0) H.size q → A q := va_free hD hS hA [0, 1, 2, 3, 4, 5, 6, 7, 8, 9, 10, 11, 12, 13, 14] rfl
    refine va_calli (va_runV (As := [.int (nI pp)]) (rest := []) ⟨hx, hb, hml, hown, hts⟩ (c_X6_pointsOf l dC dI a k S 0 H.size pp) (cwV 1 hts gX6_points_X6_pointsOf rfl rfl rfl (by decide +kernel) ⟨(Nat.le_of_ble_eq_true rfl), (Nat.le_of_ble_eq_true rfl)⟩) ⟨cT_blind, va_recv hK hP (ci := 6) (q0 := 0) rfl rfl, fun U hU hW => ⟨rfl, cT_of hK hP hD hU hW⟩⟩ rfl rfl hl.1 rfl (lv_room (Nat.le_of_ble_eq_true rfl)) dX6_points_15 ⟨(by show 0 + 1 ≤ 1; omega), (by show 0 + 5 ≤ 5; omega)⟩) hS (fun q _ h => hF_15 q h) hF_15 (fun r_15 u8 t8 H_15 L_15_ ht hvm hw hB hz1 hk1 hS => ?_)
    obtain ⟨hP, -, hD9⟩ := hB
    rw [ht] at hP
    have hD := hD9.weaken (B := A) (fun _ q _ h => hF_15 q.1 h)
    have hP : va_P (dC, dI) vwCl (mb_w a k S 0) H_15 := hP
    have hD : va_D A (mb_w a k S 0) := hD
    subst hw
    refine lv_goto (tgt := 26) hx hb dX6_points_18 (by decide) ?_
    have hk9 : k_points S x0 = 0 := by simp only [k_points, c_10, tpp, if_true, if_false, Bool.false_eq_true, true_or, or_true, false_or, or_false, reduceCtorEq]
    have ew : (mb_w a k S 0) = (mb_w a k S (k_points S x0)) := (by rw [hk9]; first | done | rfl)
    have hP : va_P (dC, dI) vwCl (mb_w a k S (k_points S x0)) H_15 := by rw [← ew]; exact hP
    have hD : va_D A (mb_w a k S (k_points S x0)) := by rw [← ew]; exact hD
    rw [hQ]
    refine W.widen (k := 1) (n := 5) (by omega) (by omega) ?_
    exact W.iret (v := pts S pp) hx hb hr (fun t9 ht9 hW9 => ⟨⟨pts S pp, (), rfl, (fun _ => by rw [r_points, tpp]), cB_of hP hK hD ht9 hW9⟩, hS.F ht9⟩) hS.2.2 dX6_points_26
abbrev rm_X6_addFood : Room := { frames := 1, cells := 0, slots := 0, locals := 22 }
set_option maxHeartbeats 4000000 in
set_option maxRecDepth 100000 in
theorem c_X6_addFood (l : Launch) (dC : Nat → ClassId) (dI : Nat → Nat → Nat) (a : Nat → Nat) (k : Nat → ClassId) (S : cs_S) (th : Nat) (sz : Nat) (x0 : Int32) (hI : Inv S) : Met l yX6_addFood wsX6_addFood rm_X6_addFood (va_Pc [.ref (a 0), .int x0] (cT dC dI sz (mb_w a k S th) (mb_ty k))) (va_Qi (fun (r : Int32) (_ : Unit) => (k_addFood S x0 = 0 → r = nI (c_nf S))) (fun _ t => cB dC dI (va_A (mb_w a k S th) sz) (mb_w a k (kS (k_addFood S x0) (S_addFood S x0) S) (k_addFood S x0)) (mb_ty k) t) (va_A (mb_w a k S th) sz)) 0 0 (va_A (mb_w a k S th) sz) := by
  refine Met.ofW (cc := cX6_addFood) (maxL := 2) (ret := (some .int)) (by decide) rfl ?_
  intro p e s m args below meth c s₁ B hml hv
  obtain ⟨rfl, hsz, hP, hK, hD0⟩ := hv
  have hx := B.exec
  have hb := B.bytes
  have hr := B.returns
  have hts := atoms_spec (ws := wsX6_addFood) B.pre
  have hown : s.vm.findClass RX6 = some m.cls := findClass_of_methodNamed B.named
  have hlocks := B.notSynchronized
  subst hsz
  have hD := hD0.self (sz := s.heap.size)
  generalize hAe : va_A (mb_w a k S th) s.heap.size = A at hD ⊢
  have hA : ∀ q : Nat, s.heap.size ≤ q → A q := fun q h => by rw [← hAe]; exact Or.inr h
  have hS : va_S A s.heap s.heap [] := va_S.rf
  obtain ⟨Q, hQ⟩ : ∃ Q, Q = MQ below (va_Qi (fun (r : Int32) (_ : Unit) => (k_addFood S x0 = 0 → r = nI (c_nf S))) (fun _ t => cB dC dI A (mb_w a k (kS (k_addFood S x0) (S_addFood S x0) S) (k_addFood S x0)) (mb_ty k) t) A) ([.ref (a 0), .int x0] : List Value).toArray s 0 0 A := ⟨_, rfl⟩
  show W p l e rm_X6_addFood s m _ below meth c s.heap [] 0 0 (MQ below _ _ _ _ _ _) _
  rw [← hQ]
  have i_X6 : ∀ w ∈ wsX60, w ∈ wsX6_addFood := fun w h => List.mem_cons_of_mem _ (List.mem_append_right _ h)
  obtain ⟨⟨hday, hnp, hns, hnt, hnf, hnm, hnb, hme⟩, hpat, hage, hten, hcnt, hplc, heat, hned, hhld, hbad, hbad0, hbag⟩ := id hI
  have f_0 := hts (.fieldLink RX6 53 "CampBookModel" "thrown" "I") (by decide +kernel)
  have f_1 := hts (.fieldLink RX6 70 "CampBookModel" "foods" "I") (by decide +kernel)
  have f_2 := hts (.fieldLink RX6 41 "CampBookModel" "stores" "[I") (by decide +kernel)
  have hl := lv_entry ([.ref (a 0), .int x0]) (n := 2) (Nat.le_of_ble_eq_true rfl)
  rw [lg_entry_eq]
  generalize (lg_sl ([.ref (a 0), .int x0]) ++ List.replicate (2 - (lg_sl ([.ref (a 0), .int x0])).length) Slot.unset).toArray = ls at hl ⊢
  have hl : lv_has ls 2 [(0, .ref (a 0)), (1, .int x0)] := hl
  refine lv_aload_n hx hb dX6_addFood_0 rfl (lv_at hl 0 rfl) ?_
  refine lv_iconst (v := nI 0) hx hb dX6_addFood_1 (by decide) ?_
  refine va_put (D := (dC, dI)) (ci := 6) (v := .int (nI 0)) (ty := .int) (C := RX6) (T := TX6) (N := 23) hx hb hts i_X6 tyX6 tyX6_ok nmX6 hown hK hP hD hS 0 rfl rfl 0 (by decide) f_0 (fun _ h9 => h9) rfl (by decide +kernel) rfl rfl (Nat.le_of_ble_eq_true rfl) dX6_addFood_2 (fun H locs hP hD hS => ?_)
  rw [wsM_TH] at hP hD
  have hP : va_P (dC, dI) vwCl (mb_w a k S 0) H := hP
  have hD : va_D A (mb_w a k S 0) := hD
  refine lv_iload_n hx hb dX6_addFood_5 rfl (lv_at hl 1 rfl) ?_
  refine lv_iconst (v := nI 0) hx hb dX6_addFood_6 (by decide) ?_
  refine lv_sipush (v := nI 10000) hx hb dX6_addFood_7 (by decide) ?_
  refine vp_callSi (W.runS (As := [.int x0, .int (nI 0), .int (nI 10000)]) (rest := []) ⟨hx, hb, hml, hown, hts⟩ (c_X6_isIn l x0 (nI 0) (nI 10000)) (va_cwS 3 hts gX6_addFood_X6_isIn rfl rfl rfl (by decide +kernel) ⟨(Nat.le_of_ble_eq_true rfl), (Nat.le_of_ble_eq_true rfl)⟩) ⟨cN_blind, fun U hU hW => ⟨rfl, trivial⟩⟩ rfl rfl hl.1 rfl (lv_room (Nat.le_of_ble_eq_true rfl)) dX6_addFood_10 ⟨(by show 0 + 0 ≤ 0; omega), (by show 0 + 0 ≤ 0; omega)⟩) (fun r er => ?_)
  subst er
  refine lv_if_ne (tgt := 22) hx hb dX6_addFood_13 (by decide) (fun c_13 => ?_) (fun c_13 => ?_)
  · have c_13 : (inR x0 (nI 0) (nI 10000)) = true := bI_n c_13
    refine lv_aload_n hx hb dX6_addFood_22 rfl (lv_at hl 0 rfl) ?_
    refine va_get (D := (dC, dI)) (ci := 6) (v := .int (nI (c_nf S))) (C := RX6) (T := TX6) (N := 23) hx hb hts i_X6 hown hK hP 0 rfl rfl 15 (by decide) f_1 (fun _ h9 => h9) rfl dX6_addFood_23 ?_
    refine lv_bipush (v := nI 12) hx hb dX6_addFood_26 (by decide) ?_
    refine lv_icmp_ne (tgt := 37) hx hb dX6_addFood_28 (by decide) (fun c_28 => ?_) (fun c_28 => ?_)
    · have c_28 : (c_nf S) ≠ 12 := cb_ne (by omega) (by omega) c_28
      have hq : c_nf S < 12 := by omega
      refine lv_aload_n hx hb dX6_addFood_37 rfl (lv_at hl 0 rfl) ?_
      refine va_get (D := (dC, dI)) (ci := 6) (v := .ref (a 11)) (C := RX6) (T := TX6) (N := 23) hx hb hts i_X6 hown hK hP 0 rfl rfl 16 (by decide) f_2 (fun _ h9 => h9) rfl dX6_addFood_38 ?_
      refine lv_aload_n hx hb dX6_addFood_41 rfl (lv_at hl 0 rfl) ?_
      refine va_get (D := (dC, dI)) (ci := 6) (v := .int (nI (c_nf S))) (C := RX6) (T := TX6) (N := 23) hx hb hts i_X6 hown hK hP 0 rfl rfl 15 (by decide) f_1 (fun _ h9 => h9) rfl dX6_addFood_42 ?_
      refine lv_iload_n hx hb dX6_addFood_45 rfl (lv_at hl 1 rfl) ?_
      refine cb_iast hx hb hK hP hD hS 11 10 (f := c_sto S) rfl rfl (j := c_nf S) (by omega) (Nat.le_of_ble_eq_true rfl) dX6_addFood_46 (fun H locs hP hD hS => ?_)
      rw [wsM_sto] at hP hD
      have hP : va_P (dC, dI) vwCl (mb_w a k (s_sto S (upd (c_sto S) (c_nf S) x0)) 0) H := hP
      have hD : va_D A (mb_w a k (s_sto S (upd (c_sto S) (c_nf S) x0)) 0) := hD
      refine lv_aload_n hx hb dX6_addFood_47 rfl (lv_at hl 0 rfl) ?_
      refine lv_dup hx hb dX6_addFood_48 rfl ?_
      refine va_get (D := (dC, dI)) (ci := 6) (v := .int (nI (c_nf S))) (C := RX6) (T := TX6) (N := 23) hx hb hts i_X6 hown hK hP 0 rfl rfl 15 (by decide) f_1 (fun _ h9 => h9) rfl dX6_addFood_49 ?_
      refine lv_iconst (v := nI 1) hx hb dX6_addFood_52 (by decide) ?_
      refine lv_iadd hx hb dX6_addFood_53 ?_
      refine cb_topi (nI_add _ _) ?_
      refine va_put (D := (dC, dI)) (ci := 6) (v := .int (nI ((c_nf S) + 1))) (ty := .int) (C := RX6) (T := TX6) (N := 23) hx hb hts i_X6 tyX6 tyX6_ok nmX6 hown hK hP hD hS 0 rfl rfl 15 (by decide) f_1 (fun _ h9 => h9) rfl (by decide +kernel) rfl rfl (Nat.le_of_ble_eq_true rfl) dX6_addFood_54 (fun H locs hP hD hS => ?_)
      rw [wsM_nf] at hP hD
      have hP : va_P (dC, dI) vwCl (mb_w a k (s_nf (s_sto S (upd (c_sto S) (c_nf S) x0)) ((c_nf S) + 1)) 0) H := hP
      have hD : va_D A (mb_w a k (s_nf (s_sto S (upd (c_sto S) (c_nf S) x0)) ((c_nf S) + 1)) 0) := hD
      refine lv_aload_n hx hb dX6_addFood_57 rfl (lv_at hl 0 rfl) ?_
      refine va_get (D := (dC, dI)) (ci := 6) (v := .int (nI ((c_nf S) + 1))) (C := RX6) (T := TX6) (N := 23) hx hb hts i_X6 hown hK hP 0 rfl rfl 15 (by decide) f_1 (fun _ h9 => h9) rfl dX6_addFood_58 ?_
      refine lv_iconst (v := nI 1) hx hb dX6_addFood_61 (by decide) ?_
      refine lv_isub hx hb dX6_addFood_62 ?_
      have hk9 : k_addFood S x0 = 0 := by simp only [k_addFood, c_13, hq, if_true, if_false, Bool.false_eq_true, true_or, or_true, false_or, or_false, reduceCtorEq]
      have ew : (mb_w a k (s_nf (s_sto S (upd (c_sto S) (c_nf S) x0)) ((c_nf S) + 1)) 0) = (mb_w a k (kS (k_addFood S x0) (S_addFood S x0) S) (k_addFood S x0)) := (by rw [hk9, kS_0, S_addFood]; first | done | rfl)
      have hP : va_P (dC, dI) vwCl (mb_w a k (kS (k_addFood S x0) (S_addFood S x0) S) (k_addFood S x0)) H := by rw [← ew]; exact hP
      have hD : va_D A (mb_w a k (kS (k_addFood S x0) (S_addFood S x0) S) (k_addFood S x0)) := by rw [← ew]; exact hD
      rw [hQ]
      refine W.widen (k := 0) (n := 0) (by omega) (by omega) ?_
      exact W.iret (v := (nI ((c_nf S) + 1)) - (nI 1)) hx hb hr (fun t9 ht9 hW9 => ⟨⟨(nI ((c_nf S) + 1)) - (nI 1), (), rfl, (fun _ => by rw [pk_sub (by omega)]; rfl), cB_of hP hK hD ht9 hW9⟩, hS.F ht9⟩) hS.2.2 dX6_addFood_63
    · have c_28 : (c_nf S) = 12 := cb_nne (by omega) (by omega) c_28
      have hq : ¬ c_nf S < 12 := by omega
      refine lv_aload_n hx hb dX6_addFood_31 rfl (lv_at hl 0 rfl) ?_
      refine lv_iconst (v := nI 2) hx hb dX6_addFood_32 (by decide) ?_
      have hF_33 : ∀ q, va_A (mb_w a k S 0) H.size q → A q := va_free hD hS hA [0, 1, 2, 3, 4, 5, 6, 7, 8, 9, 10, 11, 12, 13, 14] rfl
      refine va_calli (va_runV (As := [.int (nI 2)]) (rest := []) ⟨hx, hb, hml, hown, hts⟩ (c_X6_no l dC dI a k S 0 H.size 2) (cwV 1 hts gX6_addFood_X6_no rfl rfl rfl (by decide +kernel) ⟨(Nat.le_of_ble_eq_true rfl), (Nat.le_of_ble_eq_true rfl)⟩) ⟨cT_blind, va_recv hK hP (ci := 6) (q0 := 0) rfl rfl, fun U hU hW => ⟨rfl, cT_of hK hP hD hU hW⟩⟩ rfl rfl hl.1 rfl (lv_room (Nat.le_of_ble_eq_true rfl)) dX6_addFood_33 ⟨(by show 0 + 0 ≤ 0; omega), (by show 0 + 0 ≤ 0; omega)⟩) hS (fun q _ h => hF_33 q h) hF_33 (fun r_33 u8 t8 H_33 L_33_ ht hvm hw hB hz1 hk1 hS => ?_)
      obtain ⟨hP, -, hD9⟩ := hB
      rw [ht] at hP
      have hD := hD9.weaken (B := A) (fun _ q _ h => hF_33 q.1 h)
      have hP : va_P (dC, dI) vwCl (mb_w a k S 2) H_33 := hP
      have hD : va_D A (mb_w a k S 2) := hD
      subst hw
      have hk9 : k_addFood S x0 = 2 := by simp only [k_addFood, c_13, hq, if_true, if_false, Bool.false_eq_true, true_or, or_true, false_or, or_false, reduceCtorEq]
      have ew : (mb_w a k S 2) = (mb_w a k (kS (k_addFood S x0) (S_addFood S x0) S) (k_addFood S x0)) := (by rw [hk9]; first | done | rfl)
      have hP : va_P (dC, dI) vwCl (mb_w a k (kS (k_addFood S x0) (S_addFood S x0) S) (k_addFood S x0)) H_33 := by rw [← ew]; exact hP
      have hD : va_D A (mb_w a k (kS (k_addFood S x0) (S_addFood S x0) S) (k_addFood S x0)) := by rw [← ew]; exact hD
      rw [hQ]
      refine W.widen (k := 0) (n := 0) (by omega) (by omega) ?_
      exact W.iret (v := nI 0) hx hb hr (fun t9 ht9 hW9 => ⟨⟨nI 0, (), rfl, (fun h => absurd (hk9.symm.trans h) (by decide)), cB_of hP hK hD ht9 hW9⟩, hS.F ht9⟩) hS.2.2 dX6_addFood_36
  · have c_13 : (inR x0 (nI 0) (nI 10000)) = false := bI_0 c_13
    refine lv_aload_n hx hb dX6_addFood_16 rfl (lv_at hl 0 rfl) ?_
    refine lv_iconst (v := nI 1) hx hb dX6_addFood_17 (by decide) ?_
    have hF_18 : ∀ q, va_A (mb_w a k S 0) H.size q → A q := va_free hD hS hA [0, 1, 2, 3, 4, 5, 6, 7, 8, 9, 10, 11, 12, 13, 14] rfl
    refine va_calli (va_runV (As := [.int (nI 1)]) (rest := []) ⟨hx, hb, hml, hown, hts⟩ (c_X6_no l dC dI a k S 0 H.size 1) (cwV 1 hts gX6_addFood_X6_no rfl rfl rfl (by decide +kernel) ⟨(Nat.le_of_ble_eq_true rfl), (Nat.le_of_ble_eq_true rfl)⟩) ⟨cT_blind, va_recv hK hP (ci := 6) (q0 := 0) rfl rfl, fun U hU hW => ⟨rfl, cT_of hK hP hD hU hW⟩⟩ rfl rfl hl.1 rfl (lv_room (Nat.le_of_ble_eq_true rfl)) dX6_addFood_18 ⟨(by show 0 + 0 ≤ 0; omega), (by show 0 + 0 ≤ 0; omega)⟩) hS (fun q _ h => hF_18 q h) hF_18 (fun r_18 u8 t8 H_18 L_18_ ht hvm hw hB hz1 hk1 hS => ?_)
    obtain ⟨hP, -, hD9⟩ := hB
    rw [ht] at hP
    have hD := hD9.weaken (B := A) (fun _ q _ h => hF_18 q.1 h)
    have hP : va_P (dC, dI) vwCl (mb_w a k S 1) H_18 := hP
    have hD : va_D A (mb_w a k S 1) := hD
    subst hw
    have hk9 : k_addFood S x0 = 1 := by simp only [k_addFood, c_13, if_true, if_false, Bool.false_eq_true, true_or, or_true, false_or, or_false, reduceCtorEq]
    have ew : (mb_w a k S 1) = (mb_w a k (kS (k_addFood S x0) (S_addFood S x0) S) (k_addFood S x0)) := (by rw [hk9]; first | done | rfl)
    have hP : va_P (dC, dI) vwCl (mb_w a k (kS (k_addFood S x0) (S_addFood S x0) S) (k_addFood S x0)) H_18 := by rw [← ew]; exact hP
    have hD : va_D A (mb_w a k (kS (k_addFood S x0) (S_addFood S x0) S) (k_addFood S x0)) := by rw [← ew]; exact hD
    rw [hQ]
    refine W.widen (k := 0) (n := 0) (by omega) (by omega) ?_
    exact W.iret (v := nI 0) hx hb hr (fun t9 ht9 hW9 => ⟨⟨nI 0, (), rfl, (fun h => absurd (hk9.symm.trans h) (by decide)), cB_of hP hK hD ht9 hW9⟩, hS.F ht9⟩) hS.2.2 dX6_addFood_21
abbrev rm_X6_buy : Room := { frames := 2, cells := 0, slots := 0, locals := 43 }
set_option maxHeartbeats 4000000 in
set_option maxRecDepth 100000 in
theorem c_X6_buy (l : Launch) (dC : Nat → ClassId) (dI : Nat → Nat → Nat) (a : Nat → Nat) (k : Nat → ClassId) (S : cs_S) (th : Nat) (sz : Nat) (x0 : Int32) (x1 : Int32) (hI : Inv S) : Met l yX6_buy wsX6_buy rm_X6_buy (va_Pc [.ref (a 0), .int x0, .int x1] (cT dC dI sz (mb_w a k S th) (mb_ty k))) (va_Qi (fun (r : Int32) (_ : Unit) => (k_buy S x0 x1 = 0 → r = r_buy S x0 x1)) (fun _ t => cB dC dI (va_A (mb_w a k S th) sz) (mb_w a k (kS (k_buy S x0 x1) (S_buy S x0 x1) S) (k_buy S x0 x1)) (mb_ty k) t) (va_A (mb_w a k S th) sz)) 0 0 (va_A (mb_w a k S th) sz) := by
  refine Met.ofW (cc := cX6_buy) (maxL := 3) (ret := (some .int)) (by decide) rfl ?_
  intro p e s m args below meth c s₁ B hml hv
  obtain ⟨rfl, hsz, hP, hK, hD0⟩ := hv
  have hx := B.exec
  have hb := B.bytes
  have hr := B.returns
  have hts := atoms_spec (ws := wsX6_buy) B.pre
  have hown : s.vm.findClass RX6 = some m.cls := findClass_of_methodNamed B.named
  have hlocks := B.notSynchronized
  subst hsz
  have hD := hD0.self (sz := s.heap.size)
  generalize hAe : va_A (mb_w a k S th) s.heap.size = A at hD ⊢
  have hA : ∀ q : Nat, s.heap.size ≤ q → A q := fun q h => by rw [← hAe]; exact Or.inr h
  have hS : va_S A s.heap s.heap [] := va_S.rf
  obtain ⟨Q, hQ⟩ : ∃ Q, Q = MQ below (va_Qi (fun (r : Int32) (_ : Unit) => (k_buy S x0 x1 = 0 → r = r_buy S x0 x1)) (fun _ t => cB dC dI A (mb_w a k (kS (k_buy S x0 x1) (S_buy S x0 x1) S) (k_buy S x0 x1)) (mb_ty k) t) A) ([.ref (a 0), .int x0, .int x1] : List Value).toArray s 0 0 A := ⟨_, rfl⟩
  show W p l e rm_X6_buy s m _ below meth c s.heap [] 0 0 (MQ below _ _ _ _ _ _) _
  rw [← hQ]
  have i_X6 : ∀ w ∈ wsX60, w ∈ wsX6_buy := fun w h => List.mem_cons_of_mem _ (List.mem_append_right _ h)
  obtain ⟨⟨hday, hnp, hns, hnt, hnf, hnm, hnb, hme⟩, hpat, hage, hten, hcnt, hplc, heat, hned, hhld, hbad, hbad0, hbag⟩ := id hI
  have f_0 := hts (.fieldLink RX6 53 "CampBookModel" "thrown" "I") (by decide +kernel)
  have f_1 := hts (.fieldLink RX6 41 "CampBookModel" "stores" "[I") (by decide +kernel)
  have hl := lv_entry ([.ref (a 0), .int x0, .int x1]) (n := 3) (Nat.le_of_ble_eq_true rfl)
  rw [lg_entry_eq]
  generalize (lg_sl ([.ref (a 0), .int x0, .int x1]) ++ List.replicate (3 - (lg_sl ([.ref (a 0), .int x0, .int x1])).length) Slot.unset).toArray = ls at hl ⊢
  have hl : lv_has ls 3 [(0, .ref (a 0)), (1, .int x0), (2, .int x1)] := hl
  refine lv_aload_n hx hb dX6_buy_0 rfl (lv_at hl 0 rfl) ?_
  refine lv_iconst (v := nI 0) hx hb dX6_buy_1 (by decide) ?_
  refine va_put (D := (dC, dI)) (ci := 6) (v := .int (nI 0)) (ty := .int) (C := RX6) (T := TX6) (N := 23) hx hb hts i_X6 tyX6 tyX6_ok nmX6 hown hK hP hD hS 0 rfl rfl 0 (by decide) f_0 (fun _ h9 => h9) rfl (by decide +kernel) rfl rfl (Nat.le_of_ble_eq_true rfl) dX6_buy_2 (fun H locs hP hD hS => ?_)
  rw [wsM_TH] at hP hD
  have hP : va_P (dC, dI) vwCl (mb_w a k S 0) H := hP
  have hD : va_D A (mb_w a k S 0) := hD
  refine lv_aload_n hx hb dX6_buy_5 rfl (lv_at hl 0 rfl) ?_
  refine lv_iload_n hx hb dX6_buy_6 rfl (lv_at hl 1 rfl) ?_
  refine vp_callSi (W.runV (As := [.int x0]) (rest := []) ⟨hx, hb, hml, hown, hts⟩ (c_X6_isFood l dC dI a k S 0 x0 hI) (cwV 1 hts gX6_buy_X6_isFood rfl rfl rfl (by decide +kernel) ⟨(Nat.le_of_ble_eq_true rfl), (Nat.le_of_ble_eq_true rfl)⟩) ⟨cR_blind, va_recv hK hP (ci := 6) (q0 := 0) rfl rfl, fun U hU hW => ⟨rfl, cR_of hK hP hU hW⟩⟩ rfl rfl hl.1 rfl (lv_room (Nat.le_of_ble_eq_true rfl)) dX6_buy_7 ⟨(by show 0 + 0 ≤ 0; omega), (by show 0 + 0 ≤ 0; omega)⟩) (fun r er => ?_)
  subst er
  refine lv_if_ne (tgt := 19) hx hb dX6_buy_10 (by decide) (fun c_10 => ?_) (fun c_10 => ?_)
  · have c_10 : (ix x0 (c_nf S)) = true := bI_n c_10
    obtain ⟨f, hf, ef⟩ := ix_t c_10 (by omega)
    rw [ef] at hl
    have tf : toN x0 = f := by rw [ef]; exact tn (by omega)
    refine lv_iload_n hx hb dX6_buy_19 rfl (lv_at hl 2 rfl) ?_
    refine lv_iconst (v := nI 1) hx hb dX6_buy_20 (by decide) ?_
    refine lv_sipush (v := nI 10000) hx hb dX6_buy_21 (by decide) ?_
    refine vp_callSi (W.runS (As := [.int x1, .int (nI 1), .int (nI 10000)]) (rest := []) ⟨hx, hb, hml, hown, hts⟩ (c_X6_isIn l x1 (nI 1) (nI 10000)) (va_cwS 3 hts gX6_buy_X6_isIn rfl rfl rfl (by decide +kernel) ⟨(Nat.le_of_ble_eq_true rfl), (Nat.le_of_ble_eq_true rfl)⟩) ⟨cN_blind, fun U hU hW => ⟨rfl, trivial⟩⟩ rfl rfl hl.1 rfl (lv_room (Nat.le_of_ble_eq_true rfl)) dX6_buy_24 ⟨(by show 0 + 0 ≤ 0; omega), (by show 0 + 0 ≤ 0; omega)⟩) (fun r er => ?_)
    subst er
    refine lv_if_ne (tgt := 36) hx hb dX6_buy_27 (by decide) (fun c_27 => ?_) (fun c_27 => ?_)
    · have c_27 : (inR x1 (nI 1) (nI 10000)) = true := bI_n c_27
      refine lv_aload_n hx hb dX6_buy_36 rfl (lv_at hl 0 rfl) ?_
      refine va_get (D := (dC, dI)) (ci := 6) (v := .ref (a 11)) (C := RX6) (T := TX6) (N := 23) hx hb hts i_X6 hown hK hP 0 rfl rfl 16 (by decide) f_1 (fun _ h9 => h9) rfl dX6_buy_37 ?_
      refine lv_iload_n hx hb dX6_buy_40 rfl (lv_at hl 1 rfl) ?_
      refine cb_iald hx hb hK hP 11 10 (f := c_sto S) rfl rfl (j := f) (by omega) (Nat.le_of_ble_eq_true rfl) dX6_buy_41 ?_
      refine lv_iload_n hx hb dX6_buy_42 rfl (lv_at hl 2 rfl) ?_
      refine lv_iadd hx hb dX6_buy_43 ?_
      refine lv_sipush (v := nI 10000) hx hb dX6_buy_44 (by decide) ?_
      refine lv_icmp_le (tgt := 56) hx hb dX6_buy_47 (by decide) (fun c_47 => ?_) (fun c_47 => ?_)
      · skip
        refine lv_aload_n hx hb dX6_buy_56 rfl (lv_at hl 0 rfl) ?_
        refine va_get (D := (dC, dI)) (ci := 6) (v := .ref (a 11)) (C := RX6) (T := TX6) (N := 23) hx hb hts i_X6 hown hK hP 0 rfl rfl 16 (by decide) f_1 (fun _ h9 => h9) rfl dX6_buy_57 ?_
        refine lv_iload_n hx hb dX6_buy_60 rfl (lv_at hl 1 rfl) ?_
        refine lv_dup2_11 hx hb dX6_buy_61 rfl rfl ?_
        refine cb_iald hx hb hK hP 11 10 (f := c_sto S) rfl rfl (j := f) (by omega) (Nat.le_of_ble_eq_true rfl) dX6_buy_62 ?_
        refine lv_iload_n hx hb dX6_buy_63 rfl (lv_at hl 2 rfl) ?_
        refine lv_iadd hx hb dX6_buy_64 ?_
        refine cb_iast hx hb hK hP hD hS 11 10 (f := c_sto S) rfl rfl (j := f) (by omega) (Nat.le_of_ble_eq_true rfl) dX6_buy_65 (fun H locs hP hD hS => ?_)
        rw [wsM_sto] at hP hD
        have hP : va_P (dC, dI) vwCl (mb_w a k (s_sto S (upd (c_sto S) f ((c_sto S f) + x1))) 0) H := hP
        have hD : va_D A (mb_w a k (s_sto S (upd (c_sto S) f ((c_sto S f) + x1))) 0) := hD
        refine lv_aload_n hx hb dX6_buy_66 rfl (lv_at hl 0 rfl) ?_
        refine va_get (D := (dC, dI)) (ci := 6) (v := .ref (a 11)) (C := RX6) (T := TX6) (N := 23) hx hb hts i_X6 hown hK hP 0 rfl rfl 16 (by decide) f_1 (fun _ h9 => h9) rfl dX6_buy_67 ?_
        refine lv_iload_n hx hb dX6_buy_70 rfl (lv_at hl 1 rfl) ?_
        refine cb_iald hx hb hK hP 11 10 (f := upd (c_sto S) f ((c_sto S f) + x1)) rfl rfl (j := f) (by omega) (Nat.le_of_ble_eq_true rfl) dX6_buy_71 ?_
        refine cb_topi (z := c_sto S f + x1) pk_us ?_
        have hk9 : k_buy S x0 x1 = 0 := by simp only [k_buy, c_10, c_27, c_47, tf, if_true, if_false, Bool.false_eq_true, true_or, or_true, false_or, or_false, reduceCtorEq]
        have ew : (mb_w a k (s_sto S (upd (c_sto S) f ((c_sto S f) + x1))) 0) = (mb_w a k (kS (k_buy S x0 x1) (S_buy S x0 x1) S) (k_buy S x0 x1)) := (by rw [hk9, kS_0, S_buy, tf]; first | done | rfl)
        have hP : va_P (dC, dI) vwCl (mb_w a k (kS (k_buy S x0 x1) (S_buy S x0 x1) S) (k_buy S x0 x1)) H := by rw [← ew]; exact hP
        have hD : va_D A (mb_w a k (kS (k_buy S x0 x1) (S_buy S x0 x1) S) (k_buy S x0 x1)) := by rw [← ew]; exact hD
        rw [hQ]
        refine W.widen (k := 0) (n := 0) (by omega) (by omega) ?_
        exact W.iret (v := c_sto S f + x1) hx hb hr (fun t9 ht9 hW9 => ⟨⟨c_sto S f + x1, (), rfl, (fun _ => by rw [r_buy, tf]), cB_of hP hK hD ht9 hW9⟩, hS.F ht9⟩) hS.2.2 dX6_buy_72
      · skip
        refine lv_aload_n hx hb dX6_buy_50 rfl (lv_at hl 0 rfl) ?_
        refine lv_iconst (v := nI 3) hx hb dX6_buy_51 (by decide) ?_
        have hF_52 : ∀ q, va_A (mb_w a k S 0) H.size q → A q := va_free hD hS hA [0, 1, 2, 3, 4, 5, 6, 7, 8, 9, 10, 11, 12, 13, 14] rfl
        refine va_calli (va_runV (As := [.int (nI 3)]) (rest := []) ⟨hx, hb, hml, hown, hts⟩ (c_X6_no l dC dI a k S 0 H.size 3) (cwV 1 hts gX6_buy_X6_no rfl rfl rfl (by decide +kernel) ⟨(Nat.le_of_ble_eq_true rfl), (Nat.le_of_ble_eq_true rfl)⟩) ⟨cT_blind, va_recv hK hP (ci := 6) (q0 := 0) rfl rfl, fun U hU hW => ⟨rfl, cT_of hK hP hD hU hW⟩⟩ rfl rfl hl.1 rfl (lv_room (Nat.le_of_ble_eq_true rfl)) dX6_buy_52 ⟨(by show 0 + 0 ≤ 0; omega), (by show 0 + 0 ≤ 0; omega)⟩) hS (fun q _ h => hF_52 q h) hF_52 (fun r_52 u8 t8 H_52 L_52_ ht hvm hw hB hz1 hk1 hS => ?_)
        obtain ⟨hP, -, hD9⟩ := hB
        rw [ht] at hP
        have hD := hD9.weaken (B := A) (fun _ q _ h => hF_52 q.1 h)
        have hP : va_P (dC, dI) vwCl (mb_w a k S 3) H_52 := hP
        have hD : va_D A (mb_w a k S 3) := hD
        subst hw
        have hk9 : k_buy S x0 x1 = 3 := by simp only [k_buy, c_10, c_27, c_47, tf, if_true, if_false, Bool.false_eq_true, true_or, or_true, false_or, or_false, reduceCtorEq]
        have ew : (mb_w a k S 3) = (mb_w a k (kS (k_buy S x0 x1) (S_buy S x0 x1) S) (k_buy S x0 x1)) := (by rw [hk9]; first | done | rfl)
        have hP : va_P (dC, dI) vwCl (mb_w a k (kS (k_buy S x0 x1) (S_buy S x0 x1) S) (k_buy S x0 x1)) H_52 := by rw [← ew]; exact hP
        have hD : va_D A (mb_w a k (kS (k_buy S x0 x1) (S_buy S x0 x1) S) (k_buy S x0 x1)) := by rw [← ew]; exact hD
        rw [hQ]
        refine W.widen (k := 0) (n := 0) (by omega) (by omega) ?_
        exact W.iret (v := nI 0) hx hb hr (fun t9 ht9 hW9 => ⟨⟨nI 0, (), rfl, (fun h => absurd (hk9.symm.trans h) (by decide)), cB_of hP hK hD ht9 hW9⟩, hS.F ht9⟩) hS.2.2 dX6_buy_55
    · have c_27 : (inR x1 (nI 1) (nI 10000)) = false := bI_0 c_27
      refine lv_aload_n hx hb dX6_buy_30 rfl (lv_at hl 0 rfl) ?_
      refine lv_iconst (v := nI 2) hx hb dX6_buy_31 (by decide) ?_
      have hF_32 : ∀ q, va_A (mb_w a k S 0) H.size q → A q := va_free hD hS hA [0, 1, 2, 3, 4, 5, 6, 7, 8, 9, 10, 11, 12, 13, 14] rfl
      refine va_calli (va_runV (As := [.int (nI 2)]) (rest := []) ⟨hx, hb, hml, hown, hts⟩ (c_X6_no l dC dI a k S 0 H.size 2) (cwV 1 hts gX6_buy_X6_no rfl rfl rfl (by decide +kernel) ⟨(Nat.le_of_ble_eq_true rfl), (Nat.le_of_ble_eq_true rfl)⟩) ⟨cT_blind, va_recv hK hP (ci := 6) (q0 := 0) rfl rfl, fun U hU hW => ⟨rfl, cT_of hK hP hD hU hW⟩⟩ rfl rfl hl.1 rfl (lv_room (Nat.le_of_ble_eq_true rfl)) dX6_buy_32 ⟨(by show 0 + 0 ≤ 0; omega), (by show 0 + 0 ≤ 0; omega)⟩) hS (fun q _ h => hF_32 q h) hF_32 (fun r_32 u8 t8 H_32 L_32_ ht hvm hw hB hz1 hk1 hS => ?_)
      obtain ⟨hP, -, hD9⟩ := hB
      rw [ht] at hP
      have hD := hD9.weaken (B := A) (fun _ q _ h => hF_32 q.1 h)
      have hP : va_P (dC, dI) vwCl (mb_w a k S 2) H_32 := hP
      have hD : va_D A (mb_w a k S 2) := hD
      subst hw
      have hk9 : k_buy S x0 x1 = 2 := by simp only [k_buy, c_10, c_27, tf, if_true, if_false, Bool.false_eq_true, true_or, or_true, false_or, or_false, reduceCtorEq]
      have ew : (mb_w a k S 2) = (mb_w a k (kS (k_buy S x0 x1) (S_buy S x0 x1) S) (k_buy S x0 x1)) := (by rw [hk9]; first | done | rfl)
      have hP : va_P (dC, dI) vwCl (mb_w a k (kS (k_buy S x0 x1) (S_buy S x0 x1) S) (k_buy S x0 x1)) H_32 := by rw [← ew]; exact hP
      have hD : va_D A (mb_w a k (kS (k_buy S x0 x1) (S_buy S x0 x1) S) (k_buy S x0 x1)) := by rw [← ew]; exact hD
      rw [hQ]
      refine W.widen (k := 0) (n := 0) (by omega) (by omega) ?_
      exact W.iret (v := nI 0) hx hb hr (fun t9 ht9 hW9 => ⟨⟨nI 0, (), rfl, (fun h => absurd (hk9.symm.trans h) (by decide)), cB_of hP hK hD ht9 hW9⟩, hS.F ht9⟩) hS.2.2 dX6_buy_35
  · have c_10 : (ix x0 (c_nf S)) = false := bI_0 c_10
    refine lv_aload_n hx hb dX6_buy_13 rfl (lv_at hl 0 rfl) ?_
    refine lv_iconst (v := nI 1) hx hb dX6_buy_14 (by decide) ?_
    have hF_15 : ∀ q, va_A (mb_w a k S 0) H.size q → A q := va_free hD hS hA [0, 1, 2, 3, 4, 5, 6, 7, 8, 9, 10, 11, 12, 13, 14] rfl
    refine va_calli (va_runV (As := [.int (nI 1)]) (rest := []) ⟨hx, hb, hml, hown, hts⟩ (c_X6_no l dC dI a k S 0 H.size 1) (cwV 1 hts gX6_buy_X6_no rfl rfl rfl (by decide +kernel) ⟨(Nat.le_of_ble_eq_true rfl), (Nat.le_of_ble_eq_true rfl)⟩) ⟨cT_blind, va_recv hK hP (ci := 6) (q0 := 0) rfl rfl, fun U hU hW => ⟨rfl, cT_of hK hP hD hU hW⟩⟩ rfl rfl hl.1 rfl (lv_room (Nat.le_of_ble_eq_true rfl)) dX6_buy_15 ⟨(by show 0 + 0 ≤ 0; omega), (by show 0 + 0 ≤ 0; omega)⟩) hS (fun q _ h => hF_15 q h) hF_15 (fun r_15 u8 t8 H_15 L_15_ ht hvm hw hB hz1 hk1 hS => ?_)
    obtain ⟨hP, -, hD9⟩ := hB
    rw [ht] at hP
    have hD := hD9.weaken (B := A) (fun _ q _ h => hF_15 q.1 h)
    have hP : va_P (dC, dI) vwCl (mb_w a k S 1) H_15 := hP
    have hD : va_D A (mb_w a k S 1) := hD
    subst hw
    have hk9 : k_buy S x0 x1 = 1 := by simp only [k_buy, c_10, if_true, if_false, Bool.false_eq_true, true_or, or_true, false_or, or_false, reduceCtorEq]
    have ew : (mb_w a k S 1) = (mb_w a k (kS (k_buy S x0 x1) (S_buy S x0 x1) S) (k_buy S x0 x1)) := (by rw [hk9]; first | done | rfl)
    have hP : va_P (dC, dI) vwCl (mb_w a k (kS (k_buy S x0 x1) (S_buy S x0 x1) S) (k_buy S x0 x1)) H_15 := by rw [← ew]; exact hP
    have hD : va_D A (mb_w a k (kS (k_buy S x0 x1) (S_buy S x0 x1) S) (k_buy S x0 x1)) := by rw [← ew]; exact hD
    rw [hQ]
    refine W.widen (k := 0) (n := 0) (by omega) (by omega) ?_
    exact W.iret (v := nI 0) hx hb hr (fun t9 ht9 hW9 => ⟨⟨nI 0, (), rfl, (fun h => absurd (hk9.symm.trans h) (by decide)), cB_of hP hK hD ht9 hW9⟩, hS.F ht9⟩) hS.2.2 dX6_buy_18
abbrev rm_X6_store : Room := { frames := 2, cells := 0, slots := 0, locals := 43 }
set_option maxHeartbeats 4000000 in
set_option maxRecDepth 100000 in
theorem c_X6_store (l : Launch) (dC : Nat → ClassId) (dI : Nat → Nat → Nat) (a : Nat → Nat) (k : Nat → ClassId) (S : cs_S) (th : Nat) (sz : Nat) (x0 : Int32) (hI : Inv S) : Met l yX6_store wsX6_store rm_X6_store (va_Pc [.ref (a 0), .int x0] (cT dC dI sz (mb_w a k S th) (mb_ty k))) (va_Qi (fun (r : Int32) (_ : Unit) => (k_store S x0 = 0 → r = r_store S x0)) (fun _ t => cB dC dI (va_A (mb_w a k S th) sz) (mb_w a k S (k_store S x0)) (mb_ty k) t) (va_A (mb_w a k S th) sz)) 0 0 (va_A (mb_w a k S th) sz) := by
  refine Met.ofW (cc := cX6_store) (maxL := 2) (ret := (some .int)) (by decide) rfl ?_
  intro p e s m args below meth c s₁ B hml hv
  obtain ⟨rfl, hsz, hP, hK, hD0⟩ := hv
  have hx := B.exec
  have hb := B.bytes
  have hr := B.returns
  have hts := atoms_spec (ws := wsX6_store) B.pre
  have hown : s.vm.findClass RX6 = some m.cls := findClass_of_methodNamed B.named
  have hlocks := B.notSynchronized
  subst hsz
  have hD := hD0.self (sz := s.heap.size)
  generalize hAe : va_A (mb_w a k S th) s.heap.size = A at hD ⊢
  have hA : ∀ q : Nat, s.heap.size ≤ q → A q := fun q h => by rw [← hAe]; exact Or.inr h
  have hS : va_S A s.heap s.heap [] := va_S.rf
  obtain ⟨Q, hQ⟩ : ∃ Q, Q = MQ below (va_Qi (fun (r : Int32) (_ : Unit) => (k_store S x0 = 0 → r = r_store S x0)) (fun _ t => cB dC dI A (mb_w a k S (k_store S x0)) (mb_ty k) t) A) ([.ref (a 0), .int x0] : List Value).toArray s 0 0 A := ⟨_, rfl⟩
  show W p l e rm_X6_store s m _ below meth c s.heap [] 0 0 (MQ below _ _ _ _ _ _) _
  rw [← hQ]
  have i_X6 : ∀ w ∈ wsX60, w ∈ wsX6_store := fun w h => List.mem_cons_of_mem _ (List.mem_append_right _ h)
  obtain ⟨⟨hday, hnp, hns, hnt, hnf, hnm, hnb, hme⟩, hpat, hage, hten, hcnt, hplc, heat, hned, hhld, hbad, hbad0, hbag⟩ := id hI
  have f_0 := hts (.fieldLink RX6 53 "CampBookModel" "thrown" "I") (by decide +kernel)
  have f_1 := hts (.fieldLink RX6 41 "CampBookModel" "stores" "[I") (by decide +kernel)
  have hl := lv_entry ([.ref (a 0), .int x0]) (n := 2) (Nat.le_of_ble_eq_true rfl)
  rw [lg_entry_eq]
  generalize (lg_sl ([.ref (a 0), .int x0]) ++ List.replicate (2 - (lg_sl ([.ref (a 0), .int x0])).length) Slot.unset).toArray = ls at hl ⊢
  have hl : lv_has ls 2 [(0, .ref (a 0)), (1, .int x0)] := hl
  refine lv_aload_n hx hb dX6_store_0 rfl (lv_at hl 0 rfl) ?_
  refine lv_iconst (v := nI 0) hx hb dX6_store_1 (by decide) ?_
  refine va_put (D := (dC, dI)) (ci := 6) (v := .int (nI 0)) (ty := .int) (C := RX6) (T := TX6) (N := 23) hx hb hts i_X6 tyX6 tyX6_ok nmX6 hown hK hP hD hS 0 rfl rfl 0 (by decide) f_0 (fun _ h9 => h9) rfl (by decide +kernel) rfl rfl (Nat.le_of_ble_eq_true rfl) dX6_store_2 (fun H locs hP hD hS => ?_)
  rw [wsM_TH] at hP hD
  have hP : va_P (dC, dI) vwCl (mb_w a k S 0) H := hP
  have hD : va_D A (mb_w a k S 0) := hD
  refine lv_aload_n hx hb dX6_store_5 rfl (lv_at hl 0 rfl) ?_
  refine lv_iload_n hx hb dX6_store_6 rfl (lv_at hl 1 rfl) ?_
  refine vp_callSi (W.runV (As := [.int x0]) (rest := []) ⟨hx, hb, hml, hown, hts⟩ (c_X6_isFood l dC dI a k S 0 x0 hI) (cwV 1 hts gX6_store_X6_isFood rfl rfl rfl (by decide +kernel) ⟨(Nat.le_of_ble_eq_true rfl), (Nat.le_of_ble_eq_true rfl)⟩) ⟨cR_blind, va_recv hK hP (ci := 6) (q0 := 0) rfl rfl, fun U hU hW => ⟨rfl, cR_of hK hP hU hW⟩⟩ rfl rfl hl.1 rfl (lv_room (Nat.le_of_ble_eq_true rfl)) dX6_store_7 ⟨(by show 0 + 0 ≤ 0; omega), (by show 0 + 0 ≤ 0; omega)⟩) (fun r er => ?_)
  subst er
  refine lv_if_eq (tgt := 22) hx hb dX6_store_10 (by decide) (fun c_10 => ?_) (fun c_10 => ?_)
  · have c_10 : (ix x0 (c_nf S)) = false := bI_0 c_10
    refine lv_aload_n hx hb dX6_store_22 rfl (lv_at hl 0 rfl) ?_
    refine lv_iconst (v := nI 1) hx hb dX6_store_23 (by decide) ?_
    have hF_24 : ∀ q, va_A (mb_w a k S 0) H.size q → A q := va_free hD hS hA [0, 1, 2, 3, 4, 5, 6, 7, 8, 9, 10, 11, 12, 13, 14] rfl
    refine va_calli (va_runV (As := [.int (nI 1)]) (rest := []) ⟨hx, hb, hml, hown, hts⟩ (c_X6_no l dC dI a k S 0 H.size 1) (cwV 1 hts gX6_store_X6_no rfl rfl rfl (by decide +kernel) ⟨(Nat.le_of_ble_eq_true rfl), (Nat.le_of_ble_eq_true rfl)⟩) ⟨cT_blind, va_recv hK hP (ci := 6) (q0 := 0) rfl rfl, fun U hU hW => ⟨rfl, cT_of hK hP hD hU hW⟩⟩ rfl rfl hl.1 rfl (lv_room (Nat.le_of_ble_eq_true rfl)) dX6_store_24 ⟨(by show 0 + 0 ≤ 0; omega), (by show 0 + 0 ≤ 0; omega)⟩) hS (fun q _ h => hF_24 q h) hF_24 (fun r_24 u8 t8 H_24 L_24_ ht hvm hw hB hz1 hk1 hS => ?_)
    obtain ⟨hP, -, hD9⟩ := hB
    rw [ht] at hP
    have hD := hD9.weaken (B := A) (fun _ q _ h => hF_24 q.1 h)
    have hP : va_P (dC, dI) vwCl (mb_w a k S 1) H_24 := hP
    have hD : va_D A (mb_w a k S 1) := hD
    subst hw
    have hk9 : k_store S x0 = 1 := by simp only [k_store, c_10, if_true, if_false, Bool.false_eq_true, true_or, or_true, false_or, or_false, reduceCtorEq]
    have ew : (mb_w a k S 1) = (mb_w a k S (k_store S x0)) := (by rw [hk9]; first | done | rfl)
    have hP : va_P (dC, dI) vwCl (mb_w a k S (k_store S x0)) H_24 := by rw [← ew]; exact hP
    have hD : va_D A (mb_w a k S (k_store S x0)) := by rw [← ew]; exact hD
    rw [hQ]
    refine W.widen (k := 0) (n := 0) (by omega) (by omega) ?_
    exact W.iret (v := nI 0) hx hb hr (fun t9 ht9 hW9 => ⟨⟨nI 0, (), rfl, (fun h => absurd (hk9.symm.trans h) (by decide)), cB_of hP hK hD ht9 hW9⟩, hS.F ht9⟩) hS.2.2 dX6_store_27
  · have c_10 : (ix x0 (c_nf S)) = true := bI_n c_10
    obtain ⟨f, hf, ef⟩ := ix_t c_10 (by omega)
    rw [ef] at hl
    have tf : toN x0 = f := by rw [ef]; exact tn (by omega)
    refine lv_aload_n hx hb dX6_store_13 rfl (lv_at hl 0 rfl) ?_
    refine va_get (D := (dC, dI)) (ci := 6) (v := .ref (a 11)) (C := RX6) (T := TX6) (N := 23) hx hb hts i_X6 hown hK hP 0 rfl rfl 16 (by decide) f_1 (fun _ h9 => h9) rfl dX6_store_14 ?_
    refine lv_iload_n hx hb dX6_store_17 rfl (lv_at hl 1 rfl) ?_
    refine cb_iald hx hb hK hP 11 10 (f := c_sto S) rfl rfl (j := f) (by omega) (Nat.le_of_ble_eq_true rfl) dX6_store_18 ?_
    refine lv_goto (tgt := 27) hx hb dX6_store_19 (by decide) ?_
    have hk9 : k_store S x0 = 0 := by simp only [k_store, c_10, tf, if_true, if_false, Bool.false_eq_true, true_or, or_true, false_or, or_false, reduceCtorEq]
    have ew : (mb_w a k S 0) = (mb_w a k S (k_store S x0)) := (by rw [hk9]; first | done | rfl)
    have hP : va_P (dC, dI) vwCl (mb_w a k S (k_store S x0)) H := by rw [← ew]; exact hP
    have hD : va_D A (mb_w a k S (k_store S x0)) := by rw [← ew]; exact hD
    rw [hQ]
    refine W.widen (k := 0) (n := 0) (by omega) (by omega) ?_
    exact W.iret (v := c_sto S f) hx hb hr (fun t9 ht9 hW9 => ⟨⟨c_sto S f, (), rfl, (fun _ => by rw [r_store, tf]), cB_of hP hK hD ht9 hW9⟩, hS.F ht9⟩) hS.2.2 dX6_store_27
end CBM
