section CBD
theorem cb_cmp_le {x y : Int64} (h : lg_cmp x y ≤ 0) : x ≤ y := by
  unfold lg_cmp at h
  by_cases h1 : x > y
  · rw [if_pos h1] at h; exact absurd h (by decide)
  · exact Int64.not_lt.mp h1
theorem cb_cmp_nle {x y : Int64} (h : ¬ lg_cmp x y ≤ 0) : ¬ x ≤ y := fun q => h (by
  unfold lg_cmp
  rw [if_neg (Int64.not_lt.mpr q)]
  split <;> decide)
end CBD
section CBM
abbrev rm_X6_thrown : Room := { frames := 0, cells := 0, slots := 0, locals := 0 }
set_option maxHeartbeats 4000000 in
set_option maxRecDepth 100000 in
theorem c_X6_thrown (l : Launch) (dC : Nat → ClassId) (dI : Nat → Nat → Nat) (a : Nat → Nat) (k : Nat → ClassId) (S : cs_S) (th : Nat)  : Met l yX6_thrown wsX6_thrown rm_X6_thrown (va_Pc [.ref (a 0)] (cR dC dI (mb_w a k S th) (mb_ty k))) (vp_Si (fun r => r = nI th)) 0 0 (fun _ => False) := by
  refine Met.ofW (cc := cX6_thrown) (maxL := 1) (ret := (some .int)) (by decide) rfl ?_
  intro p e s m args below meth c s₁ B hml hv
  obtain ⟨rfl, hP, hK⟩ := hv
  have hx := B.exec
  have hb := B.bytes
  have hr := B.returns
  have hts := atoms_spec (ws := wsX6_thrown) B.pre
  have hown : s.vm.findClass RX6 = some m.cls := findClass_of_methodNamed B.named
  have hlocks := B.notSynchronized
  obtain ⟨Q, hQ⟩ : ∃ Q, Q = MQ below (vp_Si (fun r => r = nI th)) ([.ref (a 0)] : List Value).toArray s 0 0 (fun _ => False) := ⟨_, rfl⟩
  show W p l e rm_X6_thrown s m _ below meth c s.heap [] 0 0 (MQ below _ _ _ _ _ _) _
  rw [← hQ]
  have i_X6 : ∀ w ∈ wsX60, w ∈ wsX6_thrown := fun w h => List.mem_cons_of_mem _ (List.mem_append_right _ h)
  have f_0 := hts (.fieldLink RX6 53 "CampBookModel" "thrown" "I") (by decide +kernel)
  have hl := lv_entry ([.ref (a 0)]) (n := 1) (Nat.le_of_ble_eq_true rfl)
  rw [lg_entry_eq]
  generalize (lg_sl ([.ref (a 0)]) ++ List.replicate (1 - (lg_sl ([.ref (a 0)])).length) Slot.unset).toArray = ls at hl ⊢
  have hl : lv_has ls 1 [(0, .ref (a 0))] := hl
  refine lv_aload_n hx hb dX6_thrown_0 rfl (lv_at hl 0 rfl) ?_
  refine va_get (D := (dC, dI)) (ci := 6) (v := .int (nI th)) (C := RX6) (T := TX6) (N := 23) hx hb hts i_X6 hown hK hP 0 rfl rfl 0 (by decide) f_0 (fun _ h9 => h9) rfl dX6_thrown_1 ?_
  rw [hQ]
  exact W.iret (v := nI th) hx hb hr (fun t9 ht9 hW9 => ⟨nI th, rfl, rfl, ht9⟩) (fun q h => absurd h List.not_mem_nil) dX6_thrown_4
abbrev rm_X6_no : Room := { frames := 0, cells := 0, slots := 0, locals := 0 }
set_option maxHeartbeats 4000000 in
set_option maxRecDepth 100000 in
theorem c_X6_no (l : Launch) (dC : Nat → ClassId) (dI : Nat → Nat → Nat) (a : Nat → Nat) (k : Nat → ClassId) (S : cs_S) (th : Nat) (sz : Nat) (n9 : Nat) : Met l yX6_no wsX6_no rm_X6_no (va_Pc [.ref (a 0), .int (nI n9)] (cT dC dI sz (mb_w a k S th) (mb_ty k))) (va_Qi (fun (r : Int32) (_ : Unit) => r = nI 0) (fun _ t => cB dC dI (va_A (mb_w a k S th) sz) (mb_w a k S n9) (mb_ty k) t) (va_A (mb_w a k S th) sz)) 0 0 (va_A (mb_w a k S th) sz) := by
  refine Met.ofW (cc := cX6_no) (maxL := 2) (ret := (some .int)) (by decide) rfl ?_
  intro p e s m args below meth c s₁ B hml hv
  obtain ⟨rfl, hsz, hP, hK, hD0⟩ := hv
  have hx := B.exec
  have hb := B.bytes
  have hr := B.returns
  have hts := atoms_spec (ws := wsX6_no) B.pre
  have hown : s.vm.findClass RX6 = some m.cls := findClass_of_methodNamed B.named
  have hlocks := B.notSynchronized
  subst hsz
  have hD := hD0.self (sz := s.heap.size)
  generalize hAe : va_A (mb_w a k S th) s.heap.size = A at hD ⊢
  have hA : ∀ q : Nat, s.heap.size ≤ q → A q := fun q h => by rw [← hAe]; exact Or.inr h
  have hS : va_S A s.heap s.heap [] := va_S.rf
  obtain ⟨Q, hQ⟩ : ∃ Q, Q = MQ below (va_Qi (fun (r : Int32) (_ : Unit) => r = nI 0) (fun _ t => cB dC dI A (mb_w a k S n9) (mb_ty k) t) A) ([.ref (a 0), .int (nI n9)] : List Value).toArray s 0 0 A := ⟨_, rfl⟩
  show W p l e rm_X6_no s m _ below meth c s.heap [] 0 0 (MQ below _ _ _ _ _ _) _
  rw [← hQ]
  have i_X6 : ∀ w ∈ wsX60, w ∈ wsX6_no := fun w h => List.mem_cons_of_mem _ (List.mem_append_right _ h)
  have f_0 := hts (.fieldLink RX6 53 "CampBookModel" "thrown" "I") (by decide +kernel)
  have hl := lv_entry ([.ref (a 0), .int (nI n9)]) (n := 2) (Nat.le_of_ble_eq_true rfl)
  rw [lg_entry_eq]
  generalize (lg_sl ([.ref (a 0), .int (nI n9)]) ++ List.replicate (2 - (lg_sl ([.ref (a 0), .int (nI n9)])).length) Slot.unset).toArray = ls at hl ⊢
  have hl : lv_has ls 2 [(0, .ref (a 0)), (1, .int (nI n9))] := hl
  refine lv_aload_n hx hb dX6_no_0 rfl (lv_at hl 0 rfl) ?_
  refine lv_iload_n hx hb dX6_no_1 rfl (lv_at hl 1 rfl) ?_
  refine va_put (D := (dC, dI)) (ci := 6) (v := .int (nI n9)) (ty := .int) (C := RX6) (T := TX6) (N := 23) hx hb hts i_X6 tyX6 tyX6_ok nmX6 hown hK hP hD hS 0 rfl rfl 0 (by decide) f_0 (fun _ h9 => h9) rfl (by decide +kernel) rfl rfl (Nat.le_of_ble_eq_true rfl) dX6_no_2 (fun H locs hP hD hS => ?_)
  rw [wsM_TH] at hP hD
  have hP : va_P (dC, dI) vwCl (mb_w a k S n9) H := hP
  have hD : va_D A (mb_w a k S n9) := hD
  refine lv_iconst (v := nI 0) hx hb dX6_no_5 (by decide) ?_
  have ew : (mb_w a k S n9) = (mb_w a k S n9) := rfl
  have hP : va_P (dC, dI) vwCl (mb_w a k S n9) H := by rw [← ew]; exact hP
  have hD : va_D A (mb_w a k S n9) := by rw [← ew]; exact hD
  rw [hQ]
  refine W.widen (k := 0) (n := 0) (by omega) (by omega) ?_
  exact W.iret (v := nI 0) hx hb hr (fun t9 ht9 hW9 => ⟨⟨nI 0, (), rfl, rfl, cB_of hP hK hD ht9 hW9⟩, hS.F ht9⟩) hS.2.2 dX6_no_6
abbrev rm_X6_isIn : Room := { frames := 0, cells := 0, slots := 0, locals := 0 }
set_option maxHeartbeats 4000000 in
set_option maxRecDepth 100000 in
theorem c_X6_isIn (l : Launch) (x0 : Int32) (x1 : Int32) (x2 : Int32) : Met l yX6_isIn wsX6_isIn rm_X6_isIn (va_Pc [.int x0, .int x1, .int x2] (fun _ => True)) (vp_Si (fun r => r = bI (inR x0 x1 x2))) 0 0 (fun _ => False) := by
  refine Met.ofW (cc := cX6_isIn) (maxL := 3) (ret := (some .boolean)) (by decide) rfl ?_
  intro p e s m args below meth c s₁ B hml hv
  obtain ⟨rfl, -⟩ := hv
  have hx := B.exec
  have hb := B.bytes
  have hr := B.returns
  have hts := atoms_spec (ws := wsX6_isIn) B.pre
  have hown : s.vm.findClass RX6 = some m.cls := findClass_of_methodNamed B.named
  have hlocks := B.notSynchronized
  obtain ⟨Q, hQ⟩ : ∃ Q, Q = MQ below (vp_Si (fun r => r = bI (inR x0 x1 x2))) ([.int x0, .int x1, .int x2] : List Value).toArray s 0 0 (fun _ => False) := ⟨_, rfl⟩
  show W p l e rm_X6_isIn s m _ below meth c s.heap [] 0 0 (MQ below _ _ _ _ _ _) _
  rw [← hQ]
  have hl := lv_entry ([.int x0, .int x1, .int x2]) (n := 3) (Nat.le_of_ble_eq_true rfl)
  rw [lg_entry_eq]
  generalize (lg_sl ([.int x0, .int x1, .int x2]) ++ List.replicate (3 - (lg_sl ([.int x0, .int x1, .int x2])).length) Slot.unset).toArray = ls at hl ⊢
  have hl : lv_has ls 3 [(0, .int x0), (1, .int x1), (2, .int x2)] := hl
  refine lv_iload_n hx hb dX6_isIn_0 rfl (lv_at hl 0 rfl) ?_
  refine lv_iload_n hx hb dX6_isIn_1 rfl (lv_at hl 1 rfl) ?_
  refine lv_icmp_lt (tgt := 14) hx hb dX6_isIn_2 (by decide) (fun c_2 => ?_) (fun c_2 => ?_)
  · skip
    refine lv_iconst (v := nI 0) hx hb dX6_isIn_14 (by decide) ?_
    rw [hQ]
    exact W.zret (v := nI 0) hx hb hr rfl (fun t9 ht9 hW9 => ⟨nI 0, rfl, (bI_eq0 (inR_no1 c_2)), ht9⟩) (fun q h => absurd h List.not_mem_nil) dX6_isIn_15
  · skip
    refine lv_iload_n hx hb dX6_isIn_5 rfl (lv_at hl 0 rfl) ?_
    refine lv_iload_n hx hb dX6_isIn_6 rfl (lv_at hl 2 rfl) ?_
    refine lv_icmp_gt (tgt := 14) hx hb dX6_isIn_7 (by decide) (fun c_7 => ?_) (fun c_7 => ?_)
    · skip
      refine lv_iconst (v := nI 0) hx hb dX6_isIn_14 (by decide) ?_
      rw [hQ]
      exact W.zret (v := nI 0) hx hb hr rfl (fun t9 ht9 hW9 => ⟨nI 0, rfl, (bI_eq0 (inR_no2 (Int32.not_le.mpr c_7))), ht9⟩) (fun q h => absurd h List.not_mem_nil) dX6_isIn_15
    · skip
      refine lv_iconst (v := nI 1) hx hb dX6_isIn_10 (by decide) ?_
      refine lv_goto (tgt := 15) hx hb dX6_isIn_11 (by decide) ?_
      rw [hQ]
      exact W.zret (v := nI 1) hx hb hr rfl (fun t9 ht9 hW9 => ⟨nI 1, rfl, (bI_eq1 (inR_ok c_2 (Int32.not_lt.mp c_7))), ht9⟩) (fun q h => absurd h List.not_mem_nil) dX6_isIn_15
abbrev rm_X6_isPatrol : Room := { frames := 1, cells := 0, slots := 0, locals := 22 }
set_option maxHeartbeats 4000000 in
set_option maxRecDepth 100000 in
theorem c_X6_isPatrol (l : Launch) (dC : Nat → ClassId) (dI : Nat → Nat → Nat) (a : Nat → Nat) (k : Nat → ClassId) (S : cs_S) (th : Nat) (x0 : Int32) (hI : Inv S) : Met l yX6_isPatrol wsX6_isPatrol rm_X6_isPatrol (va_Pc [.ref (a 0), .int x0] (cR dC dI (mb_w a k S th) (mb_ty k))) (vp_Si (fun r => r = bI (ix x0 (c_np S)))) 0 0 (fun _ => False) := by
  refine Met.ofW (cc := cX6_isPatrol) (maxL := 2) (ret := (some .boolean)) (by decide) rfl ?_
  intro p e s m args below meth c s₁ B hml hv
  obtain ⟨rfl, hP, hK⟩ := hv
  have hx := B.exec
  have hb := B.bytes
  have hr := B.returns
  have hts := atoms_spec (ws := wsX6_isPatrol) B.pre
  have hown : s.vm.findClass RX6 = some m.cls := findClass_of_methodNamed B.named
  have hlocks := B.notSynchronized
  obtain ⟨Q, hQ⟩ : ∃ Q, Q = MQ below (vp_Si (fun r => r = bI (ix x0 (c_np S)))) ([.ref (a 0), .int x0] : List Value).toArray s 0 0 (fun _ => False) := ⟨_, rfl⟩
  show W p l e rm_X6_isPatrol s m _ below meth c s.heap [] 0 0 (MQ below _ _ _ _ _ _) _
  rw [← hQ]
  have i_X6 : ∀ w ∈ wsX60, w ∈ wsX6_isPatrol := fun w h => List.mem_cons_of_mem _ (List.mem_append_right _ h)
  obtain ⟨⟨hday, hnp, hns, hnt, hnf, hnm, hnb, hme⟩, hpat, hage, hten, hcnt, hplc, heat, hned, hhld, hbad, hbad0, hbag⟩ := id hI
  have f_0 := hts (.fieldLink RX6 57 "CampBookModel" "patrols" "I") (by decide +kernel)
  have hl := lv_entry ([.ref (a 0), .int x0]) (n := 2) (Nat.le_of_ble_eq_true rfl)
  rw [lg_entry_eq]
  generalize (lg_sl ([.ref (a 0), .int x0]) ++ List.replicate (2 - (lg_sl ([.ref (a 0), .int x0])).length) Slot.unset).toArray = ls at hl ⊢
  have hl : lv_has ls 2 [(0, .ref (a 0)), (1, .int x0)] := hl
  refine lv_iload_n hx hb dX6_isPatrol_0 rfl (lv_at hl 1 rfl) ?_
  refine lv_iconst (v := nI 0) hx hb dX6_isPatrol_1 (by decide) ?_
  refine lv_aload_n hx hb dX6_isPatrol_2 rfl (lv_at hl 0 rfl) ?_
  refine va_get (D := (dC, dI)) (ci := 6) (v := .int (nI (c_np S))) (C := RX6) (T := TX6) (N := 23) hx hb hts i_X6 hown hK hP 0 rfl rfl 2 (by decide) f_0 (fun _ h9 => h9) rfl dX6_isPatrol_3 ?_
  refine lv_iconst (v := nI 1) hx hb dX6_isPatrol_6 (by decide) ?_
  refine lv_isub hx hb dX6_isPatrol_7 ?_
  refine vp_callSi (W.runS (As := [.int x0, .int (nI 0), .int ((nI (c_np S)) - (nI 1))]) (rest := []) ⟨hx, hb, hml, hown, hts⟩ (c_X6_isIn l x0 (nI 0) ((nI (c_np S)) - (nI 1))) (va_cwS 3 hts gX6_isPatrol_X6_isIn rfl rfl rfl (by decide +kernel) ⟨(Nat.le_of_ble_eq_true rfl), (Nat.le_of_ble_eq_true rfl)⟩) ⟨cN_blind, fun U hU hW => ⟨rfl, trivial⟩⟩ rfl rfl hl.1 rfl (lv_room (Nat.le_of_ble_eq_true rfl)) dX6_isPatrol_8 ⟨(Nat.le_of_ble_eq_true rfl), (Nat.le_of_ble_eq_true rfl)⟩) (fun r er => ?_)
  subst er
  rw [hQ]
  exact W.zret (v := bI (inR x0 (nI 0) ((nI (c_np S)) - (nI 1)))) hx hb hr (nar_bI _) (fun t9 ht9 hW9 => ⟨bI (inR x0 (nI 0) ((nI (c_np S)) - (nI 1))), rfl, (congrArg bI (inR_ix x0 (by omega))), ht9⟩) (fun q h => absurd h List.not_mem_nil) dX6_isPatrol_11
abbrev rm_X6_isScout : Room := { frames := 1, cells := 0, slots := 0, locals := 22 }
set_option maxHeartbeats 4000000 in
set_option maxRecDepth 100000 in
theorem c_X6_isScout (l : Launch) (dC : Nat → ClassId) (dI : Nat → Nat → Nat) (a : Nat → Nat) (k : Nat → ClassId) (S : cs_S) (th : Nat) (x0 : Int32) (hI : Inv S) : Met l yX6_isScout wsX6_isScout rm_X6_isScout (va_Pc [.ref (a 0), .int x0] (cR dC dI (mb_w a k S th) (mb_ty k))) (vp_Si (fun r => r = bI (ix x0 (c_ns S)))) 0 0 (fun _ => False) := by
  refine Met.ofW (cc := cX6_isScout) (maxL := 2) (ret := (some .boolean)) (by decide) rfl ?_
  intro p e s m args below meth c s₁ B hml hv
  obtain ⟨rfl, hP, hK⟩ := hv
  have hx := B.exec
  have hb := B.bytes
  have hr := B.returns
  have hts := atoms_spec (ws := wsX6_isScout) B.pre
  have hown : s.vm.findClass RX6 = some m.cls := findClass_of_methodNamed B.named
  have hlocks := B.notSynchronized
  obtain ⟨Q, hQ⟩ : ∃ Q, Q = MQ below (vp_Si (fun r => r = bI (ix x0 (c_ns S)))) ([.ref (a 0), .int x0] : List Value).toArray s 0 0 (fun _ => False) := ⟨_, rfl⟩
  show W p l e rm_X6_isScout s m _ below meth c s.heap [] 0 0 (MQ below _ _ _ _ _ _) _
  rw [← hQ]
  have i_X6 : ∀ w ∈ wsX60, w ∈ wsX6_isScout := fun w h => List.mem_cons_of_mem _ (List.mem_append_right _ h)
  obtain ⟨⟨hday, hnp, hns, hnt, hnf, hnm, hnb, hme⟩, hpat, hage, hten, hcnt, hplc, heat, hned, hhld, hbad, hbad0, hbag⟩ := id hI
  have f_0 := hts (.fieldLink RX6 64 "CampBookModel" "scouts" "I") (by decide +kernel)
  have hl := lv_entry ([.ref (a 0), .int x0]) (n := 2) (Nat.le_of_ble_eq_true rfl)
  rw [lg_entry_eq]
  generalize (lg_sl ([.ref (a 0), .int x0]) ++ List.replicate (2 - (lg_sl ([.ref (a 0), .int x0])).length) Slot.unset).toArray = ls at hl ⊢
  have hl : lv_has ls 2 [(0, .ref (a 0)), (1, .int x0)] := hl
  refine lv_iload_n hx hb dX6_isScout_0 rfl (lv_at hl 1 rfl) ?_
  refine lv_iconst (v := nI 0) hx hb dX6_isScout_1 (by decide) ?_
  refine lv_aload_n hx hb dX6_isScout_2 rfl (lv_at hl 0 rfl) ?_
  refine va_get (D := (dC, dI)) (ci := 6) (v := .int (nI (c_ns S))) (C := RX6) (T := TX6) (N := 23) hx hb hts i_X6 hown hK hP 0 rfl rfl 3 (by decide) f_0 (fun _ h9 => h9) rfl dX6_isScout_3 ?_
  refine lv_iconst (v := nI 1) hx hb dX6_isScout_6 (by decide) ?_
  refine lv_isub hx hb dX6_isScout_7 ?_
  refine vp_callSi (W.runS (As := [.int x0, .int (nI 0), .int ((nI (c_ns S)) - (nI 1))]) (rest := []) ⟨hx, hb, hml, hown, hts⟩ (c_X6_isIn l x0 (nI 0) ((nI (c_ns S)) - (nI 1))) (va_cwS 3 hts gX6_isScout_X6_isIn rfl rfl rfl (by decide +kernel) ⟨(Nat.le_of_ble_eq_true rfl), (Nat.le_of_ble_eq_true rfl)⟩) ⟨cN_blind, fun U hU hW => ⟨rfl, trivial⟩⟩ rfl rfl hl.1 rfl (lv_room (Nat.le_of_ble_eq_true rfl)) dX6_isScout_8 ⟨(Nat.le_of_ble_eq_true rfl), (Nat.le_of_ble_eq_true rfl)⟩) (fun r er => ?_)
  subst er
  rw [hQ]
  exact W.zret (v := bI (inR x0 (nI 0) ((nI (c_ns S)) - (nI 1)))) hx hb hr (nar_bI _) (fun t9 ht9 hW9 => ⟨bI (inR x0 (nI 0) ((nI (c_ns S)) - (nI 1))), rfl, (congrArg bI (inR_ix x0 (by omega))), ht9⟩) (fun q h => absurd h List.not_mem_nil) dX6_isScout_11
abbrev rm_X6_isTent : Room := { frames := 1, cells := 0, slots := 0, locals := 22 }
set_option maxHeartbeats 4000000 in
set_option maxRecDepth 100000 in
theorem c_X6_isTent (l : Launch) (dC : Nat → ClassId) (dI : Nat → Nat → Nat) (a : Nat → Nat) (k : Nat → ClassId) (S : cs_S) (th : Nat) (x0 : Int32) (hI : Inv S) : Met l yX6_isTent wsX6_isTent rm_X6_isTent (va_Pc [.ref (a 0), .int x0] (cR dC dI (mb_w a k S th) (mb_ty k))) (vp_Si (fun r => r = bI (ix x0 (c_nt S)))) 0 0 (fun _ => False) := by
  refine Met.ofW (cc := cX6_isTent) (maxL := 2) (ret := (some .boolean)) (by decide) rfl ?_
  intro p e s m args below meth c s₁ B hml hv
  obtain ⟨rfl, hP, hK⟩ := hv
  have hx := B.exec
  have hb := B.bytes
  have hr := B.returns
  have hts := atoms_spec (ws := wsX6_isTent) B.pre
  have hown : s.vm.findClass RX6 = some m.cls := findClass_of_methodNamed B.named
  have hlocks := B.notSynchronized
  obtain ⟨Q, hQ⟩ : ∃ Q, Q = MQ below (vp_Si (fun r => r = bI (ix x0 (c_nt S)))) ([.ref (a 0), .int x0] : List Value).toArray s 0 0 (fun _ => False) := ⟨_, rfl⟩
  show W p l e rm_X6_isTent s m _ below meth c s.heap [] 0 0 (MQ below _ _ _ _ _ _) _
  rw [← hQ]
  have i_X6 : ∀ w ∈ wsX60, w ∈ wsX6_isTent := fun w h => List.mem_cons_of_mem _ (List.mem_append_right _ h)
  obtain ⟨⟨hday, hnp, hns, hnt, hnf, hnm, hnb, hme⟩, hpat, hage, hten, hcnt, hplc, heat, hned, hhld, hbad, hbad0, hbag⟩ := id hI
  have f_0 := hts (.fieldLink RX6 67 "CampBookModel" "tents" "I") (by decide +kernel)
  have hl := lv_entry ([.ref (a 0), .int x0]) (n := 2) (Nat.le_of_ble_eq_true rfl)
  rw [lg_entry_eq]
  generalize (lg_sl ([.ref (a 0), .int x0]) ++ List.replicate (2 - (lg_sl ([.ref (a 0), .int x0])).length) Slot.unset).toArray = ls at hl ⊢
  have hl : lv_has ls 2 [(0, .ref (a 0)), (1, .int x0)] := hl
  refine lv_iload_n hx hb dX6_isTent_0 rfl (lv_at hl 1 rfl) ?_
  refine lv_iconst (v := nI 0) hx hb dX6_isTent_1 (by decide) ?_
  refine lv_aload_n hx hb dX6_isTent_2 rfl (lv_at hl 0 rfl) ?_
  refine va_get (D := (dC, dI)) (ci := 6) (v := .int (nI (c_nt S))) (C := RX6) (T := TX6) (N := 23) hx hb hts i_X6 hown hK hP 0 rfl rfl 12 (by decide) f_0 (fun _ h9 => h9) rfl dX6_isTent_3 ?_
  refine lv_iconst (v := nI 1) hx hb dX6_isTent_6 (by decide) ?_
  refine lv_isub hx hb dX6_isTent_7 ?_
  refine vp_callSi (W.runS (As := [.int x0, .int (nI 0), .int ((nI (c_nt S)) - (nI 1))]) (rest := []) ⟨hx, hb, hml, hown, hts⟩ (c_X6_isIn l x0 (nI 0) ((nI (c_nt S)) - (nI 1))) (va_cwS 3 hts gX6_isTent_X6_isIn rfl rfl rfl (by decide +kernel) ⟨(Nat.le_of_ble_eq_true rfl), (Nat.le_of_ble_eq_true rfl)⟩) ⟨cN_blind, fun U hU hW => ⟨rfl, trivial⟩⟩ rfl rfl hl.1 rfl (lv_room (Nat.le_of_ble_eq_true rfl)) dX6_isTent_8 ⟨(Nat.le_of_ble_eq_true rfl), (Nat.le_of_ble_eq_true rfl)⟩) (fun r er => ?_)
  subst er
  rw [hQ]
  exact W.zret (v := bI (inR x0 (nI 0) ((nI (c_nt S)) - (nI 1)))) hx hb hr (nar_bI _) (fun t9 ht9 hW9 => ⟨bI (inR x0 (nI 0) ((nI (c_nt S)) - (nI 1))), rfl, (congrArg bI (inR_ix x0 (by omega))), ht9⟩) (fun q h => absurd h List.not_mem_nil) dX6_isTent_11
abbrev rm_X6_isFood : Room := { frames := 1, cells := 0, slots := 0, locals := 22 }
set_option maxHeartbeats 4000000 in
set_option maxRecDepth 100000 in
theorem c_X6_isFood (l : Launch) (dC : Nat → ClassId) (dI : Nat → Nat → Nat) (a : Nat → Nat) (k : Nat → ClassId) (S : cs_S) (th : Nat) (x0 : Int32) (hI : Inv S) : Met l yX6_isFood wsX6_isFood rm_X6_isFood (va_Pc [.ref (a 0), .int x0] (cR dC dI (mb_w a k S th) (mb_ty k))) (vp_Si (fun r => r = bI (ix x0 (c_nf S)))) 0 0 (fun _ => False) := by
  refine Met.ofW (cc := cX6_isFood) (maxL := 2) (ret := (some .boolean)) (by decide) rfl ?_
  intro p e s m args below meth c s₁ B hml hv
  obtain ⟨rfl, hP, hK⟩ := hv
  have hx := B.exec
  have hb := B.bytes
  have hr := B.returns
  have hts := atoms_spec (ws := wsX6_isFood) B.pre
  have hown : s.vm.findClass RX6 = some m.cls := findClass_of_methodNamed B.named
  have hlocks := B.notSynchronized
  obtain ⟨Q, hQ⟩ : ∃ Q, Q = MQ below (vp_Si (fun r => r = bI (ix x0 (c_nf S)))) ([.ref (a 0), .int x0] : List Value).toArray s 0 0 (fun _ => False) := ⟨_, rfl⟩
  show W p l e rm_X6_isFood s m _ below meth c s.heap [] 0 0 (MQ below _ _ _ _ _ _) _
  rw [← hQ]
  have i_X6 : ∀ w ∈ wsX60, w ∈ wsX6_isFood := fun w h => List.mem_cons_of_mem _ (List.mem_append_right _ h)
  obtain ⟨⟨hday, hnp, hns, hnt, hnf, hnm, hnb, hme⟩, hpat, hage, hten, hcnt, hplc, heat, hned, hhld, hbad, hbad0, hbag⟩ := id hI
  have f_0 := hts (.fieldLink RX6 70 "CampBookModel" "foods" "I") (by decide +kernel)
  have hl := lv_entry ([.ref (a 0), .int x0]) (n := 2) (Nat.le_of_ble_eq_true rfl)
  rw [lg_entry_eq]
  generalize (lg_sl ([.ref (a 0), .int x0]) ++ List.replicate (2 - (lg_sl ([.ref (a 0), .int x0])).length) Slot.unset).toArray = ls at hl ⊢
  have hl : lv_has ls 2 [(0, .ref (a 0)), (1, .int x0)] := hl
  refine lv_iload_n hx hb dX6_isFood_0 rfl (lv_at hl 1 rfl) ?_
  refine lv_iconst (v := nI 0) hx hb dX6_isFood_1 (by decide) ?_
  refine lv_aload_n hx hb dX6_isFood_2 rfl (lv_at hl 0 rfl) ?_
  refine va_get (D := (dC, dI)) (ci := 6) (v := .int (nI (c_nf S))) (C := RX6) (T := TX6) (N := 23) hx hb hts i_X6 hown hK hP 0 rfl rfl 15 (by decide) f_0 (fun _ h9 => h9) rfl dX6_isFood_3 ?_
  refine lv_iconst (v := nI 1) hx hb dX6_isFood_6 (by decide) ?_
  refine lv_isub hx hb dX6_isFood_7 ?_
  refine vp_callSi (W.runS (As := [.int x0, .int (nI 0), .int ((nI (c_nf S)) - (nI 1))]) (rest := []) ⟨hx, hb, hml, hown, hts⟩ (c_X6_isIn l x0 (nI 0) ((nI (c_nf S)) - (nI 1))) (va_cwS 3 hts gX6_isFood_X6_isIn rfl rfl rfl (by decide +kernel) ⟨(Nat.le_of_ble_eq_true rfl), (Nat.le_of_ble_eq_true rfl)⟩) ⟨cN_blind, fun U hU hW => ⟨rfl, trivial⟩⟩ rfl rfl hl.1 rfl (lv_room (Nat.le_of_ble_eq_true rfl)) dX6_isFood_8 ⟨(Nat.le_of_ble_eq_true rfl), (Nat.le_of_ble_eq_true rfl)⟩) (fun r er => ?_)
  subst er
  rw [hQ]
  exact W.zret (v := bI (inR x0 (nI 0) ((nI (c_nf S)) - (nI 1)))) hx hb hr (nar_bI _) (fun t9 ht9 hW9 => ⟨bI (inR x0 (nI 0) ((nI (c_nf S)) - (nI 1))), rfl, (congrArg bI (inR_ix x0 (by omega))), ht9⟩) (fun q h => absurd h List.not_mem_nil) dX6_isFood_11
abbrev rm_X6_isMeal : Room := { frames := 1, cells := 0, slots := 0, locals := 22 }
set_option maxHeartbeats 4000000 in
set_option maxRecDepth 100000 in
theorem c_X6_isMeal (l : Launch) (dC : Nat → ClassId) (dI : Nat → Nat → Nat) (a : Nat → Nat) (k : Nat → ClassId) (S : cs_S) (th : Nat) (x0 : Int32) (hI : Inv S) : Met l yX6_isMeal wsX6_isMeal rm_X6_isMeal (va_Pc [.ref (a 0), .int x0] (cR dC dI (mb_w a k S th) (mb_ty k))) (vp_Si (fun r => r = bI (ix x0 (c_nm S)))) 0 0 (fun _ => False) := by
  refine Met.ofW (cc := cX6_isMeal) (maxL := 2) (ret := (some .boolean)) (by decide) rfl ?_
  intro p e s m args below meth c s₁ B hml hv
  obtain ⟨rfl, hP, hK⟩ := hv
  have hx := B.exec
  have hb := B.bytes
  have hr := B.returns
  have hts := atoms_spec (ws := wsX6_isMeal) B.pre
  have hown : s.vm.findClass RX6 = some m.cls := findClass_of_methodNamed B.named
  have hlocks := B.notSynchronized
  obtain ⟨Q, hQ⟩ : ∃ Q, Q = MQ below (vp_Si (fun r => r = bI (ix x0 (c_nm S)))) ([.ref (a 0), .int x0] : List Value).toArray s 0 0 (fun _ => False) := ⟨_, rfl⟩
  show W p l e rm_X6_isMeal s m _ below meth c s.heap [] 0 0 (MQ below _ _ _ _ _ _) _
  rw [← hQ]
  have i_X6 : ∀ w ∈ wsX60, w ∈ wsX6_isMeal := fun w h => List.mem_cons_of_mem _ (List.mem_append_right _ h)
  obtain ⟨⟨hday, hnp, hns, hnt, hnf, hnm, hnb, hme⟩, hpat, hage, hten, hcnt, hplc, heat, hned, hhld, hbad, hbad0, hbag⟩ := id hI
  have f_0 := hts (.fieldLink RX6 73 "CampBookModel" "meals" "I") (by decide +kernel)
  have hl := lv_entry ([.ref (a 0), .int x0]) (n := 2) (Nat.le_of_ble_eq_true rfl)
  rw [lg_entry_eq]
  generalize (lg_sl ([.ref (a 0), .int x0]) ++ List.replicate (2 - (lg_sl ([.ref (a 0), .int x0])).length) Slot.unset).toArray = ls at hl ⊢
  have hl : lv_has ls 2 [(0, .ref (a 0)), (1, .int x0)] := hl
  refine lv_iload_n hx hb dX6_isMeal_0 rfl (lv_at hl 1 rfl) ?_
  refine lv_iconst (v := nI 0) hx hb dX6_isMeal_1 (by decide) ?_
  refine lv_aload_n hx hb dX6_isMeal_2 rfl (lv_at hl 0 rfl) ?_
  refine va_get (D := (dC, dI)) (ci := 6) (v := .int (nI (c_nm S))) (C := RX6) (T := TX6) (N := 23) hx hb hts i_X6 hown hK hP 0 rfl rfl 17 (by decide) f_0 (fun _ h9 => h9) rfl dX6_isMeal_3 ?_
  refine lv_iconst (v := nI 1) hx hb dX6_isMeal_6 (by decide) ?_
  refine lv_isub hx hb dX6_isMeal_7 ?_
  refine vp_callSi (W.runS (As := [.int x0, .int (nI 0), .int ((nI (c_nm S)) - (nI 1))]) (rest := []) ⟨hx, hb, hml, hown, hts⟩ (c_X6_isIn l x0 (nI 0) ((nI (c_nm S)) - (nI 1))) (va_cwS 3 hts gX6_isMeal_X6_isIn rfl rfl rfl (by decide +kernel) ⟨(Nat.le_of_ble_eq_true rfl), (Nat.le_of_ble_eq_true rfl)⟩) ⟨cN_blind, fun U hU hW => ⟨rfl, trivial⟩⟩ rfl rfl hl.1 rfl (lv_room (Nat.le_of_ble_eq_true rfl)) dX6_isMeal_8 ⟨(Nat.le_of_ble_eq_true rfl), (Nat.le_of_ble_eq_true rfl)⟩) (fun r er => ?_)
  subst er
  rw [hQ]
  exact W.zret (v := bI (inR x0 (nI 0) ((nI (c_nm S)) - (nI 1)))) hx hb hr (nar_bI _) (fun t9 ht9 hW9 => ⟨bI (inR x0 (nI 0) ((nI (c_nm S)) - (nI 1))), rfl, (congrArg bI (inR_ix x0 (by omega))), ht9⟩) (fun q h => absurd h List.not_mem_nil) dX6_isMeal_11
abbrev rm_X6_isBadge : Room := { frames := 1, cells := 0, slots := 0, locals := 22 }
set_option maxHeartbeats 4000000 in
set_option maxRecDepth 100000 in
theorem c_X6_isBadge (l : Launch) (dC : Nat → ClassId) (dI : Nat → Nat → Nat) (a : Nat → Nat) (k : Nat → ClassId) (S : cs_S) (th : Nat) (x0 : Int32) (hI : Inv S) : Met l yX6_isBadge wsX6_isBadge rm_X6_isBadge (va_Pc [.ref (a 0), .int x0] (cR dC dI (mb_w a k S th) (mb_ty k))) (vp_Si (fun r => r = bI (ix x0 (c_nb S)))) 0 0 (fun _ => False) := by
  refine Met.ofW (cc := cX6_isBadge) (maxL := 2) (ret := (some .boolean)) (by decide) rfl ?_
  intro p e s m args below meth c s₁ B hml hv
  obtain ⟨rfl, hP, hK⟩ := hv
  have hx := B.exec
  have hb := B.bytes
  have hr := B.returns
  have hts := atoms_spec (ws := wsX6_isBadge) B.pre
  have hown : s.vm.findClass RX6 = some m.cls := findClass_of_methodNamed B.named
  have hlocks := B.notSynchronized
  obtain ⟨Q, hQ⟩ : ∃ Q, Q = MQ below (vp_Si (fun r => r = bI (ix x0 (c_nb S)))) ([.ref (a 0), .int x0] : List Value).toArray s 0 0 (fun _ => False) := ⟨_, rfl⟩
  show W p l e rm_X6_isBadge s m _ below meth c s.heap [] 0 0 (MQ below _ _ _ _ _ _) _
  rw [← hQ]
  have i_X6 : ∀ w ∈ wsX60, w ∈ wsX6_isBadge := fun w h => List.mem_cons_of_mem _ (List.mem_append_right _ h)
  obtain ⟨⟨hday, hnp, hns, hnt, hnf, hnm, hnb, hme⟩, hpat, hage, hten, hcnt, hplc, heat, hned, hhld, hbad, hbad0, hbag⟩ := id hI
  have f_0 := hts (.fieldLink RX6 76 "CampBookModel" "badges" "I") (by decide +kernel)
  have hl := lv_entry ([.ref (a 0), .int x0]) (n := 2) (Nat.le_of_ble_eq_true rfl)
  rw [lg_entry_eq]
  generalize (lg_sl ([.ref (a 0), .int x0]) ++ List.replicate (2 - (lg_sl ([.ref (a 0), .int x0])).length) Slot.unset).toArray = ls at hl ⊢
  have hl : lv_has ls 2 [(0, .ref (a 0)), (1, .int x0)] := hl
  refine lv_iload_n hx hb dX6_isBadge_0 rfl (lv_at hl 1 rfl) ?_
  refine lv_iconst (v := nI 0) hx hb dX6_isBadge_1 (by decide) ?_
  refine lv_aload_n hx hb dX6_isBadge_2 rfl (lv_at hl 0 rfl) ?_
  refine va_get (D := (dC, dI)) (ci := 6) (v := .int (nI (c_nb S))) (C := RX6) (T := TX6) (N := 23) hx hb hts i_X6 hown hK hP 0 rfl rfl 20 (by decide) f_0 (fun _ h9 => h9) rfl dX6_isBadge_3 ?_
  refine lv_iconst (v := nI 1) hx hb dX6_isBadge_6 (by decide) ?_
  refine lv_isub hx hb dX6_isBadge_7 ?_
  refine vp_callSi (W.runS (As := [.int x0, .int (nI 0), .int ((nI (c_nb S)) - (nI 1))]) (rest := []) ⟨hx, hb, hml, hown, hts⟩ (c_X6_isIn l x0 (nI 0) ((nI (c_nb S)) - (nI 1))) (va_cwS 3 hts gX6_isBadge_X6_isIn rfl rfl rfl (by decide +kernel) ⟨(Nat.le_of_ble_eq_true rfl), (Nat.le_of_ble_eq_true rfl)⟩) ⟨cN_blind, fun U hU hW => ⟨rfl, trivial⟩⟩ rfl rfl hl.1 rfl (lv_room (Nat.le_of_ble_eq_true rfl)) dX6_isBadge_8 ⟨(Nat.le_of_ble_eq_true rfl), (Nat.le_of_ble_eq_true rfl)⟩) (fun r er => ?_)
  subst er
  rw [hQ]
  exact W.zret (v := bI (inR x0 (nI 0) ((nI (c_nb S)) - (nI 1)))) hx hb hr (nar_bI _) (fun t9 ht9 hW9 => ⟨bI (inR x0 (nI 0) ((nI (c_nb S)) - (nI 1))), rfl, (congrArg bI (inR_ix x0 (by omega))), ht9⟩) (fun q h => absurd h List.not_mem_nil) dX6_isBadge_11
abbrev rm_X6_isActivity : Room := { frames := 1, cells := 0, slots := 0, locals := 22 }
set_option maxHeartbeats 4000000 in
set_option maxRecDepth 100000 in
theorem c_X6_isActivity (l : Launch) (x0 : Int32) : Met l yX6_isActivity wsX6_isActivity rm_X6_isActivity (va_Pc [.int x0] (fun _ => True)) (vp_Si (fun r => r = bI (ix x0 10))) 0 0 (fun _ => False) := by
  refine Met.ofW (cc := cX6_isActivity) (maxL := 1) (ret := (some .boolean)) (by decide) rfl ?_
  intro p e s m args below meth c s₁ B hml hv
  obtain ⟨rfl, -⟩ := hv
  have hx := B.exec
  have hb := B.bytes
  have hr := B.returns
  have hts := atoms_spec (ws := wsX6_isActivity) B.pre
  have hown : s.vm.findClass RX6 = some m.cls := findClass_of_methodNamed B.named
  have hlocks := B.notSynchronized
  obtain ⟨Q, hQ⟩ : ∃ Q, Q = MQ below (vp_Si (fun r => r = bI (ix x0 10))) ([.int x0] : List Value).toArray s 0 0 (fun _ => False) := ⟨_, rfl⟩
  show W p l e rm_X6_isActivity s m _ below meth c s.heap [] 0 0 (MQ below _ _ _ _ _ _) _
  rw [← hQ]
  have hl := lv_entry ([.int x0]) (n := 1) (Nat.le_of_ble_eq_true rfl)
  rw [lg_entry_eq]
  generalize (lg_sl ([.int x0]) ++ List.replicate (1 - (lg_sl ([.int x0])).length) Slot.unset).toArray = ls at hl ⊢
  have hl : lv_has ls 1 [(0, .int x0)] := hl
  refine lv_iload_n hx hb dX6_isActivity_0 rfl (lv_at hl 0 rfl) ?_
  refine lv_iconst (v := nI 0) hx hb dX6_isActivity_1 (by decide) ?_
  refine lv_bipush (v := nI 9) hx hb dX6_isActivity_2 (by decide) ?_
  refine vp_callSi (W.runS (As := [.int x0, .int (nI 0), .int (nI 9)]) (rest := []) ⟨hx, hb, hml, hown, hts⟩ (c_X6_isIn l x0 (nI 0) (nI 9)) (va_cwS 3 hts gX6_isActivity_X6_isIn rfl rfl rfl (by decide +kernel) ⟨(Nat.le_of_ble_eq_true rfl), (Nat.le_of_ble_eq_true rfl)⟩) ⟨cN_blind, fun U hU hW => ⟨rfl, trivial⟩⟩ rfl rfl hl.1 rfl (lv_room (Nat.le_of_ble_eq_true rfl)) dX6_isActivity_4 ⟨(Nat.le_of_ble_eq_true rfl), (Nat.le_of_ble_eq_true rfl)⟩) (fun r er => ?_)
  subst er
  rw [hQ]
  exact W.zret (v := bI (inR x0 (nI 0) (nI 9))) hx hb hr (nar_bI _) (fun t9 ht9 hW9 => ⟨bI (inR x0 (nI 0) (nI 9)), rfl, (congrArg bI (inR_ixm x0 (by omega))), ht9⟩) (fun q h => absurd h List.not_mem_nil) dX6_isActivity_7
abbrev rm_X6_hoursOf : Room := { frames := 0, cells := 0, slots := 0, locals := 0 }
set_option maxHeartbeats 4000000 in
set_option maxRecDepth 100000 in
theorem c_X6_hoursOf (l : Launch) (dC : Nat → ClassId) (dI : Nat → Nat → Nat) (a : Nat → Nat) (k : Nat → ClassId) (S : cs_S) (th : Nat) (u : Nat) (hu : u < 30) : Met l yX6_hoursOf wsX6_hoursOf rm_X6_hoursOf (va_Pc [.ref (a 0), .int (nI u)] (cR dC dI (mb_w a k S th) (mb_ty k))) (vp_Si (fun r => r = allH S u)) 0 0 (fun _ => False) := by
  refine Met.ofW (cc := cX6_hoursOf) (maxL := 4) (ret := (some .int)) (by decide) rfl ?_
  intro p e s m args below meth c s₁ B hml hv
  obtain ⟨rfl, hP, hK⟩ := hv
  have hx := B.exec
  have hb := B.bytes
  have hr := B.returns
  have hts := atoms_spec (ws := wsX6_hoursOf) B.pre
  have hown : s.vm.findClass RX6 = some m.cls := findClass_of_methodNamed B.named
  have hlocks := B.notSynchronized
  obtain ⟨Q, hQ⟩ : ∃ Q, Q = MQ below (vp_Si (fun r => r = allH S u)) ([.ref (a 0), .int (nI u)] : List Value).toArray s 0 0 (fun _ => False) := ⟨_, rfl⟩
  show W p l e rm_X6_hoursOf s m _ below meth c s.heap [] 0 0 (MQ below _ _ _ _ _ _) _
  rw [← hQ]
  have i_X6 : ∀ w ∈ wsX60, w ∈ wsX6_hoursOf := fun w h => List.mem_cons_of_mem _ (List.mem_append_right _ h)
  have f_0 := hts (.fieldLink RX6 28 "CampBookModel" "hours" "[I") (by decide +kernel)
  have hl := lv_entry ([.ref (a 0), .int (nI u)]) (n := 4) (Nat.le_of_ble_eq_true rfl)
  rw [lg_entry_eq]
  generalize (lg_sl ([.ref (a 0), .int (nI u)]) ++ List.replicate (4 - (lg_sl ([.ref (a 0), .int (nI u)])).length) Slot.unset).toArray = ls at hl ⊢
  have hl : lv_has ls 4 [(0, .ref (a 0)), (1, .int (nI u))] := hl
  refine lv_iconst (v := nI 0) hx hb dX6_hoursOf_0 (by decide) ?_
  refine lv_istore_n (lv' := [(2, .int (nI 0)), (0, .ref (a 0)), (1, .int (nI u))]) hx hb dX6_hoursOf_1 rfl hl (by decide) rfl (fun ls hl => ?_)
  refine lv_iconst (v := nI 0) hx hb dX6_hoursOf_2 (by decide) ?_
  refine lv_istore_n (lv' := [(3, .int (nI 0)), (2, .int (nI 0)), (0, .ref (a 0)), (1, .int (nI u))]) hx hb dX6_hoursOf_3 rfl hl (by decide) rfl (fun ls hl => ?_)
  have L_4 : ∀ (n i : Nat), i ≤ 10 → 10 + 1 ≤ i + n → ∀ (ls : Array Slot), lv_has ls 4 [(0, .ref (a 0)), (1, .int (nI u)), (2, .int (sm (fun j => c_hrs S (u * 10 + j)) i)), (3, .int (nI i))] → W p l e rm_X6_hoursOf s m ([.ref (a 0), .int (nI u)] : List Value).toArray below meth c s.heap [] 0 0 Q (F0 m 4 ls []) := by
    intro n
    induction n with
    | zero => intro i h1 h2; exact absurd h2 (by omega)
    | succ n ih_4 =>
      intro i hle_4 hfu_4 ls hl
      refine lv_iload_n hx hb dX6_hoursOf_4 rfl (lv_at hl 3 rfl) ?_
      refine lv_bipush (v := nI 10) hx hb dX6_hoursOf_5 (by decide) ?_
      refine lv_icmp_ge (tgt := 30) hx hb dX6_hoursOf_7 (by decide) (fun c_7 => ?_) (fun c_7 => ?_)
      · have c_7 : 10 ≤ i := cb_ge (by omega) (by omega) c_7
        refine lv_iload_n hx hb dX6_hoursOf_30 rfl (lv_at hl 2 rfl) ?_
        rw [hQ]
        exact W.iret (v := sm (fun j => c_hrs S (u * 10 + j)) i) hx hb hr (fun t9 ht9 hW9 => ⟨sm (fun j => c_hrs S (u * 10 + j)) i, rfl, (by rw [show i = 10 by omega]; rfl), ht9⟩) (fun q h => absurd h List.not_mem_nil) dX6_hoursOf_31
      · have c_7 : i < 10 := cb_nge (by omega) (by omega) c_7
        refine lv_iload_n hx hb dX6_hoursOf_10 rfl (lv_at hl 2 rfl) ?_
        refine lv_aload_n hx hb dX6_hoursOf_11 rfl (lv_at hl 0 rfl) ?_
        refine va_get (D := (dC, dI)) (ci := 6) (v := .ref (a 7)) (C := RX6) (T := TX6) (N := 23) hx hb hts i_X6 hown hK hP 0 rfl rfl 10 (by decide) f_0 (fun _ h9 => h9) rfl dX6_hoursOf_12 ?_
        refine lv_bipush (v := nI 10) hx hb dX6_hoursOf_15 (by decide) ?_
        refine lv_iload_n hx hb dX6_hoursOf_17 rfl (lv_at hl 1 rfl) ?_
        refine lv_imul hx hb dX6_hoursOf_18 ?_
        refine cb_topi (pk_mul _ _) ?_
        refine lv_iload_n hx hb dX6_hoursOf_19 rfl (lv_at hl 3 rfl) ?_
        refine lv_iadd hx hb dX6_hoursOf_20 ?_
        refine cb_topi (nI_add _ _) ?_
        refine cb_topi (z := nI (u * 10 + i)) (congrArg nI (by omega)) ?_
        refine cb_iald hx hb hK hP 7 6 (f := c_hrs S) rfl rfl (j := u * 10 + i) (by omega) (Nat.le_of_ble_eq_true rfl) dX6_hoursOf_21 ?_
        refine lv_iadd hx hb dX6_hoursOf_22 ?_
        refine lv_istore_n (lv' := [(2, .int ((sm (fun j => c_hrs S (u * 10 + j)) i) + (c_hrs S (u * 10 + i)))), (0, .ref (a 0)), (1, .int (nI u)), (3, .int (nI i))]) hx hb dX6_hoursOf_23 rfl hl (by decide) rfl (fun ls hl => ?_)
        refine lv_iinc (v := nI (i + 1)) (lv' := [(3, .int (nI (i + 1))), (2, .int ((sm (fun j => c_hrs S (u * 10 + j)) i) + (c_hrs S (u * 10 + i)))), (0, .ref (a 0)), (1, .int (nI u))]) hx hb dX6_hoursOf_24 hl (k := 3) rfl (nI_1 _) (by decide) rfl (fun ls hl => ?_)
        refine lv_goto (tgt := 4) hx hb dX6_hoursOf_27 (by decide) ?_
        have hl : lv_has ls 4 [(3, .int (nI (i + 1))), (2, .int (sm (fun j => c_hrs S (u * 10 + j)) (i + 1))), (0, .ref (a 0)), (1, .int (nI u))] := cb_loc hl (e := Value.int (sm (fun j => c_hrs S (u * 10 + j)) (i + 1))) 1 rfl (congrArg Value.int (show (sm (fun j => c_hrs S (u * 10 + j)) i) + (c_hrs S (u * 10 + i)) = sm (fun j => c_hrs S (u * 10 + j)) (i + 1) from rfl))
        exact ih_4 (i + 1) (by omega) (by omega) ls (lv_sub hl [2, 3, 1, 0] rfl)
  have hl : lv_has ls 4 [(3, .int (nI 0)), (2, .int (sm (fun j => c_hrs S (u * 10 + j)) 0)), (0, .ref (a 0)), (1, .int (nI u))] := cb_loc hl (e := Value.int (sm (fun j => c_hrs S (u * 10 + j)) 0)) 1 rfl (congrArg Value.int (show nI 0 = sm (fun j => c_hrs S (u * 10 + j)) 0 from rfl))
  exact L_4 (10 + 1) 0 (by omega) (by omega) ls (lv_sub hl [2, 3, 1, 0] rfl)
abbrev rm_X6_told : Room := { frames := 1, cells := 1, slots := 7, locals := 23 }
set_option maxHeartbeats 4000000 in
set_option maxRecDepth 100000 in
theorem c_X6_told (l : Launch) (dC : Nat → ClassId) (dI : Nat → Nat → Nat) (a : Nat → Nat) (k : Nat → ClassId) (S : cs_S) (th : Nat) (sz : Nat) (u : Nat) (w9 : Nat) (hu : u < c_ns S) (hw9 : w9 < 7) (hns : c_ns S ≤ 30) : Met l yX6_told wsX6_told rm_X6_told (va_Pc [.ref (a 0), .int (nI u), .int (nI w9)] (cT dC dI sz (mb_w a k S th) (mb_ty k))) (va_Qi (fun (r : Int32) (_ : Unit) => r = fct S u w9) (fun _ t => cB dC dI (va_A (mb_w a k S th) sz) (mb_w a k S th) (mb_ty k) t) (va_A (mb_w a k S th) sz)) 1 7 (va_A (mb_w a k S th) sz) := by
  refine Met.ofW (cc := cX6_told) (maxL := 4) (ret := (some .int)) (by decide) rfl ?_
  intro p e s m args below meth c s₁ B hml hv
  obtain ⟨rfl, hsz, hP, hK, hD0⟩ := hv
  have hx := B.exec
  have hb := B.bytes
  have hr := B.returns
  have hts := atoms_spec (ws := wsX6_told) B.pre
  have hown : s.vm.findClass RX6 = some m.cls := findClass_of_methodNamed B.named
  have hlocks := B.notSynchronized
  subst hsz
  have hD := hD0.self (sz := s.heap.size)
  generalize hAe : va_A (mb_w a k S th) s.heap.size = A at hD ⊢
  have hA : ∀ q : Nat, s.heap.size ≤ q → A q := fun q h => by rw [← hAe]; exact Or.inr h
  have hS : va_S A s.heap s.heap [] := va_S.rf
  obtain ⟨Q, hQ⟩ : ∃ Q, Q = MQ below (va_Qi (fun (r : Int32) (_ : Unit) => r = fct S u w9) (fun _ t => cB dC dI A (mb_w a k S th) (mb_ty k) t) A) ([.ref (a 0), .int (nI u), .int (nI w9)] : List Value).toArray s 1 7 A := ⟨_, rfl⟩
  show W p l e rm_X6_told s m _ below meth c s.heap [] 0 0 (MQ below _ _ _ _ _ _) _
  rw [← hQ]
  have i_X6 : ∀ w ∈ wsX60, w ∈ wsX6_told := fun w h => List.mem_cons_of_mem _ (List.mem_append_right _ h)
  have f_0 := hts (.arrayClass .int) (by decide +kernel)
  have f_1 := hts (.fieldLink RX6 9 "CampBookModel" "patrolOf" "[I") (by decide +kernel)
  have f_2 := hts (.fieldLink RX6 13 "CampBookModel" "ages" "[I") (by decide +kernel)
  have f_3 := hts (.fieldLink RX6 16 "CampBookModel" "skills" "[I") (by decide +kernel)
  have f_4 := hts (.fieldLink RX6 19 "CampBookModel" "avoids" "[I") (by decide +kernel)
  have f_5 := hts (.fieldLink RX6 22 "CampBookModel" "tentOf" "[I") (by decide +kernel)
  have f_6 := hts (.fieldLink RX6 25 "CampBookModel" "badgesOf" "[I") (by decide +kernel)
  have hl := lv_entry ([.ref (a 0), .int (nI u), .int (nI w9)]) (n := 4) (Nat.le_of_ble_eq_true rfl)
  rw [lg_entry_eq]
  generalize (lg_sl ([.ref (a 0), .int (nI u), .int (nI w9)]) ++ List.replicate (4 - (lg_sl ([.ref (a 0), .int (nI u), .int (nI w9)])).length) Slot.unset).toArray = ls at hl ⊢
  have hl : lv_has ls 4 [(0, .ref (a 0)), (1, .int (nI u)), (2, .int (nI w9))] := hl
  refine lv_bipush (v := nI 7) hx hb dX6_told_0 (by decide) ?_
  refine va_newa (atype := .int) hx hb f_0 rfl hK hP hD hS hA (a0 := (7, .inl (fun _ => 0))) (fun _ => rfl) (by decide) (N' := 7) rfl (by decide) (by show 0 + 1 ≤ 1; omega) (by show 0 + 7 ≤ 7; omega) dX6_told_2 (fun q_2 k_2 H hK hP hD hS => ?_)
  have hP : va_P (dC, dI) vwCl ((mb_w a k S th) ++ [(q_2, .inl (k_2, (7, .inl (fun _ => 0))))]) H := hP
  have hD : va_D A ((mb_w a k S th) ++ [(q_2, .inl (k_2, (7, .inl (fun _ => 0))))]) := hD
  refine lv_dup hx hb dX6_told_4 rfl ?_
  refine lv_iconst (v := nI 0) hx hb dX6_told_5 (by decide) ?_
  refine lv_aload_n hx hb dX6_told_6 rfl (lv_at hl 0 rfl) ?_
  refine va_get (D := (dC, dI)) (ci := 6) (v := .ref (a 1)) (C := RX6) (T := TX6) (N := 23) hx hb hts i_X6 hown hK hP 0 rfl rfl 4 (by decide) f_1 (fun _ h9 => h9) rfl dX6_told_7 ?_
  refine lv_iload_n hx hb dX6_told_10 rfl (lv_at hl 1 rfl) ?_
  refine cb_iald hx hb hK hP 1 0 (f := c_pat S) rfl rfl (j := u) (by omega) (Nat.le_of_ble_eq_true rfl) dX6_told_11 ?_
  refine cb_iast hx hb hK hP hD hS 15 14 (f := fun _ => 0) rfl rfl (j := 0) (by omega) (Nat.le_of_ble_eq_true rfl) dX6_told_12 (fun H locs hP hD hS => ?_)
  have hP : va_P (dC, dI) vwCl ((mb_w a k S th) ++ [(q_2, .inl (k_2, (7, .inl (upd (fun _ => 0) 0 (c_pat S u)))))]) H := hP
  have hD : va_D A ((mb_w a k S th) ++ [(q_2, .inl (k_2, (7, .inl (upd (fun _ => 0) 0 (c_pat S u)))))]) := hD
  refine lv_dup hx hb dX6_told_13 rfl ?_
  refine lv_iconst (v := nI 1) hx hb dX6_told_14 (by decide) ?_
  refine lv_aload_n hx hb dX6_told_15 rfl (lv_at hl 0 rfl) ?_
  refine va_get (D := (dC, dI)) (ci := 6) (v := .ref (a 2)) (C := RX6) (T := TX6) (N := 23) hx hb hts i_X6 hown hK hP 0 rfl rfl 5 (by decide) f_2 (fun _ h9 => h9) rfl dX6_told_16 ?_
  refine lv_iload_n hx hb dX6_told_19 rfl (lv_at hl 1 rfl) ?_
  refine cb_iald hx hb hK hP 2 1 (f := c_age S) rfl rfl (j := u) (by omega) (Nat.le_of_ble_eq_true rfl) dX6_told_20 ?_
  refine cb_iast hx hb hK hP hD hS 15 14 (f := upd (fun _ => 0) 0 (c_pat S u)) rfl rfl (j := 1) (by omega) (Nat.le_of_ble_eq_true rfl) dX6_told_21 (fun H locs hP hD hS => ?_)
  have hP : va_P (dC, dI) vwCl ((mb_w a k S th) ++ [(q_2, .inl (k_2, (7, .inl (upd (upd (fun _ => 0) 0 (c_pat S u)) 1 (c_age S u)))))]) H := hP
  have hD : va_D A ((mb_w a k S th) ++ [(q_2, .inl (k_2, (7, .inl (upd (upd (fun _ => 0) 0 (c_pat S u)) 1 (c_age S u)))))]) := hD
  refine lv_dup hx hb dX6_told_22 rfl ?_
  refine lv_iconst (v := nI 2) hx hb dX6_told_23 (by decide) ?_
  refine lv_aload_n hx hb dX6_told_24 rfl (lv_at hl 0 rfl) ?_
  refine va_get (D := (dC, dI)) (ci := 6) (v := .ref (a 3)) (C := RX6) (T := TX6) (N := 23) hx hb hts i_X6 hown hK hP 0 rfl rfl 6 (by decide) f_3 (fun _ h9 => h9) rfl dX6_told_25 ?_
  refine lv_iload_n hx hb dX6_told_28 rfl (lv_at hl 1 rfl) ?_
  refine cb_iald hx hb hK hP 3 2 (f := c_skl S) rfl rfl (j := u) (by omega) (Nat.le_of_ble_eq_true rfl) dX6_told_29 ?_
  refine cb_iast hx hb hK hP hD hS 15 14 (f := upd (upd (fun _ => 0) 0 (c_pat S u)) 1 (c_age S u)) rfl rfl (j := 2) (by omega) (Nat.le_of_ble_eq_true rfl) dX6_told_30 (fun H locs hP hD hS => ?_)
  have hP : va_P (dC, dI) vwCl ((mb_w a k S th) ++ [(q_2, .inl (k_2, (7, .inl (upd (upd (upd (fun _ => 0) 0 (c_pat S u)) 1 (c_age S u)) 2 (c_skl S u)))))]) H := hP
  have hD : va_D A ((mb_w a k S th) ++ [(q_2, .inl (k_2, (7, .inl (upd (upd (upd (fun _ => 0) 0 (c_pat S u)) 1 (c_age S u)) 2 (c_skl S u)))))]) := hD
  refine lv_dup hx hb dX6_told_31 rfl ?_
  refine lv_iconst (v := nI 3) hx hb dX6_told_32 (by decide) ?_
  refine lv_aload_n hx hb dX6_told_33 rfl (lv_at hl 0 rfl) ?_
  refine va_get (D := (dC, dI)) (ci := 6) (v := .ref (a 4)) (C := RX6) (T := TX6) (N := 23) hx hb hts i_X6 hown hK hP 0 rfl rfl 7 (by decide) f_4 (fun _ h9 => h9) rfl dX6_told_34 ?_
  refine lv_iload_n hx hb dX6_told_37 rfl (lv_at hl 1 rfl) ?_
  refine cb_iald hx hb hK hP 4 3 (f := c_ref S) rfl rfl (j := u) (by omega) (Nat.le_of_ble_eq_true rfl) dX6_told_38 ?_
  refine cb_iast hx hb hK hP hD hS 15 14 (f := upd (upd (upd (fun _ => 0) 0 (c_pat S u)) 1 (c_age S u)) 2 (c_skl S u)) rfl rfl (j := 3) (by omega) (Nat.le_of_ble_eq_true rfl) dX6_told_39 (fun H locs hP hD hS => ?_)
  have hP : va_P (dC, dI) vwCl ((mb_w a k S th) ++ [(q_2, .inl (k_2, (7, .inl (upd (upd (upd (upd (fun _ => 0) 0 (c_pat S u)) 1 (c_age S u)) 2 (c_skl S u)) 3 (c_ref S u)))))]) H := hP
  have hD : va_D A ((mb_w a k S th) ++ [(q_2, .inl (k_2, (7, .inl (upd (upd (upd (upd (fun _ => 0) 0 (c_pat S u)) 1 (c_age S u)) 2 (c_skl S u)) 3 (c_ref S u)))))]) := hD
  refine lv_dup hx hb dX6_told_40 rfl ?_
  refine lv_iconst (v := nI 4) hx hb dX6_told_41 (by decide) ?_
  refine lv_aload_n hx hb dX6_told_42 rfl (lv_at hl 0 rfl) ?_
  refine va_get (D := (dC, dI)) (ci := 6) (v := .ref (a 5)) (C := RX6) (T := TX6) (N := 23) hx hb hts i_X6 hown hK hP 0 rfl rfl 8 (by decide) f_5 (fun _ h9 => h9) rfl dX6_told_43 ?_
  refine lv_iload_n hx hb dX6_told_46 rfl (lv_at hl 1 rfl) ?_
  refine cb_iald hx hb hK hP 5 4 (f := c_ten S) rfl rfl (j := u) (by omega) (Nat.le_of_ble_eq_true rfl) dX6_told_47 ?_
  refine cb_iast hx hb hK hP hD hS 15 14 (f := upd (upd (upd (upd (fun _ => 0) 0 (c_pat S u)) 1 (c_age S u)) 2 (c_skl S u)) 3 (c_ref S u)) rfl rfl (j := 4) (by omega) (Nat.le_of_ble_eq_true rfl) dX6_told_48 (fun H locs hP hD hS => ?_)
  have hP : va_P (dC, dI) vwCl ((mb_w a k S th) ++ [(q_2, .inl (k_2, (7, .inl (upd (upd (upd (upd (upd (fun _ => 0) 0 (c_pat S u)) 1 (c_age S u)) 2 (c_skl S u)) 3 (c_ref S u)) 4 (c_ten S u)))))]) H := hP
  have hD : va_D A ((mb_w a k S th) ++ [(q_2, .inl (k_2, (7, .inl (upd (upd (upd (upd (upd (fun _ => 0) 0 (c_pat S u)) 1 (c_age S u)) 2 (c_skl S u)) 3 (c_ref S u)) 4 (c_ten S u)))))]) := hD
  refine lv_dup hx hb dX6_told_49 rfl ?_
  refine lv_iconst (v := nI 5) hx hb dX6_told_50 (by decide) ?_
  refine lv_aload_n hx hb dX6_told_51 rfl (lv_at hl 0 rfl) ?_
  refine va_get (D := (dC, dI)) (ci := 6) (v := .ref (a 6)) (C := RX6) (T := TX6) (N := 23) hx hb hts i_X6 hown hK hP 0 rfl rfl 9 (by decide) f_6 (fun _ h9 => h9) rfl dX6_told_52 ?_
  refine lv_iload_n hx hb dX6_told_55 rfl (lv_at hl 1 rfl) ?_
  refine cb_iald hx hb hK hP 6 5 (f := c_bad S) rfl rfl (j := u) (by omega) (Nat.le_of_ble_eq_true rfl) dX6_told_56 ?_
  refine cb_iast hx hb hK hP hD hS 15 14 (f := upd (upd (upd (upd (upd (fun _ => 0) 0 (c_pat S u)) 1 (c_age S u)) 2 (c_skl S u)) 3 (c_ref S u)) 4 (c_ten S u)) rfl rfl (j := 5) (by omega) (Nat.le_of_ble_eq_true rfl) dX6_told_57 (fun H locs hP hD hS => ?_)
  have hP : va_P (dC, dI) vwCl ((mb_w a k S th) ++ [(q_2, .inl (k_2, (7, .inl (upd (upd (upd (upd (upd (upd (fun _ => 0) 0 (c_pat S u)) 1 (c_age S u)) 2 (c_skl S u)) 3 (c_ref S u)) 4 (c_ten S u)) 5 (c_bad S u)))))]) H := hP
  have hD : va_D A ((mb_w a k S th) ++ [(q_2, .inl (k_2, (7, .inl (upd (upd (upd (upd (upd (upd (fun _ => 0) 0 (c_pat S u)) 1 (c_age S u)) 2 (c_skl S u)) 3 (c_ref S u)) 4 (c_ten S u)) 5 (c_bad S u)))))]) := hD
  refine lv_dup hx hb dX6_told_58 rfl ?_
  refine lv_bipush (v := nI 6) hx hb dX6_told_59 (by decide) ?_
  refine lv_aload_n hx hb dX6_told_61 rfl (lv_at hl 0 rfl) ?_
  refine lv_iload_n hx hb dX6_told_62 rfl (lv_at hl 1 rfl) ?_
  have hPc := hP.sub (ws' := (mb_w a k S th)) [0, 1, 2, 3, 4, 5, 6, 7, 8, 9, 10, 11, 12, 13, 14] rfl
  have hDc := hD.sub (ws' := (mb_w a k S th)) [0, 1, 2, 3, 4, 5, 6, 7, 8, 9, 10, 11, 12, 13, 14] (by decide) rfl
  have hKc := hK.sub (tys' := (mb_ty k)) [0, 1, 2, 3, 4, 5, 6, 7, 8, 9, 10, 11, 12, 13] rfl
  refine vp_callSi (W.runV (As := [.int (nI u)]) (rest := [.int (nI 6), .ref q_2, .ref q_2]) ⟨hx, hb, hml, hown, hts⟩ (c_X6_hoursOf l dC dI a k S th u (by omega)) (cwV 1 hts gX6_told_X6_hoursOf rfl rfl rfl (by decide +kernel) ⟨(Nat.le_of_ble_eq_true rfl), (Nat.le_of_ble_eq_true rfl)⟩) ⟨cR_blind, va_recv hKc hPc (ci := 6) (q0 := 0) rfl rfl, fun U hU hW => ⟨rfl, cR_of hKc hPc hU hW⟩⟩ rfl rfl hl.1 rfl (lv_room (Nat.le_of_ble_eq_true rfl)) dX6_told_63 ⟨(by show (0 + 1) + 0 ≤ 1; omega), (by show (0 + 7) + 0 ≤ 7; omega)⟩) (fun r er => ?_)
  subst er
  refine cb_iast hx hb hK hP hD hS 15 14 (f := upd (upd (upd (upd (upd (upd (fun _ => 0) 0 (c_pat S u)) 1 (c_age S u)) 2 (c_skl S u)) 3 (c_ref S u)) 4 (c_ten S u)) 5 (c_bad S u)) rfl rfl (j := 6) (by omega) (Nat.le_of_ble_eq_true rfl) dX6_told_66 (fun H locs hP hD hS => ?_)
  have hP : va_P (dC, dI) vwCl ((mb_w a k S th) ++ [(q_2, .inl (k_2, (7, .inl (upd (upd (upd (upd (upd (upd (upd (fun _ => 0) 0 (c_pat S u)) 1 (c_age S u)) 2 (c_skl S u)) 3 (c_ref S u)) 4 (c_ten S u)) 5 (c_bad S u)) 6 (allH S u)))))]) H := hP
  have hD : va_D A ((mb_w a k S th) ++ [(q_2, .inl (k_2, (7, .inl (upd (upd (upd (upd (upd (upd (upd (fun _ => 0) 0 (c_pat S u)) 1 (c_age S u)) 2 (c_skl S u)) 3 (c_ref S u)) 4 (c_ten S u)) 5 (c_bad S u)) 6 (allH S u)))))]) := hD
  refine lv_astore_n (lv' := [(3, .ref q_2), (0, .ref (a 0)), (1, .int (nI u)), (2, .int (nI w9))]) hx hb dX6_told_67 rfl hl (by decide) rfl (fun ls hl => ?_)
  refine lv_aload_n hx hb dX6_told_68 rfl (lv_at hl 0 rfl) ?_
  refine lv_iload_n hx hb dX6_told_69 rfl (lv_at hl 3 rfl) ?_
  refine cb_iald hx hb hK hP 15 14 (f := upd (upd (upd (upd (upd (upd (upd (fun _ => 0) 0 (c_pat S u)) 1 (c_age S u)) 2 (c_skl S u)) 3 (c_ref S u)) 4 (c_ten S u)) 5 (c_bad S u)) 6 (allH S u)) rfl rfl (j := w9) (by omega) (Nat.le_of_ble_eq_true rfl) dX6_told_70 ?_
  have hP := hP.sub (ws' := (mb_w a k S th)) [0, 1, 2, 3, 4, 5, 6, 7, 8, 9, 10, 11, 12, 13, 14] rfl
  have hD := hD.sub (ws' := (mb_w a k S th)) [0, 1, 2, 3, 4, 5, 6, 7, 8, 9, 10, 11, 12, 13, 14] (by decide) rfl
  have hK := hK.sub (tys' := (mb_ty k)) [0, 1, 2, 3, 4, 5, 6, 7, 8, 9, 10, 11, 12, 13] rfl
  have ew : (mb_w a k S th) = (mb_w a k S th) := rfl
  have hP : va_P (dC, dI) vwCl (mb_w a k S th) H := by rw [← ew]; exact hP
  have hD : va_D A (mb_w a k S th) := by rw [← ew]; exact hD
  rw [hQ]
  refine W.widen (k := 1) (n := 7) (by omega) (by omega) ?_
  exact W.iret (v := upd (upd (upd (upd (upd (upd (upd (fun _ => 0) 0 (c_pat S u)) 1 (c_age S u)) 2 (c_skl S u)) 3 (c_ref S u)) 4 (c_ten S u)) 5 (c_bad S u)) 6 (allH S u) w9) hx hb hr (fun t9 ht9 hW9 => ⟨⟨upd (upd (upd (upd (upd (upd (upd (fun _ => 0) 0 (c_pat S u)) 1 (c_age S u)) 2 (c_skl S u)) 3 (c_ref S u)) 4 (c_ten S u)) 5 (c_bad S u)) 6 (allH S u) w9, (), rfl, (by rcases (show w9 = 0 ∨ w9 = 1 ∨ w9 = 2 ∨ w9 = 3 ∨ w9 = 4 ∨ w9 = 5 ∨ w9 = 6 by omega) with rfl | rfl | rfl | rfl | rfl | rfl | rfl <;> rfl), cB_of hP hK hD ht9 hW9⟩, hS.F ht9⟩) hS.2.2 dX6_told_71
abbrev rm_X6_sleepers : Room := { frames := 0, cells := 0, slots := 0, locals := 0 }
set_option maxHeartbeats 4000000 in
set_option maxRecDepth 100000 in
theorem c_X6_sleepers (l : Launch) (dC : Nat → ClassId) (dI : Nat → Nat → Nat) (a : Nat → Nat) (k : Nat → ClassId) (S : cs_S) (th : Nat) (x1 : Int32) (x2 : Int32) (hns : c_ns S ≤ 30) : Met l yX6_sleepers wsX6_sleepers rm_X6_sleepers (va_Pc [.ref (a 0), .int x1, .int x2] (cR dC dI (mb_w a k S th) (mb_ty k))) (vp_Si (fun r => r = nI (fb_ct (slp S x1 x2) (c_ns S)))) 0 0 (fun _ => False) := by
  refine Met.ofW (cc := cX6_sleepers) (maxL := 5) (ret := (some .int)) (by decide) rfl ?_
  intro p e s m args below meth c s₁ B hml hv
  obtain ⟨rfl, hP, hK⟩ := hv
  have hx := B.exec
  have hb := B.bytes
  have hr := B.returns
  have hts := atoms_spec (ws := wsX6_sleepers) B.pre
  have hown : s.vm.findClass RX6 = some m.cls := findClass_of_methodNamed B.named
  have hlocks := B.notSynchronized
  obtain ⟨Q, hQ⟩ : ∃ Q, Q = MQ below (vp_Si (fun r => r = nI (fb_ct (slp S x1 x2) (c_ns S)))) ([.ref (a 0), .int x1, .int x2] : List Value).toArray s 0 0 (fun _ => False) := ⟨_, rfl⟩
  show W p l e rm_X6_sleepers s m _ below meth c s.heap [] 0 0 (MQ below _ _ _ _ _ _) _
  rw [← hQ]
  have i_X6 : ∀ w ∈ wsX60, w ∈ wsX6_sleepers := fun w h => List.mem_cons_of_mem _ (List.mem_append_right _ h)
  have f_0 := hts (.fieldLink RX6 64 "CampBookModel" "scouts" "I") (by decide +kernel)
  have f_1 := hts (.fieldLink RX6 22 "CampBookModel" "tentOf" "[I") (by decide +kernel)
  have f_2 := hts (.fieldLink RX6 9 "CampBookModel" "patrolOf" "[I") (by decide +kernel)
  have hl := lv_entry ([.ref (a 0), .int x1, .int x2]) (n := 5) (Nat.le_of_ble_eq_true rfl)
  rw [lg_entry_eq]
  generalize (lg_sl ([.ref (a 0), .int x1, .int x2]) ++ List.replicate (5 - (lg_sl ([.ref (a 0), .int x1, .int x2])).length) Slot.unset).toArray = ls at hl ⊢
  have hl : lv_has ls 5 [(0, .ref (a 0)), (1, .int x1), (2, .int x2)] := hl
  refine lv_iconst (v := nI 0) hx hb dX6_sleepers_0 (by decide) ?_
  refine lv_istore_n (lv' := [(3, .int (nI 0)), (0, .ref (a 0)), (1, .int x1), (2, .int x2)]) hx hb dX6_sleepers_1 rfl hl (by decide) rfl (fun ls hl => ?_)
  refine lv_iconst (v := nI 0) hx hb dX6_sleepers_2 (by decide) ?_
  refine lv_istore (lv' := [(4, .int (nI 0)), (3, .int (nI 0)), (0, .ref (a 0)), (1, .int x1), (2, .int x2)]) hx hb dX6_sleepers_3 hl (by decide) rfl (fun ls hl => ?_)
  have L_5 : ∀ (n i : Nat), i ≤ c_ns S → c_ns S + 1 ≤ i + n → ∀ (ls : Array Slot), lv_has ls 5 [(0, .ref (a 0)), (1, .int x1), (2, .int x2), (3, .int (nI (fb_ct (slp S x1 x2) i))), (4, .int (nI i))] → W p l e rm_X6_sleepers s m ([.ref (a 0), .int x1, .int x2] : List Value).toArray below meth c s.heap [] 0 0 Q (F0 m 5 ls []) := by
    intro n
    induction n with
    | zero => intro i h1 h2; exact absurd h2 (by omega)
    | succ n ih_5 =>
      intro i hle_5 hfu_5 ls hl
      refine lv_iload hx hb dX6_sleepers_5 (lv_at hl 4 rfl) ?_
      refine lv_aload_n hx hb dX6_sleepers_7 rfl (lv_at hl 0 rfl) ?_
      refine va_get (D := (dC, dI)) (ci := 6) (v := .int (nI (c_ns S))) (C := RX6) (T := TX6) (N := 23) hx hb hts i_X6 hown hK hP 0 rfl rfl 3 (by decide) f_0 (fun _ h9 => h9) rfl dX6_sleepers_8 ?_
      refine lv_icmp_ge (tgt := 55) hx hb dX6_sleepers_11 (by decide) (fun c_11 => ?_) (fun c_11 => ?_)
      · have c_11 : (c_ns S) ≤ i := cb_ge (by omega) (by omega) c_11
        refine lv_iload_n hx hb dX6_sleepers_55 rfl (lv_at hl 3 rfl) ?_
        rw [hQ]
        exact W.iret (v := nI (fb_ct (slp S x1 x2) i)) hx hb hr (fun t9 ht9 hW9 => ⟨nI (fb_ct (slp S x1 x2) i), rfl, (by rw [show i = c_ns S by omega]), ht9⟩) (fun q h => absurd h List.not_mem_nil) dX6_sleepers_56
      · have c_11 : i < (c_ns S) := cb_nge (by omega) (by omega) c_11
        refine lv_iload_n hx hb dX6_sleepers_14 rfl (lv_at hl 3 rfl) ?_
        refine lv_aload_n hx hb dX6_sleepers_15 rfl (lv_at hl 0 rfl) ?_
        refine va_get (D := (dC, dI)) (ci := 6) (v := .ref (a 5)) (C := RX6) (T := TX6) (N := 23) hx hb hts i_X6 hown hK hP 0 rfl rfl 8 (by decide) f_1 (fun _ h9 => h9) rfl dX6_sleepers_16 ?_
        refine lv_iload hx hb dX6_sleepers_19 (lv_at hl 4 rfl) ?_
        refine cb_iald hx hb hK hP 5 4 (f := c_ten S) rfl rfl (j := i) (by omega) (Nat.le_of_ble_eq_true rfl) dX6_sleepers_21 ?_
        refine lv_iload_n hx hb dX6_sleepers_22 rfl (lv_at hl 1 rfl) ?_
        refine lv_icmp_ne (tgt := 46) hx hb dX6_sleepers_23 (by decide) (fun c_23 => ?_) (fun c_23 => ?_)
        · skip
          refine lv_iconst (v := nI 0) hx hb dX6_sleepers_46 (by decide) ?_
          refine lv_iadd hx hb dX6_sleepers_47 ?_
          refine cb_topi (nI_add _ _) ?_
          refine lv_istore_n (lv' := [(3, .int (nI ((fb_ct (slp S x1 x2) i) + 0))), (0, .ref (a 0)), (1, .int x1), (2, .int x2), (4, .int (nI i))]) hx hb dX6_sleepers_48 rfl hl (by decide) rfl (fun ls hl => ?_)
          refine lv_iinc (v := nI (i + 1)) (lv' := [(4, .int (nI (i + 1))), (3, .int (nI ((fb_ct (slp S x1 x2) i) + 0))), (0, .ref (a 0)), (1, .int x1), (2, .int x2)]) hx hb dX6_sleepers_49 hl (k := 4) rfl (nI_1 _) (by decide) rfl (fun ls hl => ?_)
          refine lv_goto (tgt := 5) hx hb dX6_sleepers_52 (by decide) ?_
          have hl : lv_has ls 5 [(4, .int (nI (i + 1))), (3, .int (nI (fb_ct (slp S x1 x2) (i + 1)))), (0, .ref (a 0)), (1, .int x1), (2, .int x2)] := cb_loc hl (e := Value.int (nI (fb_ct (slp S x1 x2) (i + 1)))) 1 rfl (congrArg Value.int (show nI ((fb_ct (slp S x1 x2) i) + 0) = nI (fb_ct (slp S x1 x2) (i + 1)) from (by rw [fb_ct_succ]; simp [slp, c_23])))
          exact ih_5 (i + 1) (by omega) (by omega) ls (lv_sub hl [2, 3, 4, 1, 0] rfl)
        · skip
          refine lv_iload_n hx hb dX6_sleepers_26 rfl (lv_at hl 2 rfl) ?_
          refine lv_iconst (v := (-1)) hx hb dX6_sleepers_27 (by decide) ?_
          refine lv_icmp_eq (tgt := 42) hx hb dX6_sleepers_28 (by decide) (fun c_28 => ?_) (fun c_28 => ?_)
          · skip
            refine lv_iconst (v := nI 1) hx hb dX6_sleepers_42 (by decide) ?_
            refine lv_goto (tgt := 47) hx hb dX6_sleepers_43 (by decide) ?_
            refine lv_iadd hx hb dX6_sleepers_47 ?_
            refine cb_topi (nI_add _ _) ?_
            refine lv_istore_n (lv' := [(3, .int (nI ((fb_ct (slp S x1 x2) i) + 1))), (0, .ref (a 0)), (1, .int x1), (2, .int x2), (4, .int (nI i))]) hx hb dX6_sleepers_48 rfl hl (by decide) rfl (fun ls hl => ?_)
            refine lv_iinc (v := nI (i + 1)) (lv' := [(4, .int (nI (i + 1))), (3, .int (nI ((fb_ct (slp S x1 x2) i) + 1))), (0, .ref (a 0)), (1, .int x1), (2, .int x2)]) hx hb dX6_sleepers_49 hl (k := 4) rfl (nI_1 _) (by decide) rfl (fun ls hl => ?_)
            refine lv_goto (tgt := 5) hx hb dX6_sleepers_52 (by decide) ?_
            have hl : lv_has ls 5 [(4, .int (nI (i + 1))), (3, .int (nI (fb_ct (slp S x1 x2) (i + 1)))), (0, .ref (a 0)), (1, .int x1), (2, .int x2)] := cb_loc hl (e := Value.int (nI (fb_ct (slp S x1 x2) (i + 1)))) 1 rfl (congrArg Value.int (show nI ((fb_ct (slp S x1 x2) i) + 1) = nI (fb_ct (slp S x1 x2) (i + 1)) from (by rw [fb_ct_succ]; simp [slp, c_23, c_28])))
            exact ih_5 (i + 1) (by omega) (by omega) ls (lv_sub hl [2, 3, 4, 1, 0] rfl)
          · skip
            refine lv_aload_n hx hb dX6_sleepers_31 rfl (lv_at hl 0 rfl) ?_
            refine va_get (D := (dC, dI)) (ci := 6) (v := .ref (a 1)) (C := RX6) (T := TX6) (N := 23) hx hb hts i_X6 hown hK hP 0 rfl rfl 4 (by decide) f_2 (fun _ h9 => h9) rfl dX6_sleepers_32 ?_
            refine lv_iload hx hb dX6_sleepers_35 (lv_at hl 4 rfl) ?_
            refine cb_iald hx hb hK hP 1 0 (f := c_pat S) rfl rfl (j := i) (by omega) (Nat.le_of_ble_eq_true rfl) dX6_sleepers_37 ?_
            refine lv_iload_n hx hb dX6_sleepers_38 rfl (lv_at hl 2 rfl) ?_
            refine lv_icmp_ne (tgt := 46) hx hb dX6_sleepers_39 (by decide) (fun c_39 => ?_) (fun c_39 => ?_)
            · skip
              refine lv_iconst (v := nI 0) hx hb dX6_sleepers_46 (by decide) ?_
              refine lv_iadd hx hb dX6_sleepers_47 ?_
              refine cb_topi (nI_add _ _) ?_
              refine lv_istore_n (lv' := [(3, .int (nI ((fb_ct (slp S x1 x2) i) + 0))), (0, .ref (a 0)), (1, .int x1), (2, .int x2), (4, .int (nI i))]) hx hb dX6_sleepers_48 rfl hl (by decide) rfl (fun ls hl => ?_)
              refine lv_iinc (v := nI (i + 1)) (lv' := [(4, .int (nI (i + 1))), (3, .int (nI ((fb_ct (slp S x1 x2) i) + 0))), (0, .ref (a 0)), (1, .int x1), (2, .int x2)]) hx hb dX6_sleepers_49 hl (k := 4) rfl (nI_1 _) (by decide) rfl (fun ls hl => ?_)
              refine lv_goto (tgt := 5) hx hb dX6_sleepers_52 (by decide) ?_
              have hl : lv_has ls 5 [(4, .int (nI (i + 1))), (3, .int (nI (fb_ct (slp S x1 x2) (i + 1)))), (0, .ref (a 0)), (1, .int x1), (2, .int x2)] := cb_loc hl (e := Value.int (nI (fb_ct (slp S x1 x2) (i + 1)))) 1 rfl (congrArg Value.int (show nI ((fb_ct (slp S x1 x2) i) + 0) = nI (fb_ct (slp S x1 x2) (i + 1)) from (by rw [fb_ct_succ]; simp [slp, c_23, c_28, c_39])))
              exact ih_5 (i + 1) (by omega) (by omega) ls (lv_sub hl [2, 3, 4, 1, 0] rfl)
            · skip
              refine lv_iconst (v := nI 1) hx hb dX6_sleepers_42 (by decide) ?_
              refine lv_goto (tgt := 47) hx hb dX6_sleepers_43 (by decide) ?_
              refine lv_iadd hx hb dX6_sleepers_47 ?_
              refine cb_topi (nI_add _ _) ?_
              refine lv_istore_n (lv' := [(3, .int (nI ((fb_ct (slp S x1 x2) i) + 1))), (0, .ref (a 0)), (1, .int x1), (2, .int x2), (4, .int (nI i))]) hx hb dX6_sleepers_48 rfl hl (by decide) rfl (fun ls hl => ?_)
              refine lv_iinc (v := nI (i + 1)) (lv' := [(4, .int (nI (i + 1))), (3, .int (nI ((fb_ct (slp S x1 x2) i) + 1))), (0, .ref (a 0)), (1, .int x1), (2, .int x2)]) hx hb dX6_sleepers_49 hl (k := 4) rfl (nI_1 _) (by decide) rfl (fun ls hl => ?_)
              refine lv_goto (tgt := 5) hx hb dX6_sleepers_52 (by decide) ?_
              have hl : lv_has ls 5 [(4, .int (nI (i + 1))), (3, .int (nI (fb_ct (slp S x1 x2) (i + 1)))), (0, .ref (a 0)), (1, .int x1), (2, .int x2)] := cb_loc hl (e := Value.int (nI (fb_ct (slp S x1 x2) (i + 1)))) 1 rfl (congrArg Value.int (show nI ((fb_ct (slp S x1 x2) i) + 1) = nI (fb_ct (slp S x1 x2) (i + 1)) from (by rw [fb_ct_succ]; simp [slp, c_23, c_28, c_39])))
              exact ih_5 (i + 1) (by omega) (by omega) ls (lv_sub hl [2, 3, 4, 1, 0] rfl)
  have hl : lv_has ls 5 [(4, .int (nI 0)), (3, .int (nI (fb_ct (slp S x1 x2) 0))), (0, .ref (a 0)), (1, .int x1), (2, .int x2)] := cb_loc hl (e := Value.int (nI (fb_ct (slp S x1 x2) 0))) 1 rfl (congrArg Value.int (show nI 0 = nI (fb_ct (slp S x1 x2) 0) from rfl))
  exact L_5 (c_ns S + 1) 0 (by omega) (by omega) ls (lv_sub hl [2, 3, 4, 1, 0] rfl)
abbrev rm_X6_counted : Room := { frames := 1, cells := 1, slots := 7, locals := 24 }
set_option maxHeartbeats 4000000 in
set_option maxRecDepth 100000 in
theorem c_X6_counted (l : Launch) (dC : Nat → ClassId) (dI : Nat → Nat → Nat) (a : Nat → Nat) (k : Nat → ClassId) (S : cs_S) (th : Nat) (sz : Nat) (w9 : Nat) (hw9 : w9 < 7) (hns : c_ns S ≤ 30) : Met l yX6_counted wsX6_counted rm_X6_counted (va_Pc [.ref (a 0), .int (nI w9)] (cT dC dI sz (mb_w a k S th) (mb_ty k))) (va_Qi (fun (r : Int32) (_ : Unit) => r = cnts S w9) (fun _ t => cB dC dI (va_A (mb_w a k S th) sz) (mb_w a k S th) (mb_ty k) t) (va_A (mb_w a k S th) sz)) 1 7 (va_A (mb_w a k S th) sz) := by
  refine Met.ofW (cc := cX6_counted) (maxL := 3) (ret := (some .int)) (by decide) rfl ?_
  intro p e s m args below meth c s₁ B hml hv
  obtain ⟨rfl, hsz, hP, hK, hD0⟩ := hv
  have hx := B.exec
  have hb := B.bytes
  have hr := B.returns
  have hts := atoms_spec (ws := wsX6_counted) B.pre
  have hown : s.vm.findClass RX6 = some m.cls := findClass_of_methodNamed B.named
  have hlocks := B.notSynchronized
  subst hsz
  have hD := hD0.self (sz := s.heap.size)
  generalize hAe : va_A (mb_w a k S th) s.heap.size = A at hD ⊢
  have hA : ∀ q : Nat, s.heap.size ≤ q → A q := fun q h => by rw [← hAe]; exact Or.inr h
  have hS : va_S A s.heap s.heap [] := va_S.rf
  obtain ⟨Q, hQ⟩ : ∃ Q, Q = MQ below (va_Qi (fun (r : Int32) (_ : Unit) => r = cnts S w9) (fun _ t => cB dC dI A (mb_w a k S th) (mb_ty k) t) A) ([.ref (a 0), .int (nI w9)] : List Value).toArray s 1 7 A := ⟨_, rfl⟩
  show W p l e rm_X6_counted s m _ below meth c s.heap [] 0 0 (MQ below _ _ _ _ _ _) _
  rw [← hQ]
  have i_X6 : ∀ w ∈ wsX60, w ∈ wsX6_counted := fun w h => List.mem_cons_of_mem _ (List.mem_append_right _ h)
  have f_0 := hts (.arrayClass .int) (by decide +kernel)
  have f_1 := hts (.fieldLink RX6 57 "CampBookModel" "patrols" "I") (by decide +kernel)
  have f_2 := hts (.fieldLink RX6 64 "CampBookModel" "scouts" "I") (by decide +kernel)
  have f_3 := hts (.fieldLink RX6 67 "CampBookModel" "tents" "I") (by decide +kernel)
  have f_4 := hts (.fieldLink RX6 70 "CampBookModel" "foods" "I") (by decide +kernel)
  have f_5 := hts (.fieldLink RX6 73 "CampBookModel" "meals" "I") (by decide +kernel)
  have f_6 := hts (.fieldLink RX6 76 "CampBookModel" "badges" "I") (by decide +kernel)
  have hl := lv_entry ([.ref (a 0), .int (nI w9)]) (n := 3) (Nat.le_of_ble_eq_true rfl)
  rw [lg_entry_eq]
  generalize (lg_sl ([.ref (a 0), .int (nI w9)]) ++ List.replicate (3 - (lg_sl ([.ref (a 0), .int (nI w9)])).length) Slot.unset).toArray = ls at hl ⊢
  have hl : lv_has ls 3 [(0, .ref (a 0)), (1, .int (nI w9))] := hl
  refine lv_bipush (v := nI 7) hx hb dX6_counted_0 (by decide) ?_
  refine va_newa (atype := .int) hx hb f_0 rfl hK hP hD hS hA (a0 := (7, .inl (fun _ => 0))) (fun _ => rfl) (by decide) (N' := 7) rfl (by decide) (by show 0 + 1 ≤ 1; omega) (by show 0 + 7 ≤ 7; omega) dX6_counted_2 (fun q_2 k_2 H hK hP hD hS => ?_)
  have hP : va_P (dC, dI) vwCl ((mb_w a k S th) ++ [(q_2, .inl (k_2, (7, .inl (fun _ => 0))))]) H := hP
  have hD : va_D A ((mb_w a k S th) ++ [(q_2, .inl (k_2, (7, .inl (fun _ => 0))))]) := hD
  refine lv_dup hx hb dX6_counted_4 rfl ?_
  refine lv_iconst (v := nI 0) hx hb dX6_counted_5 (by decide) ?_
  refine lv_aload_n hx hb dX6_counted_6 rfl (lv_at hl 0 rfl) ?_
  refine va_get (D := (dC, dI)) (ci := 6) (v := .int (nI (c_np S))) (C := RX6) (T := TX6) (N := 23) hx hb hts i_X6 hown hK hP 0 rfl rfl 2 (by decide) f_1 (fun _ h9 => h9) rfl dX6_counted_7 ?_
  refine cb_iast hx hb hK hP hD hS 15 14 (f := fun _ => 0) rfl rfl (j := 0) (by omega) (Nat.le_of_ble_eq_true rfl) dX6_counted_10 (fun H locs hP hD hS => ?_)
  have hP : va_P (dC, dI) vwCl ((mb_w a k S th) ++ [(q_2, .inl (k_2, (7, .inl (upd (fun _ => 0) 0 (nI (c_np S))))))]) H := hP
  have hD : va_D A ((mb_w a k S th) ++ [(q_2, .inl (k_2, (7, .inl (upd (fun _ => 0) 0 (nI (c_np S))))))]) := hD
  refine lv_dup hx hb dX6_counted_11 rfl ?_
  refine lv_iconst (v := nI 1) hx hb dX6_counted_12 (by decide) ?_
  refine lv_aload_n hx hb dX6_counted_13 rfl (lv_at hl 0 rfl) ?_
  refine va_get (D := (dC, dI)) (ci := 6) (v := .int (nI (c_ns S))) (C := RX6) (T := TX6) (N := 23) hx hb hts i_X6 hown hK hP 0 rfl rfl 3 (by decide) f_2 (fun _ h9 => h9) rfl dX6_counted_14 ?_
  refine cb_iast hx hb hK hP hD hS 15 14 (f := upd (fun _ => 0) 0 (nI (c_np S))) rfl rfl (j := 1) (by omega) (Nat.le_of_ble_eq_true rfl) dX6_counted_17 (fun H locs hP hD hS => ?_)
  have hP : va_P (dC, dI) vwCl ((mb_w a k S th) ++ [(q_2, .inl (k_2, (7, .inl (upd (upd (fun _ => 0) 0 (nI (c_np S))) 1 (nI (c_ns S))))))]) H := hP
  have hD : va_D A ((mb_w a k S th) ++ [(q_2, .inl (k_2, (7, .inl (upd (upd (fun _ => 0) 0 (nI (c_np S))) 1 (nI (c_ns S))))))]) := hD
  refine lv_dup hx hb dX6_counted_18 rfl ?_
  refine lv_iconst (v := nI 2) hx hb dX6_counted_19 (by decide) ?_
  refine lv_aload_n hx hb dX6_counted_20 rfl (lv_at hl 0 rfl) ?_
  refine va_get (D := (dC, dI)) (ci := 6) (v := .int (nI (c_nt S))) (C := RX6) (T := TX6) (N := 23) hx hb hts i_X6 hown hK hP 0 rfl rfl 12 (by decide) f_3 (fun _ h9 => h9) rfl dX6_counted_21 ?_
  refine cb_iast hx hb hK hP hD hS 15 14 (f := upd (upd (fun _ => 0) 0 (nI (c_np S))) 1 (nI (c_ns S))) rfl rfl (j := 2) (by omega) (Nat.le_of_ble_eq_true rfl) dX6_counted_24 (fun H locs hP hD hS => ?_)
  have hP : va_P (dC, dI) vwCl ((mb_w a k S th) ++ [(q_2, .inl (k_2, (7, .inl (upd (upd (upd (fun _ => 0) 0 (nI (c_np S))) 1 (nI (c_ns S))) 2 (nI (c_nt S))))))]) H := hP
  have hD : va_D A ((mb_w a k S th) ++ [(q_2, .inl (k_2, (7, .inl (upd (upd (upd (fun _ => 0) 0 (nI (c_np S))) 1 (nI (c_ns S))) 2 (nI (c_nt S))))))]) := hD
  refine lv_dup hx hb dX6_counted_25 rfl ?_
  refine lv_iconst (v := nI 3) hx hb dX6_counted_26 (by decide) ?_
  refine lv_aload_n hx hb dX6_counted_27 rfl (lv_at hl 0 rfl) ?_
  refine lv_iconst (v := (-1)) hx hb dX6_counted_28 (by decide) ?_
  refine lv_iconst (v := (-1)) hx hb dX6_counted_29 (by decide) ?_
  have hPc := hP.sub (ws' := (mb_w a k S th)) [0, 1, 2, 3, 4, 5, 6, 7, 8, 9, 10, 11, 12, 13, 14] rfl
  have hDc := hD.sub (ws' := (mb_w a k S th)) [0, 1, 2, 3, 4, 5, 6, 7, 8, 9, 10, 11, 12, 13, 14] (by decide) rfl
  have hKc := hK.sub (tys' := (mb_ty k)) [0, 1, 2, 3, 4, 5, 6, 7, 8, 9, 10, 11, 12, 13] rfl
  refine vp_callSi (W.runV (As := [.int (-1), .int (-1)]) (rest := [.int (nI 3), .ref q_2, .ref q_2]) ⟨hx, hb, hml, hown, hts⟩ (c_X6_sleepers l dC dI a k S th (-1) (-1) (by omega)) (cwV 2 hts gX6_counted_X6_sleepers rfl rfl rfl (by decide +kernel) ⟨(Nat.le_of_ble_eq_true rfl), (Nat.le_of_ble_eq_true rfl)⟩) ⟨cR_blind, va_recv hKc hPc (ci := 6) (q0 := 0) rfl rfl, fun U hU hW => ⟨rfl, cR_of hKc hPc hU hW⟩⟩ rfl rfl hl.1 rfl (lv_room (Nat.le_of_ble_eq_true rfl)) dX6_counted_30 ⟨(by show (0 + 1) + 0 ≤ 1; omega), (by show (0 + 7) + 0 ≤ 7; omega)⟩) (fun r er => ?_)
  subst er
  refine cb_topi (z := nI (c_out S)) (congrArg nI slp_out) ?_
  refine cb_iast hx hb hK hP hD hS 15 14 (f := upd (upd (upd (fun _ => 0) 0 (nI (c_np S))) 1 (nI (c_ns S))) 2 (nI (c_nt S))) rfl rfl (j := 3) (by omega) (Nat.le_of_ble_eq_true rfl) dX6_counted_33 (fun H locs hP hD hS => ?_)
  have hP : va_P (dC, dI) vwCl ((mb_w a k S th) ++ [(q_2, .inl (k_2, (7, .inl (upd (upd (upd (upd (fun _ => 0) 0 (nI (c_np S))) 1 (nI (c_ns S))) 2 (nI (c_nt S))) 3 (nI (c_out S))))))]) H := hP
  have hD : va_D A ((mb_w a k S th) ++ [(q_2, .inl (k_2, (7, .inl (upd (upd (upd (upd (fun _ => 0) 0 (nI (c_np S))) 1 (nI (c_ns S))) 2 (nI (c_nt S))) 3 (nI (c_out S))))))]) := hD
  refine lv_dup hx hb dX6_counted_34 rfl ?_
  refine lv_iconst (v := nI 4) hx hb dX6_counted_35 (by decide) ?_
  refine lv_aload_n hx hb dX6_counted_36 rfl (lv_at hl 0 rfl) ?_
  refine va_get (D := (dC, dI)) (ci := 6) (v := .int (nI (c_nf S))) (C := RX6) (T := TX6) (N := 23) hx hb hts i_X6 hown hK hP 0 rfl rfl 15 (by decide) f_4 (fun _ h9 => h9) rfl dX6_counted_37 ?_
  refine cb_iast hx hb hK hP hD hS 15 14 (f := upd (upd (upd (upd (fun _ => 0) 0 (nI (c_np S))) 1 (nI (c_ns S))) 2 (nI (c_nt S))) 3 (nI (c_out S))) rfl rfl (j := 4) (by omega) (Nat.le_of_ble_eq_true rfl) dX6_counted_40 (fun H locs hP hD hS => ?_)
  have hP : va_P (dC, dI) vwCl ((mb_w a k S th) ++ [(q_2, .inl (k_2, (7, .inl (upd (upd (upd (upd (upd (fun _ => 0) 0 (nI (c_np S))) 1 (nI (c_ns S))) 2 (nI (c_nt S))) 3 (nI (c_out S))) 4 (nI (c_nf S))))))]) H := hP
  have hD : va_D A ((mb_w a k S th) ++ [(q_2, .inl (k_2, (7, .inl (upd (upd (upd (upd (upd (fun _ => 0) 0 (nI (c_np S))) 1 (nI (c_ns S))) 2 (nI (c_nt S))) 3 (nI (c_out S))) 4 (nI (c_nf S))))))]) := hD
  refine lv_dup hx hb dX6_counted_41 rfl ?_
  refine lv_iconst (v := nI 5) hx hb dX6_counted_42 (by decide) ?_
  refine lv_aload_n hx hb dX6_counted_43 rfl (lv_at hl 0 rfl) ?_
  refine va_get (D := (dC, dI)) (ci := 6) (v := .int (nI (c_nm S))) (C := RX6) (T := TX6) (N := 23) hx hb hts i_X6 hown hK hP 0 rfl rfl 17 (by decide) f_5 (fun _ h9 => h9) rfl dX6_counted_44 ?_
  refine cb_iast hx hb hK hP hD hS 15 14 (f := upd (upd (upd (upd (upd (fun _ => 0) 0 (nI (c_np S))) 1 (nI (c_ns S))) 2 (nI (c_nt S))) 3 (nI (c_out S))) 4 (nI (c_nf S))) rfl rfl (j := 5) (by omega) (Nat.le_of_ble_eq_true rfl) dX6_counted_47 (fun H locs hP hD hS => ?_)
  have hP : va_P (dC, dI) vwCl ((mb_w a k S th) ++ [(q_2, .inl (k_2, (7, .inl (upd (upd (upd (upd (upd (upd (fun _ => 0) 0 (nI (c_np S))) 1 (nI (c_ns S))) 2 (nI (c_nt S))) 3 (nI (c_out S))) 4 (nI (c_nf S))) 5 (nI (c_nm S))))))]) H := hP
  have hD : va_D A ((mb_w a k S th) ++ [(q_2, .inl (k_2, (7, .inl (upd (upd (upd (upd (upd (upd (fun _ => 0) 0 (nI (c_np S))) 1 (nI (c_ns S))) 2 (nI (c_nt S))) 3 (nI (c_out S))) 4 (nI (c_nf S))) 5 (nI (c_nm S))))))]) := hD
  refine lv_dup hx hb dX6_counted_48 rfl ?_
  refine lv_bipush (v := nI 6) hx hb dX6_counted_49 (by decide) ?_
  refine lv_aload_n hx hb dX6_counted_51 rfl (lv_at hl 0 rfl) ?_
  refine va_get (D := (dC, dI)) (ci := 6) (v := .int (nI (c_nb S))) (C := RX6) (T := TX6) (N := 23) hx hb hts i_X6 hown hK hP 0 rfl rfl 20 (by decide) f_6 (fun _ h9 => h9) rfl dX6_counted_52 ?_
  refine cb_iast hx hb hK hP hD hS 15 14 (f := upd (upd (upd (upd (upd (upd (fun _ => 0) 0 (nI (c_np S))) 1 (nI (c_ns S))) 2 (nI (c_nt S))) 3 (nI (c_out S))) 4 (nI (c_nf S))) 5 (nI (c_nm S))) rfl rfl (j := 6) (by omega) (Nat.le_of_ble_eq_true rfl) dX6_counted_55 (fun H locs hP hD hS => ?_)
  have hP : va_P (dC, dI) vwCl ((mb_w a k S th) ++ [(q_2, .inl (k_2, (7, .inl (upd (upd (upd (upd (upd (upd (upd (fun _ => 0) 0 (nI (c_np S))) 1 (nI (c_ns S))) 2 (nI (c_nt S))) 3 (nI (c_out S))) 4 (nI (c_nf S))) 5 (nI (c_nm S))) 6 (nI (c_nb S))))))]) H := hP
  have hD : va_D A ((mb_w a k S th) ++ [(q_2, .inl (k_2, (7, .inl (upd (upd (upd (upd (upd (upd (upd (fun _ => 0) 0 (nI (c_np S))) 1 (nI (c_ns S))) 2 (nI (c_nt S))) 3 (nI (c_out S))) 4 (nI (c_nf S))) 5 (nI (c_nm S))) 6 (nI (c_nb S))))))]) := hD
  refine lv_astore_n (lv' := [(2, .ref q_2), (0, .ref (a 0)), (1, .int (nI w9))]) hx hb dX6_counted_56 rfl hl (by decide) rfl (fun ls hl => ?_)
  refine lv_aload_n hx hb dX6_counted_57 rfl (lv_at hl 0 rfl) ?_
  refine lv_iload_n hx hb dX6_counted_58 rfl (lv_at hl 2 rfl) ?_
  refine cb_iald hx hb hK hP 15 14 (f := upd (upd (upd (upd (upd (upd (upd (fun _ => 0) 0 (nI (c_np S))) 1 (nI (c_ns S))) 2 (nI (c_nt S))) 3 (nI (c_out S))) 4 (nI (c_nf S))) 5 (nI (c_nm S))) 6 (nI (c_nb S))) rfl rfl (j := w9) (by omega) (Nat.le_of_ble_eq_true rfl) dX6_counted_59 ?_
  have hP := hP.sub (ws' := (mb_w a k S th)) [0, 1, 2, 3, 4, 5, 6, 7, 8, 9, 10, 11, 12, 13, 14] rfl
  have hD := hD.sub (ws' := (mb_w a k S th)) [0, 1, 2, 3, 4, 5, 6, 7, 8, 9, 10, 11, 12, 13, 14] (by decide) rfl
  have hK := hK.sub (tys' := (mb_ty k)) [0, 1, 2, 3, 4, 5, 6, 7, 8, 9, 10, 11, 12, 13] rfl
  have ew : (mb_w a k S th) = (mb_w a k S th) := rfl
  have hP : va_P (dC, dI) vwCl (mb_w a k S th) H := by rw [← ew]; exact hP
  have hD : va_D A (mb_w a k S th) := by rw [← ew]; exact hD
  rw [hQ]
  refine W.widen (k := 1) (n := 7) (by omega) (by omega) ?_
  exact W.iret (v := upd (upd (upd (upd (upd (upd (upd (fun _ => 0) 0 (nI (c_np S))) 1 (nI (c_ns S))) 2 (nI (c_nt S))) 3 (nI (c_out S))) 4 (nI (c_nf S))) 5 (nI (c_nm S))) 6 (nI (c_nb S)) w9) hx hb hr (fun t9 ht9 hW9 => ⟨⟨upd (upd (upd (upd (upd (upd (upd (fun _ => 0) 0 (nI (c_np S))) 1 (nI (c_ns S))) 2 (nI (c_nt S))) 3 (nI (c_out S))) 4 (nI (c_nf S))) 5 (nI (c_nm S))) 6 (nI (c_nb S)) w9, (), rfl, (by rcases (show w9 = 0 ∨ w9 = 1 ∨ w9 = 2 ∨ w9 = 3 ∨ w9 = 4 ∨ w9 = 5 ∨ w9 = 6 by omega) with rfl | rfl | rfl | rfl | rfl | rfl | rfl <;> rfl), cB_of hP hK hD ht9 hW9⟩, hS.F ht9⟩) hS.2.2 dX6_counted_60
abbrev rm_X6_canSleep : Room := { frames := 1, cells := 0, slots := 0, locals := 24 }
set_option maxHeartbeats 4000000 in
set_option maxRecDepth 100000 in
theorem c_X6_canSleep (l : Launch) (dC : Nat → ClassId) (dI : Nat → Nat → Nat) (a : Nat → Nat) (k : Nat → ClassId) (S : cs_S) (th : Nat) (u : Nat) (t : Nat) (hu : u < c_ns S) (ht9 : t < 10) (hns : c_ns S ≤ 30) : Met l yX6_canSleep wsX6_canSleep rm_X6_canSleep (va_Pc [.ref (a 0), .int (nI u), .int (nI t)] (cR dC dI (mb_w a k S th) (mb_ty k))) (vp_Si (fun r => r = bI (canT S u t))) 0 0 (fun _ => False) := by
  refine Met.ofW (cc := cX6_canSleep) (maxL := 5) (ret := (some .boolean)) (by decide) rfl ?_
  intro p e s m args below meth c s₁ B hml hv
  obtain ⟨rfl, hP, hK⟩ := hv
  have hx := B.exec
  have hb := B.bytes
  have hr := B.returns
  have hts := atoms_spec (ws := wsX6_canSleep) B.pre
  have hown : s.vm.findClass RX6 = some m.cls := findClass_of_methodNamed B.named
  have hlocks := B.notSynchronized
  obtain ⟨Q, hQ⟩ : ∃ Q, Q = MQ below (vp_Si (fun r => r = bI (canT S u t))) ([.ref (a 0), .int (nI u), .int (nI t)] : List Value).toArray s 0 0 (fun _ => False) := ⟨_, rfl⟩
  show W p l e rm_X6_canSleep s m _ below meth c s.heap [] 0 0 (MQ below _ _ _ _ _ _) _
  rw [← hQ]
  have i_X6 : ∀ w ∈ wsX60, w ∈ wsX6_canSleep := fun w h => List.mem_cons_of_mem _ (List.mem_append_right _ h)
  have f_0 := hts (.fieldLink RX6 35 "CampBookModel" "places" "[I") (by decide +kernel)
  have f_1 := hts (.fieldLink RX6 64 "CampBookModel" "scouts" "I") (by decide +kernel)
  have f_2 := hts (.fieldLink RX6 22 "CampBookModel" "tentOf" "[I") (by decide +kernel)
  have f_3 := hts (.fieldLink RX6 13 "CampBookModel" "ages" "[I") (by decide +kernel)
  have f_4 := hts (.methodLink RX6 100 Lib.Math.abs.name) (by decide +kernel)
  have f_5 := hts (.static Lib.Math.abs.name) (by decide +kernel)
  have f_6 := hts (.initialized "java/lang/Math") (by decide +kernel)
  have f_7 := hts (.code Lib.Math.abs.name Lib.Math.abs.code 1 (some .int)) (by decide +kernel)
  have hl := lv_entry ([.ref (a 0), .int (nI u), .int (nI t)]) (n := 5) (Nat.le_of_ble_eq_true rfl)
  rw [lg_entry_eq]
  generalize (lg_sl ([.ref (a 0), .int (nI u), .int (nI t)]) ++ List.replicate (5 - (lg_sl ([.ref (a 0), .int (nI u), .int (nI t)])).length) Slot.unset).toArray = ls at hl ⊢
  have hl : lv_has ls 5 [(0, .ref (a 0)), (1, .int (nI u)), (2, .int (nI t))] := hl
  refine lv_aload_n hx hb dX6_canSleep_0 rfl (lv_at hl 0 rfl) ?_
  refine lv_iload_n hx hb dX6_canSleep_1 rfl (lv_at hl 2 rfl) ?_
  refine lv_iconst (v := (-1)) hx hb dX6_canSleep_2 (by decide) ?_
  refine vp_callSi (W.runV (As := [.int (nI t), .int (-1)]) (rest := []) ⟨hx, hb, hml, hown, hts⟩ (c_X6_sleepers l dC dI a k S th (nI t) (-1) (by omega)) (cwV 2 hts gX6_canSleep_X6_sleepers rfl rfl rfl (by decide +kernel) ⟨(Nat.le_of_ble_eq_true rfl), (Nat.le_of_ble_eq_true rfl)⟩) ⟨cR_blind, va_recv hK hP (ci := 6) (q0 := 0) rfl rfl, fun U hU hW => ⟨rfl, cR_of hK hP hU hW⟩⟩ rfl rfl hl.1 rfl (lv_room (Nat.le_of_ble_eq_true rfl)) dX6_canSleep_3 ⟨(Nat.le_of_ble_eq_true rfl), (Nat.le_of_ble_eq_true rfl)⟩) (fun r er => ?_)
  subst er
  refine cb_topi (z := nI (cntT S t)) (congrArg nI slp_cnt) ?_
  refine lv_aload_n hx hb dX6_canSleep_6 rfl (lv_at hl 0 rfl) ?_
  refine va_get (D := (dC, dI)) (ci := 6) (v := .ref (a 9)) (C := RX6) (T := TX6) (N := 23) hx hb hts i_X6 hown hK hP 0 rfl rfl 13 (by decide) f_0 (fun _ h9 => h9) rfl dX6_canSleep_7 ?_
  refine lv_iload_n hx hb dX6_canSleep_10 rfl (lv_at hl 2 rfl) ?_
  refine cb_iald hx hb hK hP 9 8 (f := c_plc S) rfl rfl (j := t) (by omega) (Nat.le_of_ble_eq_true rfl) dX6_canSleep_11 ?_
  refine lv_icmp_ge (tgt := 19) hx hb dX6_canSleep_12 (by decide) (fun c_12 => ?_) (fun c_12 => ?_)
  · skip
    refine lv_iconst (v := nI 0) hx hb dX6_canSleep_19 (by decide) ?_
    refine lv_istore_n (lv' := [(3, .int (nI 0)), (0, .ref (a 0)), (1, .int (nI u)), (2, .int (nI t))]) hx hb dX6_canSleep_20 rfl hl (by decide) rfl (fun ls hl => ?_)
    refine lv_iconst (v := nI 0) hx hb dX6_canSleep_21 (by decide) ?_
    refine lv_istore (lv' := [(4, .int (nI 0)), (3, .int (nI 0)), (0, .ref (a 0)), (1, .int (nI u)), (2, .int (nI t))]) hx hb dX6_canSleep_22 hl (by decide) rfl (fun ls hl => ?_)
    have L_24 : ∀ (n i : Nat), i ≤ c_ns S → c_ns S + 1 ≤ i + n → ∀ (ls : Array Slot), lv_has ls 5 [(0, .ref (a 0)), (1, .int (nI u)), (2, .int (nI t)), (3, .int (bI (canK S u t i))), (4, .int (nI i))] → W p l e rm_X6_canSleep s m ([.ref (a 0), .int (nI u), .int (nI t)] : List Value).toArray below meth c s.heap [] 0 0 Q (F0 m 24 ls []) := by
      intro n
      induction n with
      | zero => intro i h1 h2; exact absurd h2 (by omega)
      | succ n ih_24 =>
        intro i hle_24 hfu_24 ls hl
        refine lv_iload hx hb dX6_canSleep_24 (lv_at hl 4 rfl) ?_
        refine lv_aload_n hx hb dX6_canSleep_26 rfl (lv_at hl 0 rfl) ?_
        refine va_get (D := (dC, dI)) (ci := 6) (v := .int (nI (c_ns S))) (C := RX6) (T := TX6) (N := 23) hx hb hts i_X6 hown hK hP 0 rfl rfl 3 (by decide) f_1 (fun _ h9 => h9) rfl dX6_canSleep_27 ?_
        refine lv_icmp_ge (tgt := 84) hx hb dX6_canSleep_30 (by decide) (fun c_30 => ?_) (fun c_30 => ?_)
        · have c_30 : (c_ns S) ≤ i := cb_ge (by omega) (by omega) c_30
          refine lv_iload_n hx hb dX6_canSleep_84 rfl (lv_at hl 3 rfl) ?_
          rw [hQ]
          exact W.zret (v := bI (canK S u t i)) hx hb hr (nar_bI _) (fun t9 ht9 hW9 => ⟨bI (canK S u t i), rfl, (by rw [show i = c_ns S by omega]; rfl), ht9⟩) (fun q h => absurd h List.not_mem_nil) dX6_canSleep_85
        · have c_30 : i < (c_ns S) := cb_nge (by omega) (by omega) c_30
          refine lv_aload_n hx hb dX6_canSleep_33 rfl (lv_at hl 0 rfl) ?_
          refine va_get (D := (dC, dI)) (ci := 6) (v := .ref (a 5)) (C := RX6) (T := TX6) (N := 23) hx hb hts i_X6 hown hK hP 0 rfl rfl 8 (by decide) f_2 (fun _ h9 => h9) rfl dX6_canSleep_34 ?_
          refine lv_iload hx hb dX6_canSleep_37 (lv_at hl 4 rfl) ?_
          refine cb_iald hx hb hK hP 5 4 (f := c_ten S) rfl rfl (j := i) (by omega) (Nat.le_of_ble_eq_true rfl) dX6_canSleep_39 ?_
          refine lv_iload_n hx hb dX6_canSleep_40 rfl (lv_at hl 2 rfl) ?_
          refine lv_icmp_eq (tgt := 47) hx hb dX6_canSleep_41 (by decide) (fun c_41 => ?_) (fun c_41 => ?_)
          · skip
            refine lv_iload_n hx hb dX6_canSleep_47 rfl (lv_at hl 3 rfl) ?_
            refine lv_if_eq (tgt := 76) hx hb dX6_canSleep_48 (by decide) (fun c_48 => ?_) (fun c_48 => ?_)
            · have c_48 : (canK S u t i) = false := bI_0 c_48
              refine lv_iconst (v := nI 0) hx hb dX6_canSleep_76 (by decide) ?_
              refine lv_istore_n (lv' := [(3, .int (nI 0)), (0, .ref (a 0)), (1, .int (nI u)), (2, .int (nI t)), (4, .int (nI i))]) hx hb dX6_canSleep_77 rfl hl (by decide) rfl (fun ls hl => ?_)
              refine lv_iinc (v := nI (i + 1)) (lv' := [(4, .int (nI (i + 1))), (3, .int (nI 0)), (0, .ref (a 0)), (1, .int (nI u)), (2, .int (nI t))]) hx hb dX6_canSleep_78 hl (k := 4) rfl (nI_1 _) (by decide) rfl (fun ls hl => ?_)
              refine lv_goto (tgt := 24) hx hb dX6_canSleep_81 (by decide) ?_
              have hl : lv_has ls 5 [(4, .int (nI (i + 1))), (3, .int (bI (canK S u t (i + 1)))), (0, .ref (a 0)), (1, .int (nI u)), (2, .int (nI t))] := cb_loc hl (e := Value.int (bI (canK S u t (i + 1)))) 1 rfl (congrArg Value.int (show nI 0 = bI (canK S u t (i + 1)) from (bI_eq0 (by rw [canK_s, c_48]; rfl))))
              exact ih_24 (i + 1) (by omega) (by omega) ls (lv_sub hl [2, 3, 4, 1, 0] rfl)
            · have c_48 : (canK S u t i) = true := bI_n c_48
              refine lv_aload_n hx hb dX6_canSleep_51 rfl (lv_at hl 0 rfl) ?_
              refine va_get (D := (dC, dI)) (ci := 6) (v := .ref (a 2)) (C := RX6) (T := TX6) (N := 23) hx hb hts i_X6 hown hK hP 0 rfl rfl 5 (by decide) f_3 (fun _ h9 => h9) rfl dX6_canSleep_52 ?_
              refine lv_iload hx hb dX6_canSleep_55 (lv_at hl 4 rfl) ?_
              refine cb_iald hx hb hK hP 2 1 (f := c_age S) rfl rfl (j := i) (by omega) (Nat.le_of_ble_eq_true rfl) dX6_canSleep_57 ?_
              refine lv_aload_n hx hb dX6_canSleep_58 rfl (lv_at hl 0 rfl) ?_
              refine va_get (D := (dC, dI)) (ci := 6) (v := .ref (a 2)) (C := RX6) (T := TX6) (N := 23) hx hb hts i_X6 hown hK hP 0 rfl rfl 5 (by decide) f_3 (fun _ h9 => h9) rfl dX6_canSleep_59 ?_
              refine lv_iload_n hx hb dX6_canSleep_62 rfl (lv_at hl 1 rfl) ?_
              refine cb_iald hx hb hK hP 2 1 (f := c_age S) rfl rfl (j := u) (by omega) (Nat.le_of_ble_eq_true rfl) dX6_canSleep_63 ?_
              refine lv_isub hx hb dX6_canSleep_64 ?_
              refine va_mabs hx hb (hml.trans hl.1.symm) hown f_4 f_5 f_6 f_7 (Nat.le_of_ble_eq_true rfl) (Nat.le_of_ble_eq_true rfl) (Nat.le_of_ble_eq_true rfl) (Nat.le_of_ble_eq_true rfl) dX6_canSleep_65 ?_
              refine cb_topi (z := cAbs ((c_age S i) - (c_age S u))) rfl ?_
              refine lv_iconst (v := nI 3) hx hb dX6_canSleep_68 (by decide) ?_
              refine lv_icmp_gt (tgt := 76) hx hb dX6_canSleep_69 (by decide) (fun c_69 => ?_) (fun c_69 => ?_)
              · skip
                refine lv_iconst (v := nI 0) hx hb dX6_canSleep_76 (by decide) ?_
                refine lv_istore_n (lv' := [(3, .int (nI 0)), (0, .ref (a 0)), (1, .int (nI u)), (2, .int (nI t)), (4, .int (nI i))]) hx hb dX6_canSleep_77 rfl hl (by decide) rfl (fun ls hl => ?_)
                refine lv_iinc (v := nI (i + 1)) (lv' := [(4, .int (nI (i + 1))), (3, .int (nI 0)), (0, .ref (a 0)), (1, .int (nI u)), (2, .int (nI t))]) hx hb dX6_canSleep_78 hl (k := 4) rfl (nI_1 _) (by decide) rfl (fun ls hl => ?_)
                refine lv_goto (tgt := 24) hx hb dX6_canSleep_81 (by decide) ?_
                have hl : lv_has ls 5 [(4, .int (nI (i + 1))), (3, .int (bI (canK S u t (i + 1)))), (0, .ref (a 0)), (1, .int (nI u)), (2, .int (nI t))] := cb_loc hl (e := Value.int (bI (canK S u t (i + 1)))) 1 rfl (congrArg Value.int (show nI 0 = bI (canK S u t (i + 1)) from (bI_eq0 (by rw [canK_s, agF_f c_41 (Int32.not_le.mpr c_69), Bool.and_false]))))
                exact ih_24 (i + 1) (by omega) (by omega) ls (lv_sub hl [2, 3, 4, 1, 0] rfl)
              · skip
                refine lv_iconst (v := nI 1) hx hb dX6_canSleep_72 (by decide) ?_
                refine lv_goto (tgt := 77) hx hb dX6_canSleep_73 (by decide) ?_
                refine lv_istore_n (lv' := [(3, .int (nI 1)), (0, .ref (a 0)), (1, .int (nI u)), (2, .int (nI t)), (4, .int (nI i))]) hx hb dX6_canSleep_77 rfl hl (by decide) rfl (fun ls hl => ?_)
                refine lv_iinc (v := nI (i + 1)) (lv' := [(4, .int (nI (i + 1))), (3, .int (nI 1)), (0, .ref (a 0)), (1, .int (nI u)), (2, .int (nI t))]) hx hb dX6_canSleep_78 hl (k := 4) rfl (nI_1 _) (by decide) rfl (fun ls hl => ?_)
                refine lv_goto (tgt := 24) hx hb dX6_canSleep_81 (by decide) ?_
                have hl : lv_has ls 5 [(4, .int (nI (i + 1))), (3, .int (bI (canK S u t (i + 1)))), (0, .ref (a 0)), (1, .int (nI u)), (2, .int (nI t))] := cb_loc hl (e := Value.int (bI (canK S u t (i + 1)))) 1 rfl (congrArg Value.int (show nI 1 = bI (canK S u t (i + 1)) from (bI_eq1 (by rw [canK_s, c_48, agF_t (Int32.not_lt.mp c_69)]; rfl))))
                exact ih_24 (i + 1) (by omega) (by omega) ls (lv_sub hl [2, 3, 4, 1, 0] rfl)
          · skip
            refine lv_goto (tgt := 78) hx hb dX6_canSleep_44 (by decide) ?_
            refine lv_iinc (v := nI (i + 1)) (lv' := [(4, .int (nI (i + 1))), (0, .ref (a 0)), (1, .int (nI u)), (2, .int (nI t)), (3, .int (bI (canK S u t i)))]) hx hb dX6_canSleep_78 hl (k := 4) rfl (nI_1 _) (by decide) rfl (fun ls hl => ?_)
            refine lv_goto (tgt := 24) hx hb dX6_canSleep_81 (by decide) ?_
            have hl : lv_has ls 5 [(4, .int (nI (i + 1))), (0, .ref (a 0)), (1, .int (nI u)), (2, .int (nI t)), (3, .int (bI (canK S u t (i + 1))))] := cb_loc hl (e := Value.int (bI (canK S u t (i + 1)))) 4 rfl (congrArg Value.int (show bI (canK S u t i) = bI (canK S u t (i + 1)) from (congrArg bI (by rw [canK_s, agF_out c_41, Bool.and_true]))))
            exact ih_24 (i + 1) (by omega) (by omega) ls (lv_sub hl [1, 2, 3, 4, 0] rfl)
    have hl : lv_has ls 5 [(4, .int (nI 0)), (3, .int (bI (canK S u t 0))), (0, .ref (a 0)), (1, .int (nI u)), (2, .int (nI t))] := cb_loc hl (e := Value.int (bI (canK S u t 0))) 1 rfl (congrArg Value.int (show nI 0 = bI (canK S u t 0) from (bI_eq0 (by rw [canK_0, decide_eq_false (Int32.not_lt.mpr c_12)]))))
    exact L_24 (c_ns S + 1) 0 (by omega) (by omega) ls (lv_sub hl [2, 3, 4, 1, 0] rfl)
  · skip
    refine lv_iconst (v := nI 1) hx hb dX6_canSleep_15 (by decide) ?_
    refine lv_goto (tgt := 20) hx hb dX6_canSleep_16 (by decide) ?_
    refine lv_istore_n (lv' := [(3, .int (nI 1)), (0, .ref (a 0)), (1, .int (nI u)), (2, .int (nI t))]) hx hb dX6_canSleep_20 rfl hl (by decide) rfl (fun ls hl => ?_)
    refine lv_iconst (v := nI 0) hx hb dX6_canSleep_21 (by decide) ?_
    refine lv_istore (lv' := [(4, .int (nI 0)), (3, .int (nI 1)), (0, .ref (a 0)), (1, .int (nI u)), (2, .int (nI t))]) hx hb dX6_canSleep_22 hl (by decide) rfl (fun ls hl => ?_)
    have L_24 : ∀ (n i : Nat), i ≤ c_ns S → c_ns S + 1 ≤ i + n → ∀ (ls : Array Slot), lv_has ls 5 [(0, .ref (a 0)), (1, .int (nI u)), (2, .int (nI t)), (3, .int (bI (canK S u t i))), (4, .int (nI i))] → W p l e rm_X6_canSleep s m ([.ref (a 0), .int (nI u), .int (nI t)] : List Value).toArray below meth c s.heap [] 0 0 Q (F0 m 24 ls []) := by
      intro n
      induction n with
      | zero => intro i h1 h2; exact absurd h2 (by omega)
      | succ n ih_24 =>
        intro i hle_24 hfu_24 ls hl
        refine lv_iload hx hb dX6_canSleep_24 (lv_at hl 4 rfl) ?_
        refine lv_aload_n hx hb dX6_canSleep_26 rfl (lv_at hl 0 rfl) ?_
        refine va_get (D := (dC, dI)) (ci := 6) (v := .int (nI (c_ns S))) (C := RX6) (T := TX6) (N := 23) hx hb hts i_X6 hown hK hP 0 rfl rfl 3 (by decide) f_1 (fun _ h9 => h9) rfl dX6_canSleep_27 ?_
        refine lv_icmp_ge (tgt := 84) hx hb dX6_canSleep_30 (by decide) (fun c_30 => ?_) (fun c_30 => ?_)
        · have c_30 : (c_ns S) ≤ i := cb_ge (by omega) (by omega) c_30
          refine lv_iload_n hx hb dX6_canSleep_84 rfl (lv_at hl 3 rfl) ?_
          rw [hQ]
          exact W.zret (v := bI (canK S u t i)) hx hb hr (nar_bI _) (fun t9 ht9 hW9 => ⟨bI (canK S u t i), rfl, (by rw [show i = c_ns S by omega]; rfl), ht9⟩) (fun q h => absurd h List.not_mem_nil) dX6_canSleep_85
        · have c_30 : i < (c_ns S) := cb_nge (by omega) (by omega) c_30
          refine lv_aload_n hx hb dX6_canSleep_33 rfl (lv_at hl 0 rfl) ?_
          refine va_get (D := (dC, dI)) (ci := 6) (v := .ref (a 5)) (C := RX6) (T := TX6) (N := 23) hx hb hts i_X6 hown hK hP 0 rfl rfl 8 (by decide) f_2 (fun _ h9 => h9) rfl dX6_canSleep_34 ?_
          refine lv_iload hx hb dX6_canSleep_37 (lv_at hl 4 rfl) ?_
          refine cb_iald hx hb hK hP 5 4 (f := c_ten S) rfl rfl (j := i) (by omega) (Nat.le_of_ble_eq_true rfl) dX6_canSleep_39 ?_
          refine lv_iload_n hx hb dX6_canSleep_40 rfl (lv_at hl 2 rfl) ?_
          refine lv_icmp_eq (tgt := 47) hx hb dX6_canSleep_41 (by decide) (fun c_41 => ?_) (fun c_41 => ?_)
          · skip
            refine lv_iload_n hx hb dX6_canSleep_47 rfl (lv_at hl 3 rfl) ?_
            refine lv_if_eq (tgt := 76) hx hb dX6_canSleep_48 (by decide) (fun c_48 => ?_) (fun c_48 => ?_)
            · have c_48 : (canK S u t i) = false := bI_0 c_48
              refine lv_iconst (v := nI 0) hx hb dX6_canSleep_76 (by decide) ?_
              refine lv_istore_n (lv' := [(3, .int (nI 0)), (0, .ref (a 0)), (1, .int (nI u)), (2, .int (nI t)), (4, .int (nI i))]) hx hb dX6_canSleep_77 rfl hl (by decide) rfl (fun ls hl => ?_)
              refine lv_iinc (v := nI (i + 1)) (lv' := [(4, .int (nI (i + 1))), (3, .int (nI 0)), (0, .ref (a 0)), (1, .int (nI u)), (2, .int (nI t))]) hx hb dX6_canSleep_78 hl (k := 4) rfl (nI_1 _) (by decide) rfl (fun ls hl => ?_)
              refine lv_goto (tgt := 24) hx hb dX6_canSleep_81 (by decide) ?_
              have hl : lv_has ls 5 [(4, .int (nI (i + 1))), (3, .int (bI (canK S u t (i + 1)))), (0, .ref (a 0)), (1, .int (nI u)), (2, .int (nI t))] := cb_loc hl (e := Value.int (bI (canK S u t (i + 1)))) 1 rfl (congrArg Value.int (show nI 0 = bI (canK S u t (i + 1)) from (bI_eq0 (by rw [canK_s, c_48]; rfl))))
              exact ih_24 (i + 1) (by omega) (by omega) ls (lv_sub hl [2, 3, 4, 1, 0] rfl)
            · have c_48 : (canK S u t i) = true := bI_n c_48
              refine lv_aload_n hx hb dX6_canSleep_51 rfl (lv_at hl 0 rfl) ?_
              refine va_get (D := (dC, dI)) (ci := 6) (v := .ref (a 2)) (C := RX6) (T := TX6) (N := 23) hx hb hts i_X6 hown hK hP 0 rfl rfl 5 (by decide) f_3 (fun _ h9 => h9) rfl dX6_canSleep_52 ?_
              refine lv_iload hx hb dX6_canSleep_55 (lv_at hl 4 rfl) ?_
              refine cb_iald hx hb hK hP 2 1 (f := c_age S) rfl rfl (j := i) (by omega) (Nat.le_of_ble_eq_true rfl) dX6_canSleep_57 ?_
              refine lv_aload_n hx hb dX6_canSleep_58 rfl (lv_at hl 0 rfl) ?_
              refine va_get (D := (dC, dI)) (ci := 6) (v := .ref (a 2)) (C := RX6) (T := TX6) (N := 23) hx hb hts i_X6 hown hK hP 0 rfl rfl 5 (by decide) f_3 (fun _ h9 => h9) rfl dX6_canSleep_59 ?_
              refine lv_iload_n hx hb dX6_canSleep_62 rfl (lv_at hl 1 rfl) ?_
              refine cb_iald hx hb hK hP 2 1 (f := c_age S) rfl rfl (j := u) (by omega) (Nat.le_of_ble_eq_true rfl) dX6_canSleep_63 ?_
              refine lv_isub hx hb dX6_canSleep_64 ?_
              refine va_mabs hx hb (hml.trans hl.1.symm) hown f_4 f_5 f_6 f_7 (Nat.le_of_ble_eq_true rfl) (Nat.le_of_ble_eq_true rfl) (Nat.le_of_ble_eq_true rfl) (Nat.le_of_ble_eq_true rfl) dX6_canSleep_65 ?_
              refine cb_topi (z := cAbs ((c_age S i) - (c_age S u))) rfl ?_
              refine lv_iconst (v := nI 3) hx hb dX6_canSleep_68 (by decide) ?_
              refine lv_icmp_gt (tgt := 76) hx hb dX6_canSleep_69 (by decide) (fun c_69 => ?_) (fun c_69 => ?_)
              · skip
                refine lv_iconst (v := nI 0) hx hb dX6_canSleep_76 (by decide) ?_
                refine lv_istore_n (lv' := [(3, .int (nI 0)), (0, .ref (a 0)), (1, .int (nI u)), (2, .int (nI t)), (4, .int (nI i))]) hx hb dX6_canSleep_77 rfl hl (by decide) rfl (fun ls hl => ?_)
                refine lv_iinc (v := nI (i + 1)) (lv' := [(4, .int (nI (i + 1))), (3, .int (nI 0)), (0, .ref (a 0)), (1, .int (nI u)), (2, .int (nI t))]) hx hb dX6_canSleep_78 hl (k := 4) rfl (nI_1 _) (by decide) rfl (fun ls hl => ?_)
                refine lv_goto (tgt := 24) hx hb dX6_canSleep_81 (by decide) ?_
                have hl : lv_has ls 5 [(4, .int (nI (i + 1))), (3, .int (bI (canK S u t (i + 1)))), (0, .ref (a 0)), (1, .int (nI u)), (2, .int (nI t))] := cb_loc hl (e := Value.int (bI (canK S u t (i + 1)))) 1 rfl (congrArg Value.int (show nI 0 = bI (canK S u t (i + 1)) from (bI_eq0 (by rw [canK_s, agF_f c_41 (Int32.not_le.mpr c_69), Bool.and_false]))))
                exact ih_24 (i + 1) (by omega) (by omega) ls (lv_sub hl [2, 3, 4, 1, 0] rfl)
              · skip
                refine lv_iconst (v := nI 1) hx hb dX6_canSleep_72 (by decide) ?_
                refine lv_goto (tgt := 77) hx hb dX6_canSleep_73 (by decide) ?_
                refine lv_istore_n (lv' := [(3, .int (nI 1)), (0, .ref (a 0)), (1, .int (nI u)), (2, .int (nI t)), (4, .int (nI i))]) hx hb dX6_canSleep_77 rfl hl (by decide) rfl (fun ls hl => ?_)
                refine lv_iinc (v := nI (i + 1)) (lv' := [(4, .int (nI (i + 1))), (3, .int (nI 1)), (0, .ref (a 0)), (1, .int (nI u)), (2, .int (nI t))]) hx hb dX6_canSleep_78 hl (k := 4) rfl (nI_1 _) (by decide) rfl (fun ls hl => ?_)
                refine lv_goto (tgt := 24) hx hb dX6_canSleep_81 (by decide) ?_
                have hl : lv_has ls 5 [(4, .int (nI (i + 1))), (3, .int (bI (canK S u t (i + 1)))), (0, .ref (a 0)), (1, .int (nI u)), (2, .int (nI t))] := cb_loc hl (e := Value.int (bI (canK S u t (i + 1)))) 1 rfl (congrArg Value.int (show nI 1 = bI (canK S u t (i + 1)) from (bI_eq1 (by rw [canK_s, c_48, agF_t (Int32.not_lt.mp c_69)]; rfl))))
                exact ih_24 (i + 1) (by omega) (by omega) ls (lv_sub hl [2, 3, 4, 1, 0] rfl)
          · skip
            refine lv_goto (tgt := 78) hx hb dX6_canSleep_44 (by decide) ?_
            refine lv_iinc (v := nI (i + 1)) (lv' := [(4, .int (nI (i + 1))), (0, .ref (a 0)), (1, .int (nI u)), (2, .int (nI t)), (3, .int (bI (canK S u t i)))]) hx hb dX6_canSleep_78 hl (k := 4) rfl (nI_1 _) (by decide) rfl (fun ls hl => ?_)
            refine lv_goto (tgt := 24) hx hb dX6_canSleep_81 (by decide) ?_
            have hl : lv_has ls 5 [(4, .int (nI (i + 1))), (0, .ref (a 0)), (1, .int (nI u)), (2, .int (nI t)), (3, .int (bI (canK S u t (i + 1))))] := cb_loc hl (e := Value.int (bI (canK S u t (i + 1)))) 4 rfl (congrArg Value.int (show bI (canK S u t i) = bI (canK S u t (i + 1)) from (congrArg bI (by rw [canK_s, agF_out c_41, Bool.and_true]))))
            exact ih_24 (i + 1) (by omega) (by omega) ls (lv_sub hl [1, 2, 3, 4, 0] rfl)
    have hl : lv_has ls 5 [(4, .int (nI 0)), (3, .int (bI (canK S u t 0))), (0, .ref (a 0)), (1, .int (nI u)), (2, .int (nI t))] := cb_loc hl (e := Value.int (bI (canK S u t 0))) 1 rfl (congrArg Value.int (show nI 1 = bI (canK S u t 0) from (bI_eq1 (by rw [canK_0, decide_eq_true (Int32.not_le.mp c_12)]))))
    exact L_24 (c_ns S + 1) 0 (by omega) (by omega) ls (lv_sub hl [2, 3, 4, 1, 0] rfl)
abbrev rm_X6_in : Room := { frames := 0, cells := 0, slots := 0, locals := 0 }
set_option maxHeartbeats 4000000 in
set_option maxRecDepth 100000 in
theorem c_X6_in (l : Launch) (dC : Nat → ClassId) (dI : Nat → Nat → Nat) (a : Nat → Nat) (k : Nat → ClassId) (S : cs_S) (th : Nat) (t : Nat) (hns : c_ns S ≤ 30) : Met l yX6_in wsX6_in rm_X6_in (va_Pc [.ref (a 0), .int (nI t)] (cR dC dI (mb_w a k S th) (mb_ty k))) (vp_Sl (fun r => r = lN (bs (inT S t) (c_ns S)))) 0 0 (fun _ => False) := by
  refine Met.ofW (cc := cX6_in) (maxL := 5) (ret := (some .long)) (by decide) rfl ?_
  intro p e s m args below meth c s₁ B hml hv
  obtain ⟨rfl, hP, hK⟩ := hv
  have hx := B.exec
  have hb := B.bytes
  have hr := B.returns
  have hts := atoms_spec (ws := wsX6_in) B.pre
  have hown : s.vm.findClass RX6 = some m.cls := findClass_of_methodNamed B.named
  have hlocks := B.notSynchronized
  obtain ⟨Q, hQ⟩ : ∃ Q, Q = MQ below (vp_Sl (fun r => r = lN (bs (inT S t) (c_ns S)))) ([.ref (a 0), .int (nI t)] : List Value).toArray s 0 0 (fun _ => False) := ⟨_, rfl⟩
  show W p l e rm_X6_in s m _ below meth c s.heap [] 0 0 (MQ below _ _ _ _ _ _) _
  rw [← hQ]
  have i_X6 : ∀ w ∈ wsX60, w ∈ wsX6_in := fun w h => List.mem_cons_of_mem _ (List.mem_append_right _ h)
  have f_0 := hts (.fieldLink RX6 64 "CampBookModel" "scouts" "I") (by decide +kernel)
  have f_1 := hts (.fieldLink RX6 22 "CampBookModel" "tentOf" "[I") (by decide +kernel)
  have hl := lv_entry ([.ref (a 0), .int (nI t)]) (n := 5) (Nat.le_of_ble_eq_true rfl)
  rw [lg_entry_eq]
  generalize (lg_sl ([.ref (a 0), .int (nI t)]) ++ List.replicate (5 - (lg_sl ([.ref (a 0), .int (nI t)])).length) Slot.unset).toArray = ls at hl ⊢
  have hl : lv_has ls 5 [(0, .ref (a 0)), (1, .int (nI t))] := hl
  refine lv_lconst (v := lN 0) hx hb dX6_in_0 rfl ?_
  refine lv_lstore_n (lv' := [(2, .long (lN 0)), (0, .ref (a 0)), (1, .int (nI t))]) hx hb dX6_in_1 rfl hl (by decide) rfl (fun ls hl => ?_)
  refine lv_iconst (v := nI 0) hx hb dX6_in_2 (by decide) ?_
  refine lv_istore (lv' := [(4, .int (nI 0)), (2, .long (lN 0)), (0, .ref (a 0)), (1, .int (nI t))]) hx hb dX6_in_3 hl (by decide) rfl (fun ls hl => ?_)
  have L_5 : ∀ (n i : Nat), i ≤ c_ns S → c_ns S + 1 ≤ i + n → ∀ (ls : Array Slot), lv_has ls 5 [(0, .ref (a 0)), (1, .int (nI t)), (2, .long (lN (bs (inT S t) i))), (4, .int (nI i))] → W p l e rm_X6_in s m ([.ref (a 0), .int (nI t)] : List Value).toArray below meth c s.heap [] 0 0 Q (F0 m 5 ls []) := by
    intro n
    induction n with
    | zero => intro i h1 h2; exact absurd h2 (by omega)
    | succ n ih_5 =>
      intro i hle_5 hfu_5 ls hl
      refine lv_iload hx hb dX6_in_5 (lv_at hl 3 rfl) ?_
      refine lv_aload_n hx hb dX6_in_7 rfl (lv_at hl 0 rfl) ?_
      refine va_get (D := (dC, dI)) (ci := 6) (v := .int (nI (c_ns S))) (C := RX6) (T := TX6) (N := 23) hx hb hts i_X6 hown hK hP 0 rfl rfl 3 (by decide) f_0 (fun _ h9 => h9) rfl dX6_in_8 ?_
      refine lv_icmp_ge (tgt := 42) hx hb dX6_in_11 (by decide) (fun c_11 => ?_) (fun c_11 => ?_)
      · have c_11 : (c_ns S) ≤ i := cb_ge (by omega) (by omega) c_11
        refine lv_lload_n hx hb dX6_in_42 rfl (lv_at hl 2 rfl) ?_
        rw [hQ]
        exact W.lret (v := lN (bs (inT S t) i)) hx hb hr (fun t9 ht9 hW9 => ⟨lN (bs (inT S t) i), rfl, (by rw [show i = c_ns S by omega]), ht9⟩) (fun q h => absurd h List.not_mem_nil) dX6_in_43
      · have c_11 : i < (c_ns S) := cb_nge (by omega) (by omega) c_11
        refine lv_lload_n hx hb dX6_in_14 rfl (lv_at hl 2 rfl) ?_
        refine lv_aload_n hx hb dX6_in_15 rfl (lv_at hl 0 rfl) ?_
        refine va_get (D := (dC, dI)) (ci := 6) (v := .ref (a 5)) (C := RX6) (T := TX6) (N := 23) hx hb hts i_X6 hown hK hP 0 rfl rfl 8 (by decide) f_1 (fun _ h9 => h9) rfl dX6_in_16 ?_
        refine lv_iload hx hb dX6_in_19 (lv_at hl 3 rfl) ?_
        refine cb_iald hx hb hK hP 5 4 (f := c_ten S) rfl rfl (j := i) (by omega) (Nat.le_of_ble_eq_true rfl) dX6_in_21 ?_
        refine lv_iload_n hx hb dX6_in_22 rfl (lv_at hl 1 rfl) ?_
        refine lv_icmp_ne (tgt := 33) hx hb dX6_in_23 (by decide) (fun c_23 => ?_) (fun c_23 => ?_)
        · skip
          refine lv_lconst (v := lN 0) hx hb dX6_in_33 rfl ?_
          refine lv_ladd hx hb dX6_in_34 ?_
          refine lv_lstore_n (lv' := [(2, .long ((lN (bs (inT S t) i)) + (lN 0))), (0, .ref (a 0)), (1, .int (nI t)), (4, .int (nI i))]) hx hb dX6_in_35 rfl hl (by decide) rfl (fun ls hl => ?_)
          refine lv_iinc (v := nI (i + 1)) (lv' := [(4, .int (nI (i + 1))), (2, .long ((lN (bs (inT S t) i)) + (lN 0))), (0, .ref (a 0)), (1, .int (nI t))]) hx hb dX6_in_36 hl (k := 3) rfl (nI_1 _) (by decide) rfl (fun ls hl => ?_)
          refine lv_goto (tgt := 5) hx hb dX6_in_39 (by decide) ?_
          have hl : lv_has ls 5 [(4, .int (nI (i + 1))), (2, .long (lN (bs (inT S t) (i + 1)))), (0, .ref (a 0)), (1, .int (nI t))] := cb_loc hl (e := Value.long (lN (bs (inT S t) (i + 1)))) 1 rfl (congrArg Value.long (show (lN (bs (inT S t) i)) + (lN 0) = lN (bs (inT S t) (i + 1)) from (bsA_f (decide_eq_false c_23))))
          exact ih_5 (i + 1) (by omega) (by omega) ls (lv_sub hl [2, 3, 1, 0] rfl)
        · skip
          refine lv_lconst (v := lN 1) hx hb dX6_in_26 rfl ?_
          refine lv_iload hx hb dX6_in_27 (lv_at hl 3 rfl) ?_
          refine lv_lshl hx hb dX6_in_29 rfl ?_
          refine cb_topl (cb_shl (k := i) (by omega)) ?_
          refine lv_goto (tgt := 34) hx hb dX6_in_30 (by decide) ?_
          refine lv_ladd hx hb dX6_in_34 ?_
          refine lv_lstore_n (lv' := [(2, .long ((lN (bs (inT S t) i)) + (lN (2 ^ i)))), (0, .ref (a 0)), (1, .int (nI t)), (4, .int (nI i))]) hx hb dX6_in_35 rfl hl (by decide) rfl (fun ls hl => ?_)
          refine lv_iinc (v := nI (i + 1)) (lv' := [(4, .int (nI (i + 1))), (2, .long ((lN (bs (inT S t) i)) + (lN (2 ^ i)))), (0, .ref (a 0)), (1, .int (nI t))]) hx hb dX6_in_36 hl (k := 3) rfl (nI_1 _) (by decide) rfl (fun ls hl => ?_)
          refine lv_goto (tgt := 5) hx hb dX6_in_39 (by decide) ?_
          have hl : lv_has ls 5 [(4, .int (nI (i + 1))), (2, .long (lN (bs (inT S t) (i + 1)))), (0, .ref (a 0)), (1, .int (nI t))] := cb_loc hl (e := Value.long (lN (bs (inT S t) (i + 1)))) 1 rfl (congrArg Value.long (show (lN (bs (inT S t) i)) + (lN (2 ^ i)) = lN (bs (inT S t) (i + 1)) from (bsA_t (decide_eq_true c_23))))
          exact ih_5 (i + 1) (by omega) (by omega) ls (lv_sub hl [2, 3, 1, 0] rfl)
  have hl : lv_has ls 5 [(4, .int (nI 0)), (2, .long (lN (bs (inT S t) 0))), (0, .ref (a 0)), (1, .int (nI t))] := cb_loc hl (e := Value.long (lN (bs (inT S t) 0))) 1 rfl (congrArg Value.long (show lN 0 = lN (bs (inT S t) 0) from rfl))
  exact L_5 (c_ns S + 1) 0 (by omega) (by omega) ls (lv_sub hl [2, 3, 1, 0] rfl)
abbrev rm_X6_bestTent : Room := { frames := 2, cells := 0, slots := 0, locals := 48 }
set_option maxHeartbeats 4000000 in
set_option maxRecDepth 100000 in
theorem c_X6_bestTent (l : Launch) (dC : Nat → ClassId) (dI : Nat → Nat → Nat) (a : Nat → Nat) (k : Nat → ClassId) (S : cs_S) (th : Nat) (u : Nat) (hu : u < c_ns S) (hI : Inv S) : Met l yX6_bestTent wsX6_bestTent rm_X6_bestTent (va_Pc [.ref (a 0), .int (nI u)] (cR dC dI (mb_w a k S th) (mb_ty k))) (vp_Si (fun r => r = oI (bT S u (c_nt S)))) 0 0 (fun _ => False) := by
  refine Met.ofW (cc := cX6_bestTent) (maxL := 5) (ret := (some .int)) (by decide) rfl ?_
  intro p e s m args below meth c s₁ B hml hv
  obtain ⟨rfl, hP, hK⟩ := hv
  have hx := B.exec
  have hb := B.bytes
  have hr := B.returns
  have hts := atoms_spec (ws := wsX6_bestTent) B.pre
  have hown : s.vm.findClass RX6 = some m.cls := findClass_of_methodNamed B.named
  have hlocks := B.notSynchronized
  obtain ⟨Q, hQ⟩ : ∃ Q, Q = MQ below (vp_Si (fun r => r = oI (bT S u (c_nt S)))) ([.ref (a 0), .int (nI u)] : List Value).toArray s 0 0 (fun _ => False) := ⟨_, rfl⟩
  show W p l e rm_X6_bestTent s m _ below meth c s.heap [] 0 0 (MQ below _ _ _ _ _ _) _
  rw [← hQ]
  have i_X6 : ∀ w ∈ wsX60, w ∈ wsX6_bestTent := fun w h => List.mem_cons_of_mem _ (List.mem_append_right _ h)
  obtain ⟨⟨hday, hnp, hns, hnt, hnf, hnm, hnb, hme⟩, hpat, hage, hten, hcnt, hplc, heat, hned, hhld, hbad, hbad0, hbag⟩ := id hI
  have f_0 := hts (.fieldLink RX6 67 "CampBookModel" "tents" "I") (by decide +kernel)
  have f_1 := hts (.fieldLink RX6 9 "CampBookModel" "patrolOf" "[I") (by decide +kernel)
  have hl := lv_entry ([.ref (a 0), .int (nI u)]) (n := 5) (Nat.le_of_ble_eq_true rfl)
  rw [lg_entry_eq]
  generalize (lg_sl ([.ref (a 0), .int (nI u)]) ++ List.replicate (5 - (lg_sl ([.ref (a 0), .int (nI u)])).length) Slot.unset).toArray = ls at hl ⊢
  have hl : lv_has ls 5 [(0, .ref (a 0)), (1, .int (nI u))] := hl
  have hpat9 := pat_no hI hu
  refine lv_iconst (v := (-1)) hx hb dX6_bestTent_0 (by decide) ?_
  refine lv_istore_n (lv' := [(2, .int (-1)), (0, .ref (a 0)), (1, .int (nI u))]) hx hb dX6_bestTent_1 rfl hl (by decide) rfl (fun ls hl => ?_)
  refine lv_iconst (v := nI 0) hx hb dX6_bestTent_2 (by decide) ?_
  refine lv_istore_n (lv' := [(3, .int (nI 0)), (2, .int (-1)), (0, .ref (a 0)), (1, .int (nI u))]) hx hb dX6_bestTent_3 rfl hl (by decide) rfl (fun ls hl => ?_)
  have L_4 : ∀ (n i : Nat), i ≤ c_nt S → c_nt S + 1 ≤ i + n → ∀ (ls : Array Slot), lv_has ls 5 [(0, .ref (a 0)), (1, .int (nI u)), (2, .int (oI (bT S u i))), (3, .int (nI i))] → W p l e rm_X6_bestTent s m ([.ref (a 0), .int (nI u)] : List Value).toArray below meth c s.heap [] 0 0 Q (F0 m 4 ls []) := by
    intro n
    induction n with
    | zero => intro i h1 h2; exact absurd h2 (by omega)
    | succ n ih_4 =>
      intro i hle_4 hfu_4 ls hl
      refine lv_iload_n hx hb dX6_bestTent_4 rfl (lv_at hl 3 rfl) ?_
      refine lv_aload_n hx hb dX6_bestTent_5 rfl (lv_at hl 0 rfl) ?_
      refine va_get (D := (dC, dI)) (ci := 6) (v := .int (nI (c_nt S))) (C := RX6) (T := TX6) (N := 23) hx hb hts i_X6 hown hK hP 0 rfl rfl 12 (by decide) f_0 (fun _ h9 => h9) rfl dX6_bestTent_6 ?_
      refine lv_icmp_ge (tgt := 91) hx hb dX6_bestTent_9 (by decide) (fun c_9 => ?_) (fun c_9 => ?_)
      · have c_9 : (c_nt S) ≤ i := cb_ge (by omega) (by omega) c_9
        refine lv_iload_n hx hb dX6_bestTent_91 rfl (lv_at hl 2 rfl) ?_
        rw [hQ]
        exact W.iret (v := oI (bT S u i)) hx hb hr (fun t9 ht9 hW9 => ⟨oI (bT S u i), rfl, (by rw [show i = c_nt S by omega]), ht9⟩) (fun q h => absurd h List.not_mem_nil) dX6_bestTent_92
      · have c_9 : i < (c_nt S) := cb_nge (by omega) (by omega) c_9
        refine lv_aload_n hx hb dX6_bestTent_12 rfl (lv_at hl 0 rfl) ?_
        refine lv_iload_n hx hb dX6_bestTent_13 rfl (lv_at hl 1 rfl) ?_
        refine lv_iload_n hx hb dX6_bestTent_14 rfl (lv_at hl 3 rfl) ?_
        refine vp_callSi (W.runV (As := [.int (nI u), .int (nI i)]) (rest := []) ⟨hx, hb, hml, hown, hts⟩ (c_X6_canSleep l dC dI a k S th u i (by omega) (by omega) (by omega)) (cwV 2 hts gX6_bestTent_X6_canSleep rfl rfl rfl (by decide +kernel) ⟨(Nat.le_of_ble_eq_true rfl), (Nat.le_of_ble_eq_true rfl)⟩) ⟨cR_blind, va_recv hK hP (ci := 6) (q0 := 0) rfl rfl, fun U hU hW => ⟨rfl, cR_of hK hP hU hW⟩⟩ rfl rfl hl.1 rfl (lv_room (Nat.le_of_ble_eq_true rfl)) dX6_bestTent_15 ⟨(Nat.le_of_ble_eq_true rfl), (Nat.le_of_ble_eq_true rfl)⟩) (fun r er => ?_)
        subst er
        refine lv_if_ne (tgt := 24) hx hb dX6_bestTent_18 (by decide) (fun c_18 => ?_) (fun c_18 => ?_)
        · have c_18 : (canT S u i) = true := bI_n c_18
          refine lv_iload_n hx hb dX6_bestTent_24 rfl (lv_at hl 2 rfl) ?_
          refine lv_iconst (v := (-1)) hx hb dX6_bestTent_25 (by decide) ?_
          refine lv_icmp_ne (tgt := 33) hx hb dX6_bestTent_26 (by decide) (fun c_26 => ?_) (fun c_26 => ?_)
          · skip
            obtain ⟨b9, eb9⟩ := oI_some c_26
            have hb9 := bT_lt eb9
            have eo9 : oI (bT S u i) = nI b9 := by rw [eb9]; rfl
            rw [eo9] at hl
            have hm1 : mt S u i ≤ c_ns S := mt_le
            have hm2 : mt S u b9 ≤ c_ns S := mt_le
            have h81 := hcnt b9 (by omega)
            have h82 := hcnt i (by omega)
            refine lv_aload_n hx hb dX6_bestTent_33 rfl (lv_at hl 0 rfl) ?_
            refine lv_iload_n hx hb dX6_bestTent_34 rfl (lv_at hl 3 rfl) ?_
            refine lv_aload_n hx hb dX6_bestTent_35 rfl (lv_at hl 0 rfl) ?_
            refine va_get (D := (dC, dI)) (ci := 6) (v := .ref (a 1)) (C := RX6) (T := TX6) (N := 23) hx hb hts i_X6 hown hK hP 0 rfl rfl 4 (by decide) f_1 (fun _ h9 => h9) rfl dX6_bestTent_36 ?_
            refine lv_iload_n hx hb dX6_bestTent_39 rfl (lv_at hl 1 rfl) ?_
            refine cb_iald hx hb hK hP 1 0 (f := c_pat S) rfl rfl (j := u) (by omega) (Nat.le_of_ble_eq_true rfl) dX6_bestTent_40 ?_
            refine vp_callSi (W.runV (As := [.int (nI i), .int (c_pat S u)]) (rest := []) ⟨hx, hb, hml, hown, hts⟩ (c_X6_sleepers l dC dI a k S th (nI i) (c_pat S u) (by omega)) (cwV 2 hts gX6_bestTent_X6_sleepers rfl rfl rfl (by decide +kernel) ⟨(Nat.le_of_ble_eq_true rfl), (Nat.le_of_ble_eq_true rfl)⟩) ⟨cR_blind, va_recv hK hP (ci := 6) (q0 := 0) rfl rfl, fun U hU hW => ⟨rfl, cR_of hK hP hU hW⟩⟩ rfl rfl hl.1 rfl (lv_room (Nat.le_of_ble_eq_true rfl)) dX6_bestTent_41 ⟨(Nat.le_of_ble_eq_true rfl), (Nat.le_of_ble_eq_true rfl)⟩) (fun r er => ?_)
            subst er
            refine cb_topi (z := nI (mt S u i)) (congrArg nI (slp_mt hpat9)) ?_
            refine lv_aload_n hx hb dX6_bestTent_44 rfl (lv_at hl 0 rfl) ?_
            refine lv_iload_n hx hb dX6_bestTent_45 rfl (lv_at hl 2 rfl) ?_
            refine lv_aload_n hx hb dX6_bestTent_46 rfl (lv_at hl 0 rfl) ?_
            refine va_get (D := (dC, dI)) (ci := 6) (v := .ref (a 1)) (C := RX6) (T := TX6) (N := 23) hx hb hts i_X6 hown hK hP 0 rfl rfl 4 (by decide) f_1 (fun _ h9 => h9) rfl dX6_bestTent_47 ?_
            refine lv_iload_n hx hb dX6_bestTent_50 rfl (lv_at hl 1 rfl) ?_
            refine cb_iald hx hb hK hP 1 0 (f := c_pat S) rfl rfl (j := u) (by omega) (Nat.le_of_ble_eq_true rfl) dX6_bestTent_51 ?_
            refine vp_callSi (W.runV (As := [.int (nI b9), .int (c_pat S u)]) (rest := [.int (nI (mt S u i))]) ⟨hx, hb, hml, hown, hts⟩ (c_X6_sleepers l dC dI a k S th (nI b9) (c_pat S u) (by omega)) (cwV 2 hts gX6_bestTent_X6_sleepers rfl rfl rfl (by decide +kernel) ⟨(Nat.le_of_ble_eq_true rfl), (Nat.le_of_ble_eq_true rfl)⟩) ⟨cR_blind, va_recv hK hP (ci := 6) (q0 := 0) rfl rfl, fun U hU hW => ⟨rfl, cR_of hK hP hU hW⟩⟩ rfl rfl hl.1 rfl (lv_room (Nat.le_of_ble_eq_true rfl)) dX6_bestTent_52 ⟨(Nat.le_of_ble_eq_true rfl), (Nat.le_of_ble_eq_true rfl)⟩) (fun r er => ?_)
            subst er
            refine cb_topi (z := nI (mt S u b9)) (congrArg nI (slp_mt hpat9)) ?_
            refine lv_isub hx hb dX6_bestTent_55 ?_
            refine lv_istore (lv' := [(4, .int ((nI (mt S u i)) - (nI (mt S u b9)))), (0, .ref (a 0)), (1, .int (nI u)), (2, .int (nI b9)), (3, .int (nI i))]) hx hb dX6_bestTent_56 hl (by decide) rfl (fun ls hl => ?_)
            refine lv_iload hx hb dX6_bestTent_58 (lv_at hl 0 rfl) ?_
            refine lv_if_gt (tgt := 83) hx hb dX6_bestTent_60 (by decide) (fun c_60 => ?_) (fun c_60 => ?_)
            · skip
              have c_60 : mt S u b9 < mt S u i := (sub_pos (by omega) (by omega)).mp c_60
              refine lv_iload_n hx hb dX6_bestTent_83 rfl (lv_at hl 4 rfl) ?_
              refine lv_istore_n (lv' := [(2, .int (nI i)), (4, .int ((nI (mt S u i)) - (nI (mt S u b9)))), (0, .ref (a 0)), (1, .int (nI u)), (3, .int (nI i))]) hx hb dX6_bestTent_84 rfl hl (by decide) rfl (fun ls hl => ?_)
              refine lv_iinc (v := nI (i + 1)) (lv' := [(3, .int (nI (i + 1))), (2, .int (nI i)), (4, .int ((nI (mt S u i)) - (nI (mt S u b9)))), (0, .ref (a 0)), (1, .int (nI u))]) hx hb dX6_bestTent_85 hl (k := 4) rfl (nI_1 _) (by decide) rfl (fun ls hl => ?_)
              refine lv_goto (tgt := 4) hx hb dX6_bestTent_88 (by decide) ?_
              have hl : lv_has ls 5 [(3, .int (nI (i + 1))), (2, .int (oI (bT S u (i + 1)))), (4, .int ((nI (mt S u i)) - (nI (mt S u b9)))), (0, .ref (a 0)), (1, .int (nI u))] := cb_loc hl (e := Value.int (oI (bT S u (i + 1)))) 1 rfl (congrArg Value.int (show nI i = oI (bT S u (i + 1)) from (bT_yes (fun q9 => absurd ((rk_some hns eb9).mp q9) (by rw [rank_eq, rank_eq]; omega)) c_18)))
              exact ih_4 (i + 1) (by omega) (by omega) ls (lv_sub hl [3, 4, 1, 0] rfl)
            · skip
              have c_60 : ¬ mt S u b9 < mt S u i := fun z => c_60 ((sub_pos (by omega) (by omega)).mpr z)
              refine lv_iload hx hb dX6_bestTent_63 (lv_at hl 0 rfl) ?_
              refine lv_if_ne (tgt := 85) hx hb dX6_bestTent_65 (by decide) (fun c_65 => ?_) (fun c_65 => ?_)
              · skip
                have c_65 : ¬ mt S u i = mt S u b9 := fun z => c_65 ((sub_zero (by omega) (by omega)).mpr z)
                refine lv_iinc (v := nI (i + 1)) (lv' := [(3, .int (nI (i + 1))), (4, .int ((nI (mt S u i)) - (nI (mt S u b9)))), (0, .ref (a 0)), (1, .int (nI u)), (2, .int (nI b9))]) hx hb dX6_bestTent_85 hl (k := 4) rfl (nI_1 _) (by decide) rfl (fun ls hl => ?_)
                refine lv_goto (tgt := 4) hx hb dX6_bestTent_88 (by decide) ?_
                have hl : lv_has ls 5 [(3, .int (nI (i + 1))), (4, .int ((nI (mt S u i)) - (nI (mt S u b9)))), (0, .ref (a 0)), (1, .int (nI u)), (2, .int (oI (bT S u (i + 1))))] := cb_loc hl (e := Value.int (oI (bT S u (i + 1)))) 4 rfl (congrArg Value.int (show nI b9 = oI (bT S u (i + 1)) from (eo9.symm.trans (bT_no2 ((rk_some hns eb9).mpr (by rw [rank_eq, rank_eq]; omega))))))
                exact ih_4 (i + 1) (by omega) (by omega) ls (lv_sub hl [2, 3, 4, 0] rfl)
              · skip
                have c_65 : mt S u i = mt S u b9 := (sub_zero (by omega) (by omega)).mp c_65
                refine lv_aload_n hx hb dX6_bestTent_68 rfl (lv_at hl 1 rfl) ?_
                refine lv_iload_n hx hb dX6_bestTent_69 rfl (lv_at hl 4 rfl) ?_
                refine lv_iconst (v := (-1)) hx hb dX6_bestTent_70 (by decide) ?_
                refine vp_callSi (W.runV (As := [.int (nI i), .int (-1)]) (rest := []) ⟨hx, hb, hml, hown, hts⟩ (c_X6_sleepers l dC dI a k S th (nI i) (-1) (by omega)) (cwV 2 hts gX6_bestTent_X6_sleepers rfl rfl rfl (by decide +kernel) ⟨(Nat.le_of_ble_eq_true rfl), (Nat.le_of_ble_eq_true rfl)⟩) ⟨cR_blind, va_recv hK hP (ci := 6) (q0 := 0) rfl rfl, fun U hU hW => ⟨rfl, cR_of hK hP hU hW⟩⟩ rfl rfl hl.1 rfl (lv_room (Nat.le_of_ble_eq_true rfl)) dX6_bestTent_71 ⟨(Nat.le_of_ble_eq_true rfl), (Nat.le_of_ble_eq_true rfl)⟩) (fun r er => ?_)
                subst er
                refine cb_topi (z := nI (cntT S i)) (congrArg nI slp_cnt) ?_
                refine lv_aload_n hx hb dX6_bestTent_74 rfl (lv_at hl 1 rfl) ?_
                refine lv_iload_n hx hb dX6_bestTent_75 rfl (lv_at hl 3 rfl) ?_
                refine lv_iconst (v := (-1)) hx hb dX6_bestTent_76 (by decide) ?_
                refine vp_callSi (W.runV (As := [.int (nI b9), .int (-1)]) (rest := [.int (nI (cntT S i))]) ⟨hx, hb, hml, hown, hts⟩ (c_X6_sleepers l dC dI a k S th (nI b9) (-1) (by omega)) (cwV 2 hts gX6_bestTent_X6_sleepers rfl rfl rfl (by decide +kernel) ⟨(Nat.le_of_ble_eq_true rfl), (Nat.le_of_ble_eq_true rfl)⟩) ⟨cR_blind, va_recv hK hP (ci := 6) (q0 := 0) rfl rfl, fun U hU hW => ⟨rfl, cR_of hK hP hU hW⟩⟩ rfl rfl hl.1 rfl (lv_room (Nat.le_of_ble_eq_true rfl)) dX6_bestTent_77 ⟨(Nat.le_of_ble_eq_true rfl), (Nat.le_of_ble_eq_true rfl)⟩) (fun r er => ?_)
                subst er
                refine cb_topi (z := nI (cntT S b9)) (congrArg nI slp_cnt) ?_
                refine lv_icmp_le (tgt := 85) hx hb dX6_bestTent_80 (by decide) (fun c_80 => ?_) (fun c_80 => ?_)
                · have c_80 : (cntT S i) ≤ (cntT S b9) := cb_le (by omega) (by omega) c_80
                  refine lv_iinc (v := nI (i + 1)) (lv' := [(3, .int (nI (i + 1))), (4, .int ((nI (mt S u i)) - (nI (mt S u b9)))), (0, .ref (a 0)), (1, .int (nI u)), (2, .int (nI b9))]) hx hb dX6_bestTent_85 hl (k := 4) rfl (nI_1 _) (by decide) rfl (fun ls hl => ?_)
                  refine lv_goto (tgt := 4) hx hb dX6_bestTent_88 (by decide) ?_
                  have hl : lv_has ls 5 [(3, .int (nI (i + 1))), (4, .int ((nI (mt S u i)) - (nI (mt S u b9)))), (0, .ref (a 0)), (1, .int (nI u)), (2, .int (oI (bT S u (i + 1))))] := cb_loc hl (e := Value.int (oI (bT S u (i + 1)))) 4 rfl (congrArg Value.int (show nI b9 = oI (bT S u (i + 1)) from (eo9.symm.trans (bT_no2 ((rk_some hns eb9).mpr (by rw [rank_eq, rank_eq]; omega))))))
                  exact ih_4 (i + 1) (by omega) (by omega) ls (lv_sub hl [2, 3, 4, 0] rfl)
                · have c_80 : (cntT S b9) < (cntT S i) := cb_nle (by omega) (by omega) c_80
                  refine lv_iload_n hx hb dX6_bestTent_83 rfl (lv_at hl 4 rfl) ?_
                  refine lv_istore_n (lv' := [(2, .int (nI i)), (4, .int ((nI (mt S u i)) - (nI (mt S u b9)))), (0, .ref (a 0)), (1, .int (nI u)), (3, .int (nI i))]) hx hb dX6_bestTent_84 rfl hl (by decide) rfl (fun ls hl => ?_)
                  refine lv_iinc (v := nI (i + 1)) (lv' := [(3, .int (nI (i + 1))), (2, .int (nI i)), (4, .int ((nI (mt S u i)) - (nI (mt S u b9)))), (0, .ref (a 0)), (1, .int (nI u))]) hx hb dX6_bestTent_85 hl (k := 4) rfl (nI_1 _) (by decide) rfl (fun ls hl => ?_)
                  refine lv_goto (tgt := 4) hx hb dX6_bestTent_88 (by decide) ?_
                  have hl : lv_has ls 5 [(3, .int (nI (i + 1))), (2, .int (oI (bT S u (i + 1)))), (4, .int ((nI (mt S u i)) - (nI (mt S u b9)))), (0, .ref (a 0)), (1, .int (nI u))] := cb_loc hl (e := Value.int (oI (bT S u (i + 1)))) 1 rfl (congrArg Value.int (show nI i = oI (bT S u (i + 1)) from (bT_yes (fun q9 => absurd ((rk_some hns eb9).mp q9) (by rw [rank_eq, rank_eq]; omega)) c_18)))
                  exact ih_4 (i + 1) (by omega) (by omega) ls (lv_sub hl [3, 4, 1, 0] rfl)
          · skip
            have eb9 := oI_none c_26 (fun b hb => Nat.lt_trans (bT_lt hb) (by omega))
            refine lv_iconst (v := nI 1) hx hb dX6_bestTent_29 (by decide) ?_
            refine lv_goto (tgt := 56) hx hb dX6_bestTent_30 (by decide) ?_
            refine lv_istore (lv' := [(4, .int (nI 1)), (0, .ref (a 0)), (1, .int (nI u)), (2, .int (oI (bT S u i))), (3, .int (nI i))]) hx hb dX6_bestTent_56 hl (by decide) rfl (fun ls hl => ?_)
            refine lv_iload hx hb dX6_bestTent_58 (lv_at hl 0 rfl) ?_
            refine lv_if_gt (tgt := 83) hx hb dX6_bestTent_60 (by decide) (fun c_60 => ?_) (fun c_60 => ?_)
            · skip
              refine lv_iload_n hx hb dX6_bestTent_83 rfl (lv_at hl 4 rfl) ?_
              refine lv_istore_n (lv' := [(2, .int (nI i)), (4, .int (nI 1)), (0, .ref (a 0)), (1, .int (nI u)), (3, .int (nI i))]) hx hb dX6_bestTent_84 rfl hl (by decide) rfl (fun ls hl => ?_)
              refine lv_iinc (v := nI (i + 1)) (lv' := [(3, .int (nI (i + 1))), (2, .int (nI i)), (4, .int (nI 1)), (0, .ref (a 0)), (1, .int (nI u))]) hx hb dX6_bestTent_85 hl (k := 4) rfl (nI_1 _) (by decide) rfl (fun ls hl => ?_)
              refine lv_goto (tgt := 4) hx hb dX6_bestTent_88 (by decide) ?_
              have hl : lv_has ls 5 [(3, .int (nI (i + 1))), (2, .int (oI (bT S u (i + 1)))), (4, .int (nI 1)), (0, .ref (a 0)), (1, .int (nI u))] := cb_loc hl (e := Value.int (oI (bT S u (i + 1)))) 1 rfl (congrArg Value.int (show nI i = oI (bT S u (i + 1)) from (bT_yes (rk_none hns eb9) c_18)))
              exact ih_4 (i + 1) (by omega) (by omega) ls (lv_sub hl [3, 4, 1, 0] rfl)
            · exact absurd c_60 (by decide)
        · have c_18 : (canT S u i) = false := bI_0 c_18
          refine lv_goto (tgt := 85) hx hb dX6_bestTent_21 (by decide) ?_
          refine lv_iinc (v := nI (i + 1)) (lv' := [(3, .int (nI (i + 1))), (0, .ref (a 0)), (1, .int (nI u)), (2, .int (oI (bT S u i)))]) hx hb dX6_bestTent_85 hl (k := 3) rfl (nI_1 _) (by decide) rfl (fun ls hl => ?_)
          refine lv_goto (tgt := 4) hx hb dX6_bestTent_88 (by decide) ?_
          have hl : lv_has ls 5 [(3, .int (nI (i + 1))), (0, .ref (a 0)), (1, .int (nI u)), (2, .int (oI (bT S u (i + 1))))] := cb_loc hl (e := Value.int (oI (bT S u (i + 1)))) 3 rfl (congrArg Value.int (show oI (bT S u i) = oI (bT S u (i + 1)) from (bT_no1 c_18)))
          exact ih_4 (i + 1) (by omega) (by omega) ls (lv_sub hl [1, 2, 3, 0] rfl)
  have hl : lv_has ls 5 [(3, .int (nI 0)), (2, .int (oI (bT S u 0))), (0, .ref (a 0)), (1, .int (nI u))] := cb_loc hl (e := Value.int (oI (bT S u 0))) 1 rfl (congrArg Value.int (show (-1) = oI (bT S u 0) from rfl))
  exact L_4 (c_nt S + 1) 0 (by omega) (by omega) ls (lv_sub hl [2, 3, 1, 0] rfl)
abbrev rm_X6_at : Room := { frames := 1, cells := 0, slots := 0, locals := 22 }
set_option maxHeartbeats 4000000 in
set_option maxRecDepth 100000 in
theorem c_X6_at (l : Launch) (dC : Nat → ClassId) (dI : Nat → Nat → Nat) (a : Nat → Nat) (k : Nat → ClassId) (S : cs_S) (th : Nat) (x : Int32) (q : Nat) (hq : q < 5) : Met l yX6_at wsX6_at rm_X6_at (va_Pc [.ref (a 0), .int x, .int (nI q)] (cR dC dI (mb_w a k S th) (mb_ty k))) (vp_Si (fun r => r = hol S x.toInt q)) 0 0 (fun _ => False) := by
  refine Met.ofW (cc := cX6_at) (maxL := 3) (ret := (some .int)) (by decide) rfl ?_
  intro p e s m args below meth c s₁ B hml hv
  obtain ⟨rfl, hP, hK⟩ := hv
  have hx := B.exec
  have hb := B.bytes
  have hr := B.returns
  have hts := atoms_spec (ws := wsX6_at) B.pre
  have hown : s.vm.findClass RX6 = some m.cls := findClass_of_methodNamed B.named
  have hlocks := B.notSynchronized
  obtain ⟨Q, hQ⟩ : ∃ Q, Q = MQ below (vp_Si (fun r => r = hol S x.toInt q)) ([.ref (a 0), .int x, .int (nI q)] : List Value).toArray s 0 0 (fun _ => False) := ⟨_, rfl⟩
  show W p l e rm_X6_at s m _ below meth c s.heap [] 0 0 (MQ below _ _ _ _ _ _) _
  rw [← hQ]
  have i_X6 : ∀ w ∈ wsX60, w ∈ wsX6_at := fun w h => List.mem_cons_of_mem _ (List.mem_append_right _ h)
  have f_0 := hts (.fieldLink RX6 38 "CampBookModel" "duties" "[I") (by decide +kernel)
  have hl := lv_entry ([.ref (a 0), .int x, .int (nI q)]) (n := 3) (Nat.le_of_ble_eq_true rfl)
  rw [lg_entry_eq]
  generalize (lg_sl ([.ref (a 0), .int x, .int (nI q)]) ++ List.replicate (3 - (lg_sl ([.ref (a 0), .int x, .int (nI q)])).length) Slot.unset).toArray = ls at hl ⊢
  have hl : lv_has ls 3 [(0, .ref (a 0)), (1, .int x), (2, .int (nI q))] := hl
  refine lv_iload_n hx hb dX6_at_0 rfl (lv_at hl 1 rfl) ?_
  refine lv_iconst (v := nI 0) hx hb dX6_at_1 (by decide) ?_
  refine lv_bipush (v := nI 60) hx hb dX6_at_2 (by decide) ?_
  refine vp_callSi (W.runS (As := [.int x, .int (nI 0), .int (nI 60)]) (rest := []) ⟨hx, hb, hml, hown, hts⟩ (c_X6_isIn l x (nI 0) (nI 60)) (va_cwS 3 hts gX6_at_X6_isIn rfl rfl rfl (by decide +kernel) ⟨(Nat.le_of_ble_eq_true rfl), (Nat.le_of_ble_eq_true rfl)⟩) ⟨cN_blind, fun U hU hW => ⟨rfl, trivial⟩⟩ rfl rfl hl.1 rfl (lv_room (Nat.le_of_ble_eq_true rfl)) dX6_at_4 ⟨(Nat.le_of_ble_eq_true rfl), (Nat.le_of_ble_eq_true rfl)⟩) (fun r er => ?_)
  subst er
  refine lv_if_eq (tgt := 23) hx hb dX6_at_7 (by decide) (fun c_7 => ?_) (fun c_7 => ?_)
  · have c_7 : (inR x (nI 0) (nI 60)) = false := bI_0 c_7
    refine lv_iconst (v := (-1)) hx hb dX6_at_23 (by decide) ?_
    rw [hQ]
    exact W.iret (v := (-1)) hx hb hr (fun t9 ht9 hW9 => ⟨(-1), rfl, (hol_out c_7).symm, ht9⟩) (fun q h => absurd h List.not_mem_nil) dX6_at_24
  · have c_7 : (inR x (nI 0) (nI 60)) = true := bI_n c_7
    obtain ⟨d, -, hd9, ed⟩ := inR_ex (by omega) (by omega) c_7
    subst ed
    refine lv_aload_n hx hb dX6_at_10 rfl (lv_at hl 0 rfl) ?_
    refine va_get (D := (dC, dI)) (ci := 6) (v := .ref (a 10)) (C := RX6) (T := TX6) (N := 23) hx hb hts i_X6 hown hK hP 0 rfl rfl 14 (by decide) f_0 (fun _ h9 => h9) rfl dX6_at_11 ?_
    refine lv_iconst (v := nI 5) hx hb dX6_at_14 (by decide) ?_
    refine lv_iload_n hx hb dX6_at_15 rfl (lv_at hl 1 rfl) ?_
    refine lv_imul hx hb dX6_at_16 ?_
    refine cb_topi (pk_mul _ _) ?_
    refine lv_iload_n hx hb dX6_at_17 rfl (lv_at hl 2 rfl) ?_
    refine lv_iadd hx hb dX6_at_18 ?_
    refine cb_topi (nI_add _ _) ?_
    refine cb_topi (z := nI (d * 5 + q)) (congrArg nI (by omega)) ?_
    refine cb_iald hx hb hK hP 10 9 (f := c_hld S) rfl rfl (j := d * 5 + q) (by omega) (Nat.le_of_ble_eq_true rfl) dX6_at_19 ?_
    refine lv_goto (tgt := 24) hx hb dX6_at_20 (by decide) ?_
    rw [hQ]
    exact W.iret (v := c_hld S (d * 5 + q)) hx hb hr (fun t9 ht9 hW9 => ⟨c_hld S (d * 5 + q), rfl, (hol_nI hd9).symm, ht9⟩) (fun q h => absurd h List.not_mem_nil) dX6_at_24
abbrev rm_X6_hasScout : Room := { frames := 0, cells := 0, slots := 0, locals := 0 }
set_option maxHeartbeats 4000000 in
set_option maxRecDepth 100000 in
theorem c_X6_hasScout (l : Launch) (dC : Nat → ClassId) (dI : Nat → Nat → Nat) (a : Nat → Nat) (k : Nat → ClassId) (S : cs_S) (th : Nat) (pp : Nat) (x : Int32) (hns : c_ns S ≤ 30) : Met l yX6_hasScout wsX6_hasScout rm_X6_hasScout (va_Pc [.ref (a 0), .int (nI pp), .int x] (cR dC dI (mb_w a k S th) (mb_ty k))) (vp_Si (fun r => r = bI (hasF S pp x))) 0 0 (fun _ => False) := by
  refine Met.ofW (cc := cX6_hasScout) (maxL := 5) (ret := (some .boolean)) (by decide) rfl ?_
  intro p e s m args below meth c s₁ B hml hv
  obtain ⟨rfl, hP, hK⟩ := hv
  have hx := B.exec
  have hb := B.bytes
  have hr := B.returns
  have hts := atoms_spec (ws := wsX6_hasScout) B.pre
  have hown : s.vm.findClass RX6 = some m.cls := findClass_of_methodNamed B.named
  have hlocks := B.notSynchronized
  obtain ⟨Q, hQ⟩ : ∃ Q, Q = MQ below (vp_Si (fun r => r = bI (hasF S pp x))) ([.ref (a 0), .int (nI pp), .int x] : List Value).toArray s 0 0 (fun _ => False) := ⟨_, rfl⟩
  show W p l e rm_X6_hasScout s m _ below meth c s.heap [] 0 0 (MQ below _ _ _ _ _ _) _
  rw [← hQ]
  have i_X6 : ∀ w ∈ wsX60, w ∈ wsX6_hasScout := fun w h => List.mem_cons_of_mem _ (List.mem_append_right _ h)
  have f_0 := hts (.fieldLink RX6 64 "CampBookModel" "scouts" "I") (by decide +kernel)
  have f_1 := hts (.fieldLink RX6 9 "CampBookModel" "patrolOf" "[I") (by decide +kernel)
  have f_2 := hts (.fieldLink RX6 13 "CampBookModel" "ages" "[I") (by decide +kernel)
  have hl := lv_entry ([.ref (a 0), .int (nI pp), .int x]) (n := 5) (Nat.le_of_ble_eq_true rfl)
  rw [lg_entry_eq]
  generalize (lg_sl ([.ref (a 0), .int (nI pp), .int x]) ++ List.replicate (5 - (lg_sl ([.ref (a 0), .int (nI pp), .int x])).length) Slot.unset).toArray = ls at hl ⊢
  have hl : lv_has ls 5 [(0, .ref (a 0)), (1, .int (nI pp)), (2, .int x)] := hl
  refine lv_iconst (v := nI 0) hx hb dX6_hasScout_0 (by decide) ?_
  refine lv_istore_n (lv' := [(3, .int (nI 0)), (0, .ref (a 0)), (1, .int (nI pp)), (2, .int x)]) hx hb dX6_hasScout_1 rfl hl (by decide) rfl (fun ls hl => ?_)
  refine lv_iconst (v := nI 0) hx hb dX6_hasScout_2 (by decide) ?_
  refine lv_istore (lv' := [(4, .int (nI 0)), (3, .int (nI 0)), (0, .ref (a 0)), (1, .int (nI pp)), (2, .int x)]) hx hb dX6_hasScout_3 hl (by decide) rfl (fun ls hl => ?_)
  have L_5 : ∀ (n i : Nat), i ≤ c_ns S → c_ns S + 1 ≤ i + n → ∀ (ls : Array Slot), lv_has ls 5 [(0, .ref (a 0)), (1, .int (nI pp)), (2, .int x), (3, .int (bI (ex (fun s => inP S pp s && oldS S x s) i))), (4, .int (nI i))] → W p l e rm_X6_hasScout s m ([.ref (a 0), .int (nI pp), .int x] : List Value).toArray below meth c s.heap [] 0 0 Q (F0 m 5 ls []) := by
    intro n
    induction n with
    | zero => intro i h1 h2; exact absurd h2 (by omega)
    | succ n ih_5 =>
      intro i hle_5 hfu_5 ls hl
      refine lv_iload hx hb dX6_hasScout_5 (lv_at hl 4 rfl) ?_
      refine lv_aload_n hx hb dX6_hasScout_7 rfl (lv_at hl 0 rfl) ?_
      refine va_get (D := (dC, dI)) (ci := 6) (v := .int (nI (c_ns S))) (C := RX6) (T := TX6) (N := 23) hx hb hts i_X6 hown hK hP 0 rfl rfl 3 (by decide) f_0 (fun _ h9 => h9) rfl dX6_hasScout_8 ?_
      refine lv_icmp_ge (tgt := 52) hx hb dX6_hasScout_11 (by decide) (fun c_11 => ?_) (fun c_11 => ?_)
      · have c_11 : (c_ns S) ≤ i := cb_ge (by omega) (by omega) c_11
        refine lv_iload_n hx hb dX6_hasScout_52 rfl (lv_at hl 3 rfl) ?_
        rw [hQ]
        exact W.zret (v := bI (ex (fun s => inP S pp s && oldS S x s) i)) hx hb hr (nar_bI _) (fun t9 ht9 hW9 => ⟨bI (ex (fun s => inP S pp s && oldS S x s) i), rfl, (by rw [show i = c_ns S by omega]; rfl), ht9⟩) (fun q h => absurd h List.not_mem_nil) dX6_hasScout_53
      · have c_11 : i < (c_ns S) := cb_nge (by omega) (by omega) c_11
        refine lv_iload_n hx hb dX6_hasScout_14 rfl (lv_at hl 3 rfl) ?_
        refine lv_if_ne (tgt := 40) hx hb dX6_hasScout_15 (by decide) (fun c_15 => ?_) (fun c_15 => ?_)
        · have c_15 : (ex (fun s => inP S pp s && oldS S x s) i) = true := bI_n c_15
          refine lv_iconst (v := nI 1) hx hb dX6_hasScout_40 (by decide) ?_
          refine lv_goto (tgt := 45) hx hb dX6_hasScout_41 (by decide) ?_
          refine lv_istore_n (lv' := [(3, .int (nI 1)), (0, .ref (a 0)), (1, .int (nI pp)), (2, .int x), (4, .int (nI i))]) hx hb dX6_hasScout_45 rfl hl (by decide) rfl (fun ls hl => ?_)
          refine lv_iinc (v := nI (i + 1)) (lv' := [(4, .int (nI (i + 1))), (3, .int (nI 1)), (0, .ref (a 0)), (1, .int (nI pp)), (2, .int x)]) hx hb dX6_hasScout_46 hl (k := 4) rfl (nI_1 _) (by decide) rfl (fun ls hl => ?_)
          refine lv_goto (tgt := 5) hx hb dX6_hasScout_49 (by decide) ?_
          have hl : lv_has ls 5 [(4, .int (nI (i + 1))), (3, .int (bI (ex (fun s => inP S pp s && oldS S x s) (i + 1)))), (0, .ref (a 0)), (1, .int (nI pp)), (2, .int x)] := cb_loc hl (e := Value.int (bI (ex (fun s => inP S pp s && oldS S x s) (i + 1)))) 1 rfl (congrArg Value.int (show nI 1 = bI (ex (fun s => inP S pp s && oldS S x s) (i + 1)) from (bI_eq1 (by show (ex (fun s => inP S pp s && oldS S x s) i || _) = true; rw [c_15]; rfl))))
          exact ih_5 (i + 1) (by omega) (by omega) ls (lv_sub hl [2, 3, 4, 1, 0] rfl)
        · have c_15 : (ex (fun s => inP S pp s && oldS S x s) i) = false := bI_0 c_15
          refine lv_aload_n hx hb dX6_hasScout_18 rfl (lv_at hl 0 rfl) ?_
          refine va_get (D := (dC, dI)) (ci := 6) (v := .ref (a 1)) (C := RX6) (T := TX6) (N := 23) hx hb hts i_X6 hown hK hP 0 rfl rfl 4 (by decide) f_1 (fun _ h9 => h9) rfl dX6_hasScout_19 ?_
          refine lv_iload hx hb dX6_hasScout_22 (lv_at hl 4 rfl) ?_
          refine cb_iald hx hb hK hP 1 0 (f := c_pat S) rfl rfl (j := i) (by omega) (Nat.le_of_ble_eq_true rfl) dX6_hasScout_24 ?_
          refine lv_iload_n hx hb dX6_hasScout_25 rfl (lv_at hl 1 rfl) ?_
          refine lv_icmp_ne (tgt := 44) hx hb dX6_hasScout_26 (by decide) (fun c_26 => ?_) (fun c_26 => ?_)
          · skip
            refine lv_iconst (v := nI 0) hx hb dX6_hasScout_44 (by decide) ?_
            refine lv_istore_n (lv' := [(3, .int (nI 0)), (0, .ref (a 0)), (1, .int (nI pp)), (2, .int x), (4, .int (nI i))]) hx hb dX6_hasScout_45 rfl hl (by decide) rfl (fun ls hl => ?_)
            refine lv_iinc (v := nI (i + 1)) (lv' := [(4, .int (nI (i + 1))), (3, .int (nI 0)), (0, .ref (a 0)), (1, .int (nI pp)), (2, .int x)]) hx hb dX6_hasScout_46 hl (k := 4) rfl (nI_1 _) (by decide) rfl (fun ls hl => ?_)
            refine lv_goto (tgt := 5) hx hb dX6_hasScout_49 (by decide) ?_
            have hl : lv_has ls 5 [(4, .int (nI (i + 1))), (3, .int (bI (ex (fun s => inP S pp s && oldS S x s) (i + 1)))), (0, .ref (a 0)), (1, .int (nI pp)), (2, .int x)] := cb_loc hl (e := Value.int (bI (ex (fun s => inP S pp s && oldS S x s) (i + 1)))) 1 rfl (congrArg Value.int (show nI 0 = bI (ex (fun s => inP S pp s && oldS S x s) (i + 1)) from (bI_eq0 (by show (ex (fun s => inP S pp s && oldS S x s) i || (decide (c_pat S i = nI pp) && _)) = false; rw [c_15, decide_eq_false c_26]; rfl))))
            exact ih_5 (i + 1) (by omega) (by omega) ls (lv_sub hl [2, 3, 4, 1, 0] rfl)
          · skip
            refine lv_aload_n hx hb dX6_hasScout_29 rfl (lv_at hl 0 rfl) ?_
            refine va_get (D := (dC, dI)) (ci := 6) (v := .ref (a 2)) (C := RX6) (T := TX6) (N := 23) hx hb hts i_X6 hown hK hP 0 rfl rfl 5 (by decide) f_2 (fun _ h9 => h9) rfl dX6_hasScout_30 ?_
            refine lv_iload hx hb dX6_hasScout_33 (lv_at hl 4 rfl) ?_
            refine cb_iald hx hb hK hP 2 1 (f := c_age S) rfl rfl (j := i) (by omega) (Nat.le_of_ble_eq_true rfl) dX6_hasScout_35 ?_
            refine lv_iload_n hx hb dX6_hasScout_36 rfl (lv_at hl 2 rfl) ?_
            refine lv_icmp_lt (tgt := 44) hx hb dX6_hasScout_37 (by decide) (fun c_37 => ?_) (fun c_37 => ?_)
            · skip
              refine lv_iconst (v := nI 0) hx hb dX6_hasScout_44 (by decide) ?_
              refine lv_istore_n (lv' := [(3, .int (nI 0)), (0, .ref (a 0)), (1, .int (nI pp)), (2, .int x), (4, .int (nI i))]) hx hb dX6_hasScout_45 rfl hl (by decide) rfl (fun ls hl => ?_)
              refine lv_iinc (v := nI (i + 1)) (lv' := [(4, .int (nI (i + 1))), (3, .int (nI 0)), (0, .ref (a 0)), (1, .int (nI pp)), (2, .int x)]) hx hb dX6_hasScout_46 hl (k := 4) rfl (nI_1 _) (by decide) rfl (fun ls hl => ?_)
              refine lv_goto (tgt := 5) hx hb dX6_hasScout_49 (by decide) ?_
              have hl : lv_has ls 5 [(4, .int (nI (i + 1))), (3, .int (bI (ex (fun s => inP S pp s && oldS S x s) (i + 1)))), (0, .ref (a 0)), (1, .int (nI pp)), (2, .int x)] := cb_loc hl (e := Value.int (bI (ex (fun s => inP S pp s && oldS S x s) (i + 1)))) 1 rfl (congrArg Value.int (show nI 0 = bI (ex (fun s => inP S pp s && oldS S x s) (i + 1)) from (bI_eq0 (by show (ex (fun s => inP S pp s && oldS S x s) i || (decide (c_pat S i = nI pp) && decide (x ≤ c_age S i))) = false; rw [c_15, decide_eq_true c_26, decide_eq_false (Int32.not_le.mpr c_37)]; rfl))))
              exact ih_5 (i + 1) (by omega) (by omega) ls (lv_sub hl [2, 3, 4, 1, 0] rfl)
            · skip
              refine lv_iconst (v := nI 1) hx hb dX6_hasScout_40 (by decide) ?_
              refine lv_goto (tgt := 45) hx hb dX6_hasScout_41 (by decide) ?_
              refine lv_istore_n (lv' := [(3, .int (nI 1)), (0, .ref (a 0)), (1, .int (nI pp)), (2, .int x), (4, .int (nI i))]) hx hb dX6_hasScout_45 rfl hl (by decide) rfl (fun ls hl => ?_)
              refine lv_iinc (v := nI (i + 1)) (lv' := [(4, .int (nI (i + 1))), (3, .int (nI 1)), (0, .ref (a 0)), (1, .int (nI pp)), (2, .int x)]) hx hb dX6_hasScout_46 hl (k := 4) rfl (nI_1 _) (by decide) rfl (fun ls hl => ?_)
              refine lv_goto (tgt := 5) hx hb dX6_hasScout_49 (by decide) ?_
              have hl : lv_has ls 5 [(4, .int (nI (i + 1))), (3, .int (bI (ex (fun s => inP S pp s && oldS S x s) (i + 1)))), (0, .ref (a 0)), (1, .int (nI pp)), (2, .int x)] := cb_loc hl (e := Value.int (bI (ex (fun s => inP S pp s && oldS S x s) (i + 1)))) 1 rfl (congrArg Value.int (show nI 1 = bI (ex (fun s => inP S pp s && oldS S x s) (i + 1)) from (bI_eq1 (by show (ex (fun s => inP S pp s && oldS S x s) i || (decide (c_pat S i = nI pp) && decide (x ≤ c_age S i))) = true; rw [c_15, decide_eq_true c_26, decide_eq_true (Int32.not_lt.mp c_37)]; rfl))))
              exact ih_5 (i + 1) (by omega) (by omega) ls (lv_sub hl [2, 3, 4, 1, 0] rfl)
  have hl : lv_has ls 5 [(4, .int (nI 0)), (3, .int (bI (ex (fun s => inP S pp s && oldS S x s) 0))), (0, .ref (a 0)), (1, .int (nI pp)), (2, .int x)] := cb_loc hl (e := Value.int (bI (ex (fun s => inP S pp s && oldS S x s) 0))) 1 rfl (congrArg Value.int (show nI 0 = bI (ex (fun s => inP S pp s && oldS S x s) 0) from (bI_eq0 rfl)))
  exact L_5 (c_ns S + 1) 0 (by omega) (by omega) ls (lv_sub hl [2, 3, 4, 1, 0] rfl)
abbrev rm_X6_canBeGiven : Room := { frames := 2, cells := 0, slots := 0, locals := 44 }
set_option maxHeartbeats 4000000 in
set_option maxRecDepth 100000 in
theorem c_X6_canBeGiven (l : Launch) (dC : Nat → ClassId) (dI : Nat → Nat → Nat) (a : Nat → Nat) (k : Nat → ClassId) (S : cs_S) (th : Nat) (d : Nat) (q : Nat) (pp : Nat) (hd : d ≤ 60) (hq : q < 5) (hp : pp < 6) (hI : Inv S) : Met l yX6_canBeGiven wsX6_canBeGiven rm_X6_canBeGiven (va_Pc [.ref (a 0), .int (nI d), .int (nI q), .int (nI pp)] (cR dC dI (mb_w a k S th) (mb_ty k))) (vp_Si (fun r => r = bI (canG S d q pp))) 0 0 (fun _ => False) := by
  refine Met.ofW (cc := cX6_canBeGiven) (maxL := 6) (ret := (some .boolean)) (by decide) rfl ?_
  intro p e s m args below meth c s₁ B hml hv
  obtain ⟨rfl, hP, hK⟩ := hv
  have hx := B.exec
  have hb := B.bytes
  have hr := B.returns
  have hts := atoms_spec (ws := wsX6_canBeGiven) B.pre
  have hown : s.vm.findClass RX6 = some m.cls := findClass_of_methodNamed B.named
  have hlocks := B.notSynchronized
  obtain ⟨Q, hQ⟩ : ∃ Q, Q = MQ below (vp_Si (fun r => r = bI (canG S d q pp))) ([.ref (a 0), .int (nI d), .int (nI q), .int (nI pp)] : List Value).toArray s 0 0 (fun _ => False) := ⟨_, rfl⟩
  show W p l e rm_X6_canBeGiven s m _ below meth c s.heap [] 0 0 (MQ below _ _ _ _ _ _) _
  rw [← hQ]
  obtain ⟨⟨hday, hnp, hns, hnt, hnf, hnm, hnb, hme⟩, hpat, hage, hten, hcnt, hplc, heat, hned, hhld, hbad, hbad0, hbag⟩ := id hI
  have hl := lv_entry ([.ref (a 0), .int (nI d), .int (nI q), .int (nI pp)]) (n := 6) (Nat.le_of_ble_eq_true rfl)
  rw [lg_entry_eq]
  generalize (lg_sl ([.ref (a 0), .int (nI d), .int (nI q), .int (nI pp)]) ++ List.replicate (6 - (lg_sl ([.ref (a 0), .int (nI d), .int (nI q), .int (nI pp)])).length) Slot.unset).toArray = ls at hl ⊢
  have hl : lv_has ls 6 [(0, .ref (a 0)), (1, .int (nI d)), (2, .int (nI q)), (3, .int (nI pp))] := hl
  refine lv_aload_n hx hb dX6_canBeGiven_0 rfl (lv_at hl 0 rfl) ?_
  refine lv_iload_n hx hb dX6_canBeGiven_1 rfl (lv_at hl 3 rfl) ?_
  refine lv_iload_n hx hb dX6_canBeGiven_2 rfl (lv_at hl 2 rfl) ?_
  refine lv_iconst (v := nI 4) hx hb dX6_canBeGiven_3 (by decide) ?_
  refine lv_icmp_ne (tgt := 12) hx hb dX6_canBeGiven_4 (by decide) (fun c_4 => ?_) (fun c_4 => ?_)
  · have c_4 : q ≠ 4 := cb_ne (by omega) (by omega) c_4
    refine lv_iconst (v := nI 0) hx hb dX6_canBeGiven_12 (by decide) ?_
    refine vp_callSi (W.runV (As := [.int (nI pp), .int (nI 0)]) (rest := []) ⟨hx, hb, hml, hown, hts⟩ (c_X6_hasScout l dC dI a k S th pp (nI 0) (by omega)) (cwV 2 hts gX6_canBeGiven_X6_hasScout rfl rfl rfl (by decide +kernel) ⟨(Nat.le_of_ble_eq_true rfl), (Nat.le_of_ble_eq_true rfl)⟩) ⟨cR_blind, va_recv hK hP (ci := 6) (q0 := 0) rfl rfl, fun U hU hW => ⟨rfl, cR_of hK hP hU hW⟩⟩ rfl rfl hl.1 rfl (lv_room (Nat.le_of_ble_eq_true rfl)) dX6_canBeGiven_13 ⟨(Nat.le_of_ble_eq_true rfl), (Nat.le_of_ble_eq_true rfl)⟩) (fun r er => ?_)
    subst er
    refine cb_topi (z := bI (hasF S pp (leastA q))) (congrArg bI (by rw [leastA, if_neg c_4, hasF0 hI])) ?_
    refine lv_if_eq (tgt := 47) hx hb dX6_canBeGiven_16 (by decide) (fun c_16 => ?_) (fun c_16 => ?_)
    · have c_16 : (hasF S pp (leastA q)) = false := bI_0 c_16
      refine lv_iconst (v := nI 0) hx hb dX6_canBeGiven_47 (by decide) ?_
      refine lv_istore (lv' := [(4, .int (nI 0)), (0, .ref (a 0)), (1, .int (nI d)), (2, .int (nI q)), (3, .int (nI pp))]) hx hb dX6_canBeGiven_48 hl (by decide) rfl (fun ls hl => ?_)
      refine lv_iconst (v := nI 0) hx hb dX6_canBeGiven_50 (by decide) ?_
      refine lv_istore (lv' := [(5, .int (nI 0)), (4, .int (nI 0)), (0, .ref (a 0)), (1, .int (nI d)), (2, .int (nI q)), (3, .int (nI pp))]) hx hb dX6_canBeGiven_51 hl (by decide) rfl (fun ls hl => ?_)
      have L_53 : ∀ (n i : Nat), i ≤ 5 → 5 + 1 ≤ i + n → ∀ (ls : Array Slot), lv_has ls 6 [(0, .ref (a 0)), (1, .int (nI d)), (2, .int (nI q)), (3, .int (nI pp)), (4, .int (bI (cgK S d q pp i))), (5, .int (nI i))] → W p l e rm_X6_canBeGiven s m ([.ref (a 0), .int (nI d), .int (nI q), .int (nI pp)] : List Value).toArray below meth c s.heap [] 0 0 Q (F0 m 53 ls []) := by
        intro n
        induction n with
        | zero => intro i h1 h2; exact absurd h2 (by omega)
        | succ n ih_53 =>
          intro i hle_53 hfu_53 ls hl
          refine lv_iload hx hb dX6_canBeGiven_53 (lv_at hl 5 rfl) ?_
          refine lv_iconst (v := nI 5) hx hb dX6_canBeGiven_55 (by decide) ?_
          refine lv_icmp_ge (tgt := 94) hx hb dX6_canBeGiven_56 (by decide) (fun c_56 => ?_) (fun c_56 => ?_)
          · have c_56 : 5 ≤ i := cb_ge (by omega) (by omega) c_56
            refine lv_iload hx hb dX6_canBeGiven_94 (lv_at hl 4 rfl) ?_
            rw [hQ]
            exact W.zret (v := bI (cgK S d q pp i)) hx hb hr (nar_bI _) (fun t9 ht9 hW9 => ⟨bI (cgK S d q pp i), rfl, (by rw [show i = 5 by omega, cgK_5]), ht9⟩) (fun q h => absurd h List.not_mem_nil) dX6_canBeGiven_96
          · have c_56 : i < 5 := cb_nge (by omega) (by omega) c_56
            refine lv_iload hx hb dX6_canBeGiven_59 (lv_at hl 4 rfl) ?_
            refine lv_if_eq (tgt := 85) hx hb dX6_canBeGiven_61 (by decide) (fun c_61 => ?_) (fun c_61 => ?_)
            · have c_61 : (cgK S d q pp i) = false := bI_0 c_61
              refine lv_iconst (v := nI 0) hx hb dX6_canBeGiven_85 (by decide) ?_
              refine lv_istore (lv' := [(4, .int (nI 0)), (0, .ref (a 0)), (1, .int (nI d)), (2, .int (nI q)), (3, .int (nI pp)), (5, .int (nI i))]) hx hb dX6_canBeGiven_86 hl (by decide) rfl (fun ls hl => ?_)
              refine lv_iinc (v := nI (i + 1)) (lv' := [(5, .int (nI (i + 1))), (4, .int (nI 0)), (0, .ref (a 0)), (1, .int (nI d)), (2, .int (nI q)), (3, .int (nI pp))]) hx hb dX6_canBeGiven_88 hl (k := 5) rfl (nI_1 _) (by decide) rfl (fun ls hl => ?_)
              refine lv_goto (tgt := 53) hx hb dX6_canBeGiven_91 (by decide) ?_
              have hl : lv_has ls 6 [(5, .int (nI (i + 1))), (4, .int (bI (cgK S d q pp (i + 1)))), (0, .ref (a 0)), (1, .int (nI d)), (2, .int (nI q)), (3, .int (nI pp))] := cb_loc hl (e := Value.int (bI (cgK S d q pp (i + 1)))) 1 rfl (congrArg Value.int (show nI 0 = bI (cgK S d q pp (i + 1)) from (bI_eq0 (by rw [cgK_s, c_61]; rfl))))
              exact ih_53 (i + 1) (by omega) (by omega) ls (lv_sub hl [2, 3, 4, 5, 1, 0] rfl)
            · have c_61 : (cgK S d q pp i) = true := bI_n c_61
              refine lv_iload hx hb dX6_canBeGiven_64 (lv_at hl 5 rfl) ?_
              refine lv_iload_n hx hb dX6_canBeGiven_66 rfl (lv_at hl 2 rfl) ?_
              refine lv_icmp_eq (tgt := 81) hx hb dX6_canBeGiven_67 (by decide) (fun c_67 => ?_) (fun c_67 => ?_)
              · have c_67 : i = q := cb_eq (by omega) (by omega) c_67
                refine lv_iconst (v := nI 1) hx hb dX6_canBeGiven_81 (by decide) ?_
                refine lv_goto (tgt := 86) hx hb dX6_canBeGiven_82 (by decide) ?_
                refine lv_istore (lv' := [(4, .int (nI 1)), (0, .ref (a 0)), (1, .int (nI d)), (2, .int (nI q)), (3, .int (nI pp)), (5, .int (nI i))]) hx hb dX6_canBeGiven_86 hl (by decide) rfl (fun ls hl => ?_)
                refine lv_iinc (v := nI (i + 1)) (lv' := [(5, .int (nI (i + 1))), (4, .int (nI 1)), (0, .ref (a 0)), (1, .int (nI d)), (2, .int (nI q)), (3, .int (nI pp))]) hx hb dX6_canBeGiven_88 hl (k := 5) rfl (nI_1 _) (by decide) rfl (fun ls hl => ?_)
                refine lv_goto (tgt := 53) hx hb dX6_canBeGiven_91 (by decide) ?_
                have hl : lv_has ls 6 [(5, .int (nI (i + 1))), (4, .int (bI (cgK S d q pp (i + 1)))), (0, .ref (a 0)), (1, .int (nI d)), (2, .int (nI q)), (3, .int (nI pp))] := cb_loc hl (e := Value.int (bI (cgK S d q pp (i + 1)))) 1 rfl (congrArg Value.int (show nI 1 = bI (cgK S d q pp (i + 1)) from (bI_eq1 (by rw [cgK_s, c_61, dOt_same c_67]; rfl))))
                exact ih_53 (i + 1) (by omega) (by omega) ls (lv_sub hl [2, 3, 4, 5, 1, 0] rfl)
              · have c_67 : i ≠ q := cb_ne (by omega) (by omega) c_67
                refine lv_aload_n hx hb dX6_canBeGiven_70 rfl (lv_at hl 0 rfl) ?_
                refine lv_iload_n hx hb dX6_canBeGiven_71 rfl (lv_at hl 1 rfl) ?_
                refine lv_iload hx hb dX6_canBeGiven_72 (lv_at hl 5 rfl) ?_
                refine vp_callSi (W.runV (As := [.int (nI d), .int (nI i)]) (rest := []) ⟨hx, hb, hml, hown, hts⟩ (c_X6_at l dC dI a k S th (nI d) i (by omega)) (cwV 2 hts gX6_canBeGiven_X6_at rfl rfl rfl (by decide +kernel) ⟨(Nat.le_of_ble_eq_true rfl), (Nat.le_of_ble_eq_true rfl)⟩) ⟨cR_blind, va_recv hK hP (ci := 6) (q0 := 0) rfl rfl, fun U hU hW => ⟨rfl, cR_of hK hP hU hW⟩⟩ rfl rfl hl.1 rfl (lv_room (Nat.le_of_ble_eq_true rfl)) dX6_canBeGiven_74 ⟨(Nat.le_of_ble_eq_true rfl), (Nat.le_of_ble_eq_true rfl)⟩) (fun r er => ?_)
                subst er
                refine cb_topi (z := c_hld S (d * 5 + i)) (hol_nI hd) ?_
                refine lv_iload_n hx hb dX6_canBeGiven_77 rfl (lv_at hl 3 rfl) ?_
                refine lv_icmp_eq (tgt := 85) hx hb dX6_canBeGiven_78 (by decide) (fun c_78 => ?_) (fun c_78 => ?_)
                · skip
                  refine lv_iconst (v := nI 0) hx hb dX6_canBeGiven_85 (by decide) ?_
                  refine lv_istore (lv' := [(4, .int (nI 0)), (0, .ref (a 0)), (1, .int (nI d)), (2, .int (nI q)), (3, .int (nI pp)), (5, .int (nI i))]) hx hb dX6_canBeGiven_86 hl (by decide) rfl (fun ls hl => ?_)
                  refine lv_iinc (v := nI (i + 1)) (lv' := [(5, .int (nI (i + 1))), (4, .int (nI 0)), (0, .ref (a 0)), (1, .int (nI d)), (2, .int (nI q)), (3, .int (nI pp))]) hx hb dX6_canBeGiven_88 hl (k := 5) rfl (nI_1 _) (by decide) rfl (fun ls hl => ?_)
                  refine lv_goto (tgt := 53) hx hb dX6_canBeGiven_91 (by decide) ?_
                  have hl : lv_has ls 6 [(5, .int (nI (i + 1))), (4, .int (bI (cgK S d q pp (i + 1)))), (0, .ref (a 0)), (1, .int (nI d)), (2, .int (nI q)), (3, .int (nI pp))] := cb_loc hl (e := Value.int (bI (cgK S d q pp (i + 1)))) 1 rfl (congrArg Value.int (show nI 0 = bI (cgK S d q pp (i + 1)) from (bI_eq0 (by rw [cgK_s, c_61, dOt_oth c_67, decide_eq_true c_78]; rfl))))
                  exact ih_53 (i + 1) (by omega) (by omega) ls (lv_sub hl [2, 3, 4, 5, 1, 0] rfl)
                · skip
                  refine lv_iconst (v := nI 1) hx hb dX6_canBeGiven_81 (by decide) ?_
                  refine lv_goto (tgt := 86) hx hb dX6_canBeGiven_82 (by decide) ?_
                  refine lv_istore (lv' := [(4, .int (nI 1)), (0, .ref (a 0)), (1, .int (nI d)), (2, .int (nI q)), (3, .int (nI pp)), (5, .int (nI i))]) hx hb dX6_canBeGiven_86 hl (by decide) rfl (fun ls hl => ?_)
                  refine lv_iinc (v := nI (i + 1)) (lv' := [(5, .int (nI (i + 1))), (4, .int (nI 1)), (0, .ref (a 0)), (1, .int (nI d)), (2, .int (nI q)), (3, .int (nI pp))]) hx hb dX6_canBeGiven_88 hl (k := 5) rfl (nI_1 _) (by decide) rfl (fun ls hl => ?_)
                  refine lv_goto (tgt := 53) hx hb dX6_canBeGiven_91 (by decide) ?_
                  have hl : lv_has ls 6 [(5, .int (nI (i + 1))), (4, .int (bI (cgK S d q pp (i + 1)))), (0, .ref (a 0)), (1, .int (nI d)), (2, .int (nI q)), (3, .int (nI pp))] := cb_loc hl (e := Value.int (bI (cgK S d q pp (i + 1)))) 1 rfl (congrArg Value.int (show nI 1 = bI (cgK S d q pp (i + 1)) from (bI_eq1 (by rw [cgK_s, c_61, dOt_oth c_67, decide_eq_false c_78]; rfl))))
                  exact ih_53 (i + 1) (by omega) (by omega) ls (lv_sub hl [2, 3, 4, 5, 1, 0] rfl)
      have hl : lv_has ls 6 [(5, .int (nI 0)), (4, .int (bI (cgK S d q pp 0))), (0, .ref (a 0)), (1, .int (nI d)), (2, .int (nI q)), (3, .int (nI pp))] := cb_loc hl (e := Value.int (bI (cgK S d q pp 0))) 1 rfl (congrArg Value.int (show nI 0 = bI (cgK S d q pp 0) from (bI_eq0 (by unfold cgK; rw [c_16]; rfl))))
      exact L_53 (5 + 1) 0 (by omega) (by omega) ls (lv_sub hl [2, 3, 4, 5, 1, 0] rfl)
    · have c_16 : (hasF S pp (leastA q)) = true := bI_n c_16
      refine lv_aload_n hx hb dX6_canBeGiven_19 rfl (lv_at hl 0 rfl) ?_
      refine lv_iload_n hx hb dX6_canBeGiven_20 rfl (lv_at hl 1 rfl) ?_
      refine lv_iconst (v := nI 1) hx hb dX6_canBeGiven_21 (by decide) ?_
      refine lv_isub hx hb dX6_canBeGiven_22 ?_
      refine lv_iload_n hx hb dX6_canBeGiven_23 rfl (lv_at hl 2 rfl) ?_
      refine vp_callSi (W.runV (As := [.int ((nI d) - (nI 1)), .int (nI q)]) (rest := []) ⟨hx, hb, hml, hown, hts⟩ (c_X6_at l dC dI a k S th ((nI d) - (nI 1)) q (by omega)) (cwV 2 hts gX6_canBeGiven_X6_at rfl rfl rfl (by decide +kernel) ⟨(Nat.le_of_ble_eq_true rfl), (Nat.le_of_ble_eq_true rfl)⟩) ⟨cR_blind, va_recv hK hP (ci := 6) (q0 := 0) rfl rfl, fun U hU hW => ⟨rfl, cR_of hK hP hU hW⟩⟩ rfl rfl hl.1 rfl (lv_room (Nat.le_of_ble_eq_true rfl)) dX6_canBeGiven_24 ⟨(Nat.le_of_ble_eq_true rfl), (Nat.le_of_ble_eq_true rfl)⟩) (fun r er => ?_)
      subst er
      refine lv_iload_n hx hb dX6_canBeGiven_27 rfl (lv_at hl 3 rfl) ?_
      refine lv_icmp_eq (tgt := 47) hx hb dX6_canBeGiven_28 (by decide) (fun c_28 => ?_) (fun c_28 => ?_)
      · skip
        refine lv_iconst (v := nI 0) hx hb dX6_canBeGiven_47 (by decide) ?_
        refine lv_istore (lv' := [(4, .int (nI 0)), (0, .ref (a 0)), (1, .int (nI d)), (2, .int (nI q)), (3, .int (nI pp))]) hx hb dX6_canBeGiven_48 hl (by decide) rfl (fun ls hl => ?_)
        refine lv_iconst (v := nI 0) hx hb dX6_canBeGiven_50 (by decide) ?_
        refine lv_istore (lv' := [(5, .int (nI 0)), (4, .int (nI 0)), (0, .ref (a 0)), (1, .int (nI d)), (2, .int (nI q)), (3, .int (nI pp))]) hx hb dX6_canBeGiven_51 hl (by decide) rfl (fun ls hl => ?_)
        have L_53 : ∀ (n i : Nat), i ≤ 5 → 5 + 1 ≤ i + n → ∀ (ls : Array Slot), lv_has ls 6 [(0, .ref (a 0)), (1, .int (nI d)), (2, .int (nI q)), (3, .int (nI pp)), (4, .int (bI (cgK S d q pp i))), (5, .int (nI i))] → W p l e rm_X6_canBeGiven s m ([.ref (a 0), .int (nI d), .int (nI q), .int (nI pp)] : List Value).toArray below meth c s.heap [] 0 0 Q (F0 m 53 ls []) := by
          intro n
          induction n with
          | zero => intro i h1 h2; exact absurd h2 (by omega)
          | succ n ih_53 =>
            intro i hle_53 hfu_53 ls hl
            refine lv_iload hx hb dX6_canBeGiven_53 (lv_at hl 5 rfl) ?_
            refine lv_iconst (v := nI 5) hx hb dX6_canBeGiven_55 (by decide) ?_
            refine lv_icmp_ge (tgt := 94) hx hb dX6_canBeGiven_56 (by decide) (fun c_56 => ?_) (fun c_56 => ?_)
            · have c_56 : 5 ≤ i := cb_ge (by omega) (by omega) c_56
              refine lv_iload hx hb dX6_canBeGiven_94 (lv_at hl 4 rfl) ?_
              rw [hQ]
              exact W.zret (v := bI (cgK S d q pp i)) hx hb hr (nar_bI _) (fun t9 ht9 hW9 => ⟨bI (cgK S d q pp i), rfl, (by rw [show i = 5 by omega, cgK_5]), ht9⟩) (fun q h => absurd h List.not_mem_nil) dX6_canBeGiven_96
            · have c_56 : i < 5 := cb_nge (by omega) (by omega) c_56
              refine lv_iload hx hb dX6_canBeGiven_59 (lv_at hl 4 rfl) ?_
              refine lv_if_eq (tgt := 85) hx hb dX6_canBeGiven_61 (by decide) (fun c_61 => ?_) (fun c_61 => ?_)
              · have c_61 : (cgK S d q pp i) = false := bI_0 c_61
                refine lv_iconst (v := nI 0) hx hb dX6_canBeGiven_85 (by decide) ?_
                refine lv_istore (lv' := [(4, .int (nI 0)), (0, .ref (a 0)), (1, .int (nI d)), (2, .int (nI q)), (3, .int (nI pp)), (5, .int (nI i))]) hx hb dX6_canBeGiven_86 hl (by decide) rfl (fun ls hl => ?_)
                refine lv_iinc (v := nI (i + 1)) (lv' := [(5, .int (nI (i + 1))), (4, .int (nI 0)), (0, .ref (a 0)), (1, .int (nI d)), (2, .int (nI q)), (3, .int (nI pp))]) hx hb dX6_canBeGiven_88 hl (k := 5) rfl (nI_1 _) (by decide) rfl (fun ls hl => ?_)
                refine lv_goto (tgt := 53) hx hb dX6_canBeGiven_91 (by decide) ?_
                have hl : lv_has ls 6 [(5, .int (nI (i + 1))), (4, .int (bI (cgK S d q pp (i + 1)))), (0, .ref (a 0)), (1, .int (nI d)), (2, .int (nI q)), (3, .int (nI pp))] := cb_loc hl (e := Value.int (bI (cgK S d q pp (i + 1)))) 1 rfl (congrArg Value.int (show nI 0 = bI (cgK S d q pp (i + 1)) from (bI_eq0 (by rw [cgK_s, c_61]; rfl))))
                exact ih_53 (i + 1) (by omega) (by omega) ls (lv_sub hl [2, 3, 4, 5, 1, 0] rfl)
              · have c_61 : (cgK S d q pp i) = true := bI_n c_61
                refine lv_iload hx hb dX6_canBeGiven_64 (lv_at hl 5 rfl) ?_
                refine lv_iload_n hx hb dX6_canBeGiven_66 rfl (lv_at hl 2 rfl) ?_
                refine lv_icmp_eq (tgt := 81) hx hb dX6_canBeGiven_67 (by decide) (fun c_67 => ?_) (fun c_67 => ?_)
                · have c_67 : i = q := cb_eq (by omega) (by omega) c_67
                  refine lv_iconst (v := nI 1) hx hb dX6_canBeGiven_81 (by decide) ?_
                  refine lv_goto (tgt := 86) hx hb dX6_canBeGiven_82 (by decide) ?_
                  refine lv_istore (lv' := [(4, .int (nI 1)), (0, .ref (a 0)), (1, .int (nI d)), (2, .int (nI q)), (3, .int (nI pp)), (5, .int (nI i))]) hx hb dX6_canBeGiven_86 hl (by decide) rfl (fun ls hl => ?_)
                  refine lv_iinc (v := nI (i + 1)) (lv' := [(5, .int (nI (i + 1))), (4, .int (nI 1)), (0, .ref (a 0)), (1, .int (nI d)), (2, .int (nI q)), (3, .int (nI pp))]) hx hb dX6_canBeGiven_88 hl (k := 5) rfl (nI_1 _) (by decide) rfl (fun ls hl => ?_)
                  refine lv_goto (tgt := 53) hx hb dX6_canBeGiven_91 (by decide) ?_
                  have hl : lv_has ls 6 [(5, .int (nI (i + 1))), (4, .int (bI (cgK S d q pp (i + 1)))), (0, .ref (a 0)), (1, .int (nI d)), (2, .int (nI q)), (3, .int (nI pp))] := cb_loc hl (e := Value.int (bI (cgK S d q pp (i + 1)))) 1 rfl (congrArg Value.int (show nI 1 = bI (cgK S d q pp (i + 1)) from (bI_eq1 (by rw [cgK_s, c_61, dOt_same c_67]; rfl))))
                  exact ih_53 (i + 1) (by omega) (by omega) ls (lv_sub hl [2, 3, 4, 5, 1, 0] rfl)
                · have c_67 : i ≠ q := cb_ne (by omega) (by omega) c_67
                  refine lv_aload_n hx hb dX6_canBeGiven_70 rfl (lv_at hl 0 rfl) ?_
                  refine lv_iload_n hx hb dX6_canBeGiven_71 rfl (lv_at hl 1 rfl) ?_
                  refine lv_iload hx hb dX6_canBeGiven_72 (lv_at hl 5 rfl) ?_
                  refine vp_callSi (W.runV (As := [.int (nI d), .int (nI i)]) (rest := []) ⟨hx, hb, hml, hown, hts⟩ (c_X6_at l dC dI a k S th (nI d) i (by omega)) (cwV 2 hts gX6_canBeGiven_X6_at rfl rfl rfl (by decide +kernel) ⟨(Nat.le_of_ble_eq_true rfl), (Nat.le_of_ble_eq_true rfl)⟩) ⟨cR_blind, va_recv hK hP (ci := 6) (q0 := 0) rfl rfl, fun U hU hW => ⟨rfl, cR_of hK hP hU hW⟩⟩ rfl rfl hl.1 rfl (lv_room (Nat.le_of_ble_eq_true rfl)) dX6_canBeGiven_74 ⟨(Nat.le_of_ble_eq_true rfl), (Nat.le_of_ble_eq_true rfl)⟩) (fun r er => ?_)
                  subst er
                  refine cb_topi (z := c_hld S (d * 5 + i)) (hol_nI hd) ?_
                  refine lv_iload_n hx hb dX6_canBeGiven_77 rfl (lv_at hl 3 rfl) ?_
                  refine lv_icmp_eq (tgt := 85) hx hb dX6_canBeGiven_78 (by decide) (fun c_78 => ?_) (fun c_78 => ?_)
                  · skip
                    refine lv_iconst (v := nI 0) hx hb dX6_canBeGiven_85 (by decide) ?_
                    refine lv_istore (lv' := [(4, .int (nI 0)), (0, .ref (a 0)), (1, .int (nI d)), (2, .int (nI q)), (3, .int (nI pp)), (5, .int (nI i))]) hx hb dX6_canBeGiven_86 hl (by decide) rfl (fun ls hl => ?_)
                    refine lv_iinc (v := nI (i + 1)) (lv' := [(5, .int (nI (i + 1))), (4, .int (nI 0)), (0, .ref (a 0)), (1, .int (nI d)), (2, .int (nI q)), (3, .int (nI pp))]) hx hb dX6_canBeGiven_88 hl (k := 5) rfl (nI_1 _) (by decide) rfl (fun ls hl => ?_)
                    refine lv_goto (tgt := 53) hx hb dX6_canBeGiven_91 (by decide) ?_
                    have hl : lv_has ls 6 [(5, .int (nI (i + 1))), (4, .int (bI (cgK S d q pp (i + 1)))), (0, .ref (a 0)), (1, .int (nI d)), (2, .int (nI q)), (3, .int (nI pp))] := cb_loc hl (e := Value.int (bI (cgK S d q pp (i + 1)))) 1 rfl (congrArg Value.int (show nI 0 = bI (cgK S d q pp (i + 1)) from (bI_eq0 (by rw [cgK_s, c_61, dOt_oth c_67, decide_eq_true c_78]; rfl))))
                    exact ih_53 (i + 1) (by omega) (by omega) ls (lv_sub hl [2, 3, 4, 5, 1, 0] rfl)
                  · skip
                    refine lv_iconst (v := nI 1) hx hb dX6_canBeGiven_81 (by decide) ?_
                    refine lv_goto (tgt := 86) hx hb dX6_canBeGiven_82 (by decide) ?_
                    refine lv_istore (lv' := [(4, .int (nI 1)), (0, .ref (a 0)), (1, .int (nI d)), (2, .int (nI q)), (3, .int (nI pp)), (5, .int (nI i))]) hx hb dX6_canBeGiven_86 hl (by decide) rfl (fun ls hl => ?_)
                    refine lv_iinc (v := nI (i + 1)) (lv' := [(5, .int (nI (i + 1))), (4, .int (nI 1)), (0, .ref (a 0)), (1, .int (nI d)), (2, .int (nI q)), (3, .int (nI pp))]) hx hb dX6_canBeGiven_88 hl (k := 5) rfl (nI_1 _) (by decide) rfl (fun ls hl => ?_)
                    refine lv_goto (tgt := 53) hx hb dX6_canBeGiven_91 (by decide) ?_
                    have hl : lv_has ls 6 [(5, .int (nI (i + 1))), (4, .int (bI (cgK S d q pp (i + 1)))), (0, .ref (a 0)), (1, .int (nI d)), (2, .int (nI q)), (3, .int (nI pp))] := cb_loc hl (e := Value.int (bI (cgK S d q pp (i + 1)))) 1 rfl (congrArg Value.int (show nI 1 = bI (cgK S d q pp (i + 1)) from (bI_eq1 (by rw [cgK_s, c_61, dOt_oth c_67, decide_eq_false c_78]; rfl))))
                    exact ih_53 (i + 1) (by omega) (by omega) ls (lv_sub hl [2, 3, 4, 5, 1, 0] rfl)
        have hl : lv_has ls 6 [(5, .int (nI 0)), (4, .int (bI (cgK S d q pp 0))), (0, .ref (a 0)), (1, .int (nI d)), (2, .int (nI q)), (3, .int (nI pp))] := cb_loc hl (e := Value.int (bI (cgK S d q pp 0))) 1 rfl (congrArg Value.int (show nI 0 = bI (cgK S d q pp 0) from (bI_eq0 (by unfold cgK; rw [decide_eq_true c_28]; simp))))
        exact L_53 (5 + 1) 0 (by omega) (by omega) ls (lv_sub hl [2, 3, 4, 5, 1, 0] rfl)
      · skip
        refine lv_aload_n hx hb dX6_canBeGiven_31 rfl (lv_at hl 0 rfl) ?_
        refine lv_iload_n hx hb dX6_canBeGiven_32 rfl (lv_at hl 1 rfl) ?_
        refine lv_iconst (v := nI 1) hx hb dX6_canBeGiven_33 (by decide) ?_
        refine lv_iadd hx hb dX6_canBeGiven_34 ?_
        refine cb_topi (nI_add _ _) ?_
        refine lv_iload_n hx hb dX6_canBeGiven_35 rfl (lv_at hl 2 rfl) ?_
        refine vp_callSi (W.runV (As := [.int (nI (d + 1)), .int (nI q)]) (rest := []) ⟨hx, hb, hml, hown, hts⟩ (c_X6_at l dC dI a k S th (nI (d + 1)) q (by omega)) (cwV 2 hts gX6_canBeGiven_X6_at rfl rfl rfl (by decide +kernel) ⟨(Nat.le_of_ble_eq_true rfl), (Nat.le_of_ble_eq_true rfl)⟩) ⟨cR_blind, va_recv hK hP (ci := 6) (q0 := 0) rfl rfl, fun U hU hW => ⟨rfl, cR_of hK hP hU hW⟩⟩ rfl rfl hl.1 rfl (lv_room (Nat.le_of_ble_eq_true rfl)) dX6_canBeGiven_36 ⟨(Nat.le_of_ble_eq_true rfl), (Nat.le_of_ble_eq_true rfl)⟩) (fun r er => ?_)
        subst er
        refine lv_iload_n hx hb dX6_canBeGiven_39 rfl (lv_at hl 3 rfl) ?_
        refine lv_icmp_eq (tgt := 47) hx hb dX6_canBeGiven_40 (by decide) (fun c_40 => ?_) (fun c_40 => ?_)
        · skip
          refine lv_iconst (v := nI 0) hx hb dX6_canBeGiven_47 (by decide) ?_
          refine lv_istore (lv' := [(4, .int (nI 0)), (0, .ref (a 0)), (1, .int (nI d)), (2, .int (nI q)), (3, .int (nI pp))]) hx hb dX6_canBeGiven_48 hl (by decide) rfl (fun ls hl => ?_)
          refine lv_iconst (v := nI 0) hx hb dX6_canBeGiven_50 (by decide) ?_
          refine lv_istore (lv' := [(5, .int (nI 0)), (4, .int (nI 0)), (0, .ref (a 0)), (1, .int (nI d)), (2, .int (nI q)), (3, .int (nI pp))]) hx hb dX6_canBeGiven_51 hl (by decide) rfl (fun ls hl => ?_)
          have L_53 : ∀ (n i : Nat), i ≤ 5 → 5 + 1 ≤ i + n → ∀ (ls : Array Slot), lv_has ls 6 [(0, .ref (a 0)), (1, .int (nI d)), (2, .int (nI q)), (3, .int (nI pp)), (4, .int (bI (cgK S d q pp i))), (5, .int (nI i))] → W p l e rm_X6_canBeGiven s m ([.ref (a 0), .int (nI d), .int (nI q), .int (nI pp)] : List Value).toArray below meth c s.heap [] 0 0 Q (F0 m 53 ls []) := by
            intro n
            induction n with
            | zero => intro i h1 h2; exact absurd h2 (by omega)
            | succ n ih_53 =>
              intro i hle_53 hfu_53 ls hl
              refine lv_iload hx hb dX6_canBeGiven_53 (lv_at hl 5 rfl) ?_
              refine lv_iconst (v := nI 5) hx hb dX6_canBeGiven_55 (by decide) ?_
              refine lv_icmp_ge (tgt := 94) hx hb dX6_canBeGiven_56 (by decide) (fun c_56 => ?_) (fun c_56 => ?_)
              · have c_56 : 5 ≤ i := cb_ge (by omega) (by omega) c_56
                refine lv_iload hx hb dX6_canBeGiven_94 (lv_at hl 4 rfl) ?_
                rw [hQ]
                exact W.zret (v := bI (cgK S d q pp i)) hx hb hr (nar_bI _) (fun t9 ht9 hW9 => ⟨bI (cgK S d q pp i), rfl, (by rw [show i = 5 by omega, cgK_5]), ht9⟩) (fun q h => absurd h List.not_mem_nil) dX6_canBeGiven_96
              · have c_56 : i < 5 := cb_nge (by omega) (by omega) c_56
                refine lv_iload hx hb dX6_canBeGiven_59 (lv_at hl 4 rfl) ?_
                refine lv_if_eq (tgt := 85) hx hb dX6_canBeGiven_61 (by decide) (fun c_61 => ?_) (fun c_61 => ?_)
                · have c_61 : (cgK S d q pp i) = false := bI_0 c_61
                  refine lv_iconst (v := nI 0) hx hb dX6_canBeGiven_85 (by decide) ?_
                  refine lv_istore (lv' := [(4, .int (nI 0)), (0, .ref (a 0)), (1, .int (nI d)), (2, .int (nI q)), (3, .int (nI pp)), (5, .int (nI i))]) hx hb dX6_canBeGiven_86 hl (by decide) rfl (fun ls hl => ?_)
                  refine lv_iinc (v := nI (i + 1)) (lv' := [(5, .int (nI (i + 1))), (4, .int (nI 0)), (0, .ref (a 0)), (1, .int (nI d)), (2, .int (nI q)), (3, .int (nI pp))]) hx hb dX6_canBeGiven_88 hl (k := 5) rfl (nI_1 _) (by decide) rfl (fun ls hl => ?_)
                  refine lv_goto (tgt := 53) hx hb dX6_canBeGiven_91 (by decide) ?_
                  have hl : lv_has ls 6 [(5, .int (nI (i + 1))), (4, .int (bI (cgK S d q pp (i + 1)))), (0, .ref (a 0)), (1, .int (nI d)), (2, .int (nI q)), (3, .int (nI pp))] := cb_loc hl (e := Value.int (bI (cgK S d q pp (i + 1)))) 1 rfl (congrArg Value.int (show nI 0 = bI (cgK S d q pp (i + 1)) from (bI_eq0 (by rw [cgK_s, c_61]; rfl))))
                  exact ih_53 (i + 1) (by omega) (by omega) ls (lv_sub hl [2, 3, 4, 5, 1, 0] rfl)
                · have c_61 : (cgK S d q pp i) = true := bI_n c_61
                  refine lv_iload hx hb dX6_canBeGiven_64 (lv_at hl 5 rfl) ?_
                  refine lv_iload_n hx hb dX6_canBeGiven_66 rfl (lv_at hl 2 rfl) ?_
                  refine lv_icmp_eq (tgt := 81) hx hb dX6_canBeGiven_67 (by decide) (fun c_67 => ?_) (fun c_67 => ?_)
                  · have c_67 : i = q := cb_eq (by omega) (by omega) c_67
                    refine lv_iconst (v := nI 1) hx hb dX6_canBeGiven_81 (by decide) ?_
                    refine lv_goto (tgt := 86) hx hb dX6_canBeGiven_82 (by decide) ?_
                    refine lv_istore (lv' := [(4, .int (nI 1)), (0, .ref (a 0)), (1, .int (nI d)), (2, .int (nI q)), (3, .int (nI pp)), (5, .int (nI i))]) hx hb dX6_canBeGiven_86 hl (by decide) rfl (fun ls hl => ?_)
                    refine lv_iinc (v := nI (i + 1)) (lv' := [(5, .int (nI (i + 1))), (4, .int (nI 1)), (0, .ref (a 0)), (1, .int (nI d)), (2, .int (nI q)), (3, .int (nI pp))]) hx hb dX6_canBeGiven_88 hl (k := 5) rfl (nI_1 _) (by decide) rfl (fun ls hl => ?_)
                    refine lv_goto (tgt := 53) hx hb dX6_canBeGiven_91 (by decide) ?_
                    have hl : lv_has ls 6 [(5, .int (nI (i + 1))), (4, .int (bI (cgK S d q pp (i + 1)))), (0, .ref (a 0)), (1, .int (nI d)), (2, .int (nI q)), (3, .int (nI pp))] := cb_loc hl (e := Value.int (bI (cgK S d q pp (i + 1)))) 1 rfl (congrArg Value.int (show nI 1 = bI (cgK S d q pp (i + 1)) from (bI_eq1 (by rw [cgK_s, c_61, dOt_same c_67]; rfl))))
                    exact ih_53 (i + 1) (by omega) (by omega) ls (lv_sub hl [2, 3, 4, 5, 1, 0] rfl)
                  · have c_67 : i ≠ q := cb_ne (by omega) (by omega) c_67
                    refine lv_aload_n hx hb dX6_canBeGiven_70 rfl (lv_at hl 0 rfl) ?_
                    refine lv_iload_n hx hb dX6_canBeGiven_71 rfl (lv_at hl 1 rfl) ?_
                    refine lv_iload hx hb dX6_canBeGiven_72 (lv_at hl 5 rfl) ?_
                    refine vp_callSi (W.runV (As := [.int (nI d), .int (nI i)]) (rest := []) ⟨hx, hb, hml, hown, hts⟩ (c_X6_at l dC dI a k S th (nI d) i (by omega)) (cwV 2 hts gX6_canBeGiven_X6_at rfl rfl rfl (by decide +kernel) ⟨(Nat.le_of_ble_eq_true rfl), (Nat.le_of_ble_eq_true rfl)⟩) ⟨cR_blind, va_recv hK hP (ci := 6) (q0 := 0) rfl rfl, fun U hU hW => ⟨rfl, cR_of hK hP hU hW⟩⟩ rfl rfl hl.1 rfl (lv_room (Nat.le_of_ble_eq_true rfl)) dX6_canBeGiven_74 ⟨(Nat.le_of_ble_eq_true rfl), (Nat.le_of_ble_eq_true rfl)⟩) (fun r er => ?_)
                    subst er
                    refine cb_topi (z := c_hld S (d * 5 + i)) (hol_nI hd) ?_
                    refine lv_iload_n hx hb dX6_canBeGiven_77 rfl (lv_at hl 3 rfl) ?_
                    refine lv_icmp_eq (tgt := 85) hx hb dX6_canBeGiven_78 (by decide) (fun c_78 => ?_) (fun c_78 => ?_)
                    · skip
                      refine lv_iconst (v := nI 0) hx hb dX6_canBeGiven_85 (by decide) ?_
                      refine lv_istore (lv' := [(4, .int (nI 0)), (0, .ref (a 0)), (1, .int (nI d)), (2, .int (nI q)), (3, .int (nI pp)), (5, .int (nI i))]) hx hb dX6_canBeGiven_86 hl (by decide) rfl (fun ls hl => ?_)
                      refine lv_iinc (v := nI (i + 1)) (lv' := [(5, .int (nI (i + 1))), (4, .int (nI 0)), (0, .ref (a 0)), (1, .int (nI d)), (2, .int (nI q)), (3, .int (nI pp))]) hx hb dX6_canBeGiven_88 hl (k := 5) rfl (nI_1 _) (by decide) rfl (fun ls hl => ?_)
                      refine lv_goto (tgt := 53) hx hb dX6_canBeGiven_91 (by decide) ?_
                      have hl : lv_has ls 6 [(5, .int (nI (i + 1))), (4, .int (bI (cgK S d q pp (i + 1)))), (0, .ref (a 0)), (1, .int (nI d)), (2, .int (nI q)), (3, .int (nI pp))] := cb_loc hl (e := Value.int (bI (cgK S d q pp (i + 1)))) 1 rfl (congrArg Value.int (show nI 0 = bI (cgK S d q pp (i + 1)) from (bI_eq0 (by rw [cgK_s, c_61, dOt_oth c_67, decide_eq_true c_78]; rfl))))
                      exact ih_53 (i + 1) (by omega) (by omega) ls (lv_sub hl [2, 3, 4, 5, 1, 0] rfl)
                    · skip
                      refine lv_iconst (v := nI 1) hx hb dX6_canBeGiven_81 (by decide) ?_
                      refine lv_goto (tgt := 86) hx hb dX6_canBeGiven_82 (by decide) ?_
                      refine lv_istore (lv' := [(4, .int (nI 1)), (0, .ref (a 0)), (1, .int (nI d)), (2, .int (nI q)), (3, .int (nI pp)), (5, .int (nI i))]) hx hb dX6_canBeGiven_86 hl (by decide) rfl (fun ls hl => ?_)
                      refine lv_iinc (v := nI (i + 1)) (lv' := [(5, .int (nI (i + 1))), (4, .int (nI 1)), (0, .ref (a 0)), (1, .int (nI d)), (2, .int (nI q)), (3, .int (nI pp))]) hx hb dX6_canBeGiven_88 hl (k := 5) rfl (nI_1 _) (by decide) rfl (fun ls hl => ?_)
                      refine lv_goto (tgt := 53) hx hb dX6_canBeGiven_91 (by decide) ?_
                      have hl : lv_has ls 6 [(5, .int (nI (i + 1))), (4, .int (bI (cgK S d q pp (i + 1)))), (0, .ref (a 0)), (1, .int (nI d)), (2, .int (nI q)), (3, .int (nI pp))] := cb_loc hl (e := Value.int (bI (cgK S d q pp (i + 1)))) 1 rfl (congrArg Value.int (show nI 1 = bI (cgK S d q pp (i + 1)) from (bI_eq1 (by rw [cgK_s, c_61, dOt_oth c_67, decide_eq_false c_78]; rfl))))
                      exact ih_53 (i + 1) (by omega) (by omega) ls (lv_sub hl [2, 3, 4, 5, 1, 0] rfl)
          have hl : lv_has ls 6 [(5, .int (nI 0)), (4, .int (bI (cgK S d q pp 0))), (0, .ref (a 0)), (1, .int (nI d)), (2, .int (nI q)), (3, .int (nI pp))] := cb_loc hl (e := Value.int (bI (cgK S d q pp 0))) 1 rfl (congrArg Value.int (show nI 0 = bI (cgK S d q pp 0) from (bI_eq0 (by unfold cgK; rw [decide_eq_true c_40]; simp))))
          exact L_53 (5 + 1) 0 (by omega) (by omega) ls (lv_sub hl [2, 3, 4, 5, 1, 0] rfl)
        · skip
          refine lv_iconst (v := nI 1) hx hb dX6_canBeGiven_43 (by decide) ?_
          refine lv_goto (tgt := 48) hx hb dX6_canBeGiven_44 (by decide) ?_
          refine lv_istore (lv' := [(4, .int (nI 1)), (0, .ref (a 0)), (1, .int (nI d)), (2, .int (nI q)), (3, .int (nI pp))]) hx hb dX6_canBeGiven_48 hl (by decide) rfl (fun ls hl => ?_)
          refine lv_iconst (v := nI 0) hx hb dX6_canBeGiven_50 (by decide) ?_
          refine lv_istore (lv' := [(5, .int (nI 0)), (4, .int (nI 1)), (0, .ref (a 0)), (1, .int (nI d)), (2, .int (nI q)), (3, .int (nI pp))]) hx hb dX6_canBeGiven_51 hl (by decide) rfl (fun ls hl => ?_)
          have L_53 : ∀ (n i : Nat), i ≤ 5 → 5 + 1 ≤ i + n → ∀ (ls : Array Slot), lv_has ls 6 [(0, .ref (a 0)), (1, .int (nI d)), (2, .int (nI q)), (3, .int (nI pp)), (4, .int (bI (cgK S d q pp i))), (5, .int (nI i))] → W p l e rm_X6_canBeGiven s m ([.ref (a 0), .int (nI d), .int (nI q), .int (nI pp)] : List Value).toArray below meth c s.heap [] 0 0 Q (F0 m 53 ls []) := by
            intro n
            induction n with
            | zero => intro i h1 h2; exact absurd h2 (by omega)
            | succ n ih_53 =>
              intro i hle_53 hfu_53 ls hl
              refine lv_iload hx hb dX6_canBeGiven_53 (lv_at hl 5 rfl) ?_
              refine lv_iconst (v := nI 5) hx hb dX6_canBeGiven_55 (by decide) ?_
              refine lv_icmp_ge (tgt := 94) hx hb dX6_canBeGiven_56 (by decide) (fun c_56 => ?_) (fun c_56 => ?_)
              · have c_56 : 5 ≤ i := cb_ge (by omega) (by omega) c_56
                refine lv_iload hx hb dX6_canBeGiven_94 (lv_at hl 4 rfl) ?_
                rw [hQ]
                exact W.zret (v := bI (cgK S d q pp i)) hx hb hr (nar_bI _) (fun t9 ht9 hW9 => ⟨bI (cgK S d q pp i), rfl, (by rw [show i = 5 by omega, cgK_5]), ht9⟩) (fun q h => absurd h List.not_mem_nil) dX6_canBeGiven_96
              · have c_56 : i < 5 := cb_nge (by omega) (by omega) c_56
                refine lv_iload hx hb dX6_canBeGiven_59 (lv_at hl 4 rfl) ?_
                refine lv_if_eq (tgt := 85) hx hb dX6_canBeGiven_61 (by decide) (fun c_61 => ?_) (fun c_61 => ?_)
                · have c_61 : (cgK S d q pp i) = false := bI_0 c_61
                  refine lv_iconst (v := nI 0) hx hb dX6_canBeGiven_85 (by decide) ?_
                  refine lv_istore (lv' := [(4, .int (nI 0)), (0, .ref (a 0)), (1, .int (nI d)), (2, .int (nI q)), (3, .int (nI pp)), (5, .int (nI i))]) hx hb dX6_canBeGiven_86 hl (by decide) rfl (fun ls hl => ?_)
                  refine lv_iinc (v := nI (i + 1)) (lv' := [(5, .int (nI (i + 1))), (4, .int (nI 0)), (0, .ref (a 0)), (1, .int (nI d)), (2, .int (nI q)), (3, .int (nI pp))]) hx hb dX6_canBeGiven_88 hl (k := 5) rfl (nI_1 _) (by decide) rfl (fun ls hl => ?_)
                  refine lv_goto (tgt := 53) hx hb dX6_canBeGiven_91 (by decide) ?_
                  have hl : lv_has ls 6 [(5, .int (nI (i + 1))), (4, .int (bI (cgK S d q pp (i + 1)))), (0, .ref (a 0)), (1, .int (nI d)), (2, .int (nI q)), (3, .int (nI pp))] := cb_loc hl (e := Value.int (bI (cgK S d q pp (i + 1)))) 1 rfl (congrArg Value.int (show nI 0 = bI (cgK S d q pp (i + 1)) from (bI_eq0 (by rw [cgK_s, c_61]; rfl))))
                  exact ih_53 (i + 1) (by omega) (by omega) ls (lv_sub hl [2, 3, 4, 5, 1, 0] rfl)
                · have c_61 : (cgK S d q pp i) = true := bI_n c_61
                  refine lv_iload hx hb dX6_canBeGiven_64 (lv_at hl 5 rfl) ?_
                  refine lv_iload_n hx hb dX6_canBeGiven_66 rfl (lv_at hl 2 rfl) ?_
                  refine lv_icmp_eq (tgt := 81) hx hb dX6_canBeGiven_67 (by decide) (fun c_67 => ?_) (fun c_67 => ?_)
                  · have c_67 : i = q := cb_eq (by omega) (by omega) c_67
                    refine lv_iconst (v := nI 1) hx hb dX6_canBeGiven_81 (by decide) ?_
                    refine lv_goto (tgt := 86) hx hb dX6_canBeGiven_82 (by decide) ?_
                    refine lv_istore (lv' := [(4, .int (nI 1)), (0, .ref (a 0)), (1, .int (nI d)), (2, .int (nI q)), (3, .int (nI pp)), (5, .int (nI i))]) hx hb dX6_canBeGiven_86 hl (by decide) rfl (fun ls hl => ?_)
                    refine lv_iinc (v := nI (i + 1)) (lv' := [(5, .int (nI (i + 1))), (4, .int (nI 1)), (0, .ref (a 0)), (1, .int (nI d)), (2, .int (nI q)), (3, .int (nI pp))]) hx hb dX6_canBeGiven_88 hl (k := 5) rfl (nI_1 _) (by decide) rfl (fun ls hl => ?_)
                    refine lv_goto (tgt := 53) hx hb dX6_canBeGiven_91 (by decide) ?_
                    have hl : lv_has ls 6 [(5, .int (nI (i + 1))), (4, .int (bI (cgK S d q pp (i + 1)))), (0, .ref (a 0)), (1, .int (nI d)), (2, .int (nI q)), (3, .int (nI pp))] := cb_loc hl (e := Value.int (bI (cgK S d q pp (i + 1)))) 1 rfl (congrArg Value.int (show nI 1 = bI (cgK S d q pp (i + 1)) from (bI_eq1 (by rw [cgK_s, c_61, dOt_same c_67]; rfl))))
                    exact ih_53 (i + 1) (by omega) (by omega) ls (lv_sub hl [2, 3, 4, 5, 1, 0] rfl)
                  · have c_67 : i ≠ q := cb_ne (by omega) (by omega) c_67
                    refine lv_aload_n hx hb dX6_canBeGiven_70 rfl (lv_at hl 0 rfl) ?_
                    refine lv_iload_n hx hb dX6_canBeGiven_71 rfl (lv_at hl 1 rfl) ?_
                    refine lv_iload hx hb dX6_canBeGiven_72 (lv_at hl 5 rfl) ?_
                    refine vp_callSi (W.runV (As := [.int (nI d), .int (nI i)]) (rest := []) ⟨hx, hb, hml, hown, hts⟩ (c_X6_at l dC dI a k S th (nI d) i (by omega)) (cwV 2 hts gX6_canBeGiven_X6_at rfl rfl rfl (by decide +kernel) ⟨(Nat.le_of_ble_eq_true rfl), (Nat.le_of_ble_eq_true rfl)⟩) ⟨cR_blind, va_recv hK hP (ci := 6) (q0 := 0) rfl rfl, fun U hU hW => ⟨rfl, cR_of hK hP hU hW⟩⟩ rfl rfl hl.1 rfl (lv_room (Nat.le_of_ble_eq_true rfl)) dX6_canBeGiven_74 ⟨(Nat.le_of_ble_eq_true rfl), (Nat.le_of_ble_eq_true rfl)⟩) (fun r er => ?_)
                    subst er
                    refine cb_topi (z := c_hld S (d * 5 + i)) (hol_nI hd) ?_
                    refine lv_iload_n hx hb dX6_canBeGiven_77 rfl (lv_at hl 3 rfl) ?_
                    refine lv_icmp_eq (tgt := 85) hx hb dX6_canBeGiven_78 (by decide) (fun c_78 => ?_) (fun c_78 => ?_)
                    · skip
                      refine lv_iconst (v := nI 0) hx hb dX6_canBeGiven_85 (by decide) ?_
                      refine lv_istore (lv' := [(4, .int (nI 0)), (0, .ref (a 0)), (1, .int (nI d)), (2, .int (nI q)), (3, .int (nI pp)), (5, .int (nI i))]) hx hb dX6_canBeGiven_86 hl (by decide) rfl (fun ls hl => ?_)
                      refine lv_iinc (v := nI (i + 1)) (lv' := [(5, .int (nI (i + 1))), (4, .int (nI 0)), (0, .ref (a 0)), (1, .int (nI d)), (2, .int (nI q)), (3, .int (nI pp))]) hx hb dX6_canBeGiven_88 hl (k := 5) rfl (nI_1 _) (by decide) rfl (fun ls hl => ?_)
                      refine lv_goto (tgt := 53) hx hb dX6_canBeGiven_91 (by decide) ?_
                      have hl : lv_has ls 6 [(5, .int (nI (i + 1))), (4, .int (bI (cgK S d q pp (i + 1)))), (0, .ref (a 0)), (1, .int (nI d)), (2, .int (nI q)), (3, .int (nI pp))] := cb_loc hl (e := Value.int (bI (cgK S d q pp (i + 1)))) 1 rfl (congrArg Value.int (show nI 0 = bI (cgK S d q pp (i + 1)) from (bI_eq0 (by rw [cgK_s, c_61, dOt_oth c_67, decide_eq_true c_78]; rfl))))
                      exact ih_53 (i + 1) (by omega) (by omega) ls (lv_sub hl [2, 3, 4, 5, 1, 0] rfl)
                    · skip
                      refine lv_iconst (v := nI 1) hx hb dX6_canBeGiven_81 (by decide) ?_
                      refine lv_goto (tgt := 86) hx hb dX6_canBeGiven_82 (by decide) ?_
                      refine lv_istore (lv' := [(4, .int (nI 1)), (0, .ref (a 0)), (1, .int (nI d)), (2, .int (nI q)), (3, .int (nI pp)), (5, .int (nI i))]) hx hb dX6_canBeGiven_86 hl (by decide) rfl (fun ls hl => ?_)
                      refine lv_iinc (v := nI (i + 1)) (lv' := [(5, .int (nI (i + 1))), (4, .int (nI 1)), (0, .ref (a 0)), (1, .int (nI d)), (2, .int (nI q)), (3, .int (nI pp))]) hx hb dX6_canBeGiven_88 hl (k := 5) rfl (nI_1 _) (by decide) rfl (fun ls hl => ?_)
                      refine lv_goto (tgt := 53) hx hb dX6_canBeGiven_91 (by decide) ?_
                      have hl : lv_has ls 6 [(5, .int (nI (i + 1))), (4, .int (bI (cgK S d q pp (i + 1)))), (0, .ref (a 0)), (1, .int (nI d)), (2, .int (nI q)), (3, .int (nI pp))] := cb_loc hl (e := Value.int (bI (cgK S d q pp (i + 1)))) 1 rfl (congrArg Value.int (show nI 1 = bI (cgK S d q pp (i + 1)) from (bI_eq1 (by rw [cgK_s, c_61, dOt_oth c_67, decide_eq_false c_78]; rfl))))
                      exact ih_53 (i + 1) (by omega) (by omega) ls (lv_sub hl [2, 3, 4, 5, 1, 0] rfl)
          have hl : lv_has ls 6 [(5, .int (nI 0)), (4, .int (bI (cgK S d q pp 0))), (0, .ref (a 0)), (1, .int (nI d)), (2, .int (nI q)), (3, .int (nI pp))] := cb_loc hl (e := Value.int (bI (cgK S d q pp 0))) 1 rfl (congrArg Value.int (show nI 1 = bI (cgK S d q pp 0) from (bI_eq1 (by unfold cgK; rw [c_16, decide_eq_false c_28, decide_eq_false c_40]; rfl))))
          exact L_53 (5 + 1) 0 (by omega) (by omega) ls (lv_sub hl [2, 3, 4, 5, 1, 0] rfl)
  · have c_4 : q = 4 := cb_nne (by omega) (by omega) c_4
    refine lv_bipush (v := nI 12) hx hb dX6_canBeGiven_7 (by decide) ?_
    refine lv_goto (tgt := 13) hx hb dX6_canBeGiven_9 (by decide) ?_
    refine vp_callSi (W.runV (As := [.int (nI pp), .int (nI 12)]) (rest := []) ⟨hx, hb, hml, hown, hts⟩ (c_X6_hasScout l dC dI a k S th pp (nI 12) (by omega)) (cwV 2 hts gX6_canBeGiven_X6_hasScout rfl rfl rfl (by decide +kernel) ⟨(Nat.le_of_ble_eq_true rfl), (Nat.le_of_ble_eq_true rfl)⟩) ⟨cR_blind, va_recv hK hP (ci := 6) (q0 := 0) rfl rfl, fun U hU hW => ⟨rfl, cR_of hK hP hU hW⟩⟩ rfl rfl hl.1 rfl (lv_room (Nat.le_of_ble_eq_true rfl)) dX6_canBeGiven_13 ⟨(Nat.le_of_ble_eq_true rfl), (Nat.le_of_ble_eq_true rfl)⟩) (fun r er => ?_)
    subst er
    refine cb_topi (z := bI (hasF S pp (leastA q))) (congrArg bI (by rw [leastA, if_pos c_4])) ?_
    refine lv_if_eq (tgt := 47) hx hb dX6_canBeGiven_16 (by decide) (fun c_16 => ?_) (fun c_16 => ?_)
    · have c_16 : (hasF S pp (leastA q)) = false := bI_0 c_16
      refine lv_iconst (v := nI 0) hx hb dX6_canBeGiven_47 (by decide) ?_
      refine lv_istore (lv' := [(4, .int (nI 0)), (0, .ref (a 0)), (1, .int (nI d)), (2, .int (nI q)), (3, .int (nI pp))]) hx hb dX6_canBeGiven_48 hl (by decide) rfl (fun ls hl => ?_)
      refine lv_iconst (v := nI 0) hx hb dX6_canBeGiven_50 (by decide) ?_
      refine lv_istore (lv' := [(5, .int (nI 0)), (4, .int (nI 0)), (0, .ref (a 0)), (1, .int (nI d)), (2, .int (nI q)), (3, .int (nI pp))]) hx hb dX6_canBeGiven_51 hl (by decide) rfl (fun ls hl => ?_)
      have L_53 : ∀ (n i : Nat), i ≤ 5 → 5 + 1 ≤ i + n → ∀ (ls : Array Slot), lv_has ls 6 [(0, .ref (a 0)), (1, .int (nI d)), (2, .int (nI q)), (3, .int (nI pp)), (4, .int (bI (cgK S d q pp i))), (5, .int (nI i))] → W p l e rm_X6_canBeGiven s m ([.ref (a 0), .int (nI d), .int (nI q), .int (nI pp)] : List Value).toArray below meth c s.heap [] 0 0 Q (F0 m 53 ls []) := by
        intro n
        induction n with
        | zero => intro i h1 h2; exact absurd h2 (by omega)
        | succ n ih_53 =>
          intro i hle_53 hfu_53 ls hl
          refine lv_iload hx hb dX6_canBeGiven_53 (lv_at hl 5 rfl) ?_
          refine lv_iconst (v := nI 5) hx hb dX6_canBeGiven_55 (by decide) ?_
          refine lv_icmp_ge (tgt := 94) hx hb dX6_canBeGiven_56 (by decide) (fun c_56 => ?_) (fun c_56 => ?_)
          · have c_56 : 5 ≤ i := cb_ge (by omega) (by omega) c_56
            refine lv_iload hx hb dX6_canBeGiven_94 (lv_at hl 4 rfl) ?_
            rw [hQ]
            exact W.zret (v := bI (cgK S d q pp i)) hx hb hr (nar_bI _) (fun t9 ht9 hW9 => ⟨bI (cgK S d q pp i), rfl, (by rw [show i = 5 by omega, cgK_5]), ht9⟩) (fun q h => absurd h List.not_mem_nil) dX6_canBeGiven_96
          · have c_56 : i < 5 := cb_nge (by omega) (by omega) c_56
            refine lv_iload hx hb dX6_canBeGiven_59 (lv_at hl 4 rfl) ?_
            refine lv_if_eq (tgt := 85) hx hb dX6_canBeGiven_61 (by decide) (fun c_61 => ?_) (fun c_61 => ?_)
            · have c_61 : (cgK S d q pp i) = false := bI_0 c_61
              refine lv_iconst (v := nI 0) hx hb dX6_canBeGiven_85 (by decide) ?_
              refine lv_istore (lv' := [(4, .int (nI 0)), (0, .ref (a 0)), (1, .int (nI d)), (2, .int (nI q)), (3, .int (nI pp)), (5, .int (nI i))]) hx hb dX6_canBeGiven_86 hl (by decide) rfl (fun ls hl => ?_)
              refine lv_iinc (v := nI (i + 1)) (lv' := [(5, .int (nI (i + 1))), (4, .int (nI 0)), (0, .ref (a 0)), (1, .int (nI d)), (2, .int (nI q)), (3, .int (nI pp))]) hx hb dX6_canBeGiven_88 hl (k := 5) rfl (nI_1 _) (by decide) rfl (fun ls hl => ?_)
              refine lv_goto (tgt := 53) hx hb dX6_canBeGiven_91 (by decide) ?_
              have hl : lv_has ls 6 [(5, .int (nI (i + 1))), (4, .int (bI (cgK S d q pp (i + 1)))), (0, .ref (a 0)), (1, .int (nI d)), (2, .int (nI q)), (3, .int (nI pp))] := cb_loc hl (e := Value.int (bI (cgK S d q pp (i + 1)))) 1 rfl (congrArg Value.int (show nI 0 = bI (cgK S d q pp (i + 1)) from (bI_eq0 (by rw [cgK_s, c_61]; rfl))))
              exact ih_53 (i + 1) (by omega) (by omega) ls (lv_sub hl [2, 3, 4, 5, 1, 0] rfl)
            · have c_61 : (cgK S d q pp i) = true := bI_n c_61
              refine lv_iload hx hb dX6_canBeGiven_64 (lv_at hl 5 rfl) ?_
              refine lv_iload_n hx hb dX6_canBeGiven_66 rfl (lv_at hl 2 rfl) ?_
              refine lv_icmp_eq (tgt := 81) hx hb dX6_canBeGiven_67 (by decide) (fun c_67 => ?_) (fun c_67 => ?_)
              · have c_67 : i = q := cb_eq (by omega) (by omega) c_67
                refine lv_iconst (v := nI 1) hx hb dX6_canBeGiven_81 (by decide) ?_
                refine lv_goto (tgt := 86) hx hb dX6_canBeGiven_82 (by decide) ?_
                refine lv_istore (lv' := [(4, .int (nI 1)), (0, .ref (a 0)), (1, .int (nI d)), (2, .int (nI q)), (3, .int (nI pp)), (5, .int (nI i))]) hx hb dX6_canBeGiven_86 hl (by decide) rfl (fun ls hl => ?_)
                refine lv_iinc (v := nI (i + 1)) (lv' := [(5, .int (nI (i + 1))), (4, .int (nI 1)), (0, .ref (a 0)), (1, .int (nI d)), (2, .int (nI q)), (3, .int (nI pp))]) hx hb dX6_canBeGiven_88 hl (k := 5) rfl (nI_1 _) (by decide) rfl (fun ls hl => ?_)
                refine lv_goto (tgt := 53) hx hb dX6_canBeGiven_91 (by decide) ?_
                have hl : lv_has ls 6 [(5, .int (nI (i + 1))), (4, .int (bI (cgK S d q pp (i + 1)))), (0, .ref (a 0)), (1, .int (nI d)), (2, .int (nI q)), (3, .int (nI pp))] := cb_loc hl (e := Value.int (bI (cgK S d q pp (i + 1)))) 1 rfl (congrArg Value.int (show nI 1 = bI (cgK S d q pp (i + 1)) from (bI_eq1 (by rw [cgK_s, c_61, dOt_same c_67]; rfl))))
                exact ih_53 (i + 1) (by omega) (by omega) ls (lv_sub hl [2, 3, 4, 5, 1, 0] rfl)
              · have c_67 : i ≠ q := cb_ne (by omega) (by omega) c_67
                refine lv_aload_n hx hb dX6_canBeGiven_70 rfl (lv_at hl 0 rfl) ?_
                refine lv_iload_n hx hb dX6_canBeGiven_71 rfl (lv_at hl 1 rfl) ?_
                refine lv_iload hx hb dX6_canBeGiven_72 (lv_at hl 5 rfl) ?_
                refine vp_callSi (W.runV (As := [.int (nI d), .int (nI i)]) (rest := []) ⟨hx, hb, hml, hown, hts⟩ (c_X6_at l dC dI a k S th (nI d) i (by omega)) (cwV 2 hts gX6_canBeGiven_X6_at rfl rfl rfl (by decide +kernel) ⟨(Nat.le_of_ble_eq_true rfl), (Nat.le_of_ble_eq_true rfl)⟩) ⟨cR_blind, va_recv hK hP (ci := 6) (q0 := 0) rfl rfl, fun U hU hW => ⟨rfl, cR_of hK hP hU hW⟩⟩ rfl rfl hl.1 rfl (lv_room (Nat.le_of_ble_eq_true rfl)) dX6_canBeGiven_74 ⟨(Nat.le_of_ble_eq_true rfl), (Nat.le_of_ble_eq_true rfl)⟩) (fun r er => ?_)
                subst er
                refine cb_topi (z := c_hld S (d * 5 + i)) (hol_nI hd) ?_
                refine lv_iload_n hx hb dX6_canBeGiven_77 rfl (lv_at hl 3 rfl) ?_
                refine lv_icmp_eq (tgt := 85) hx hb dX6_canBeGiven_78 (by decide) (fun c_78 => ?_) (fun c_78 => ?_)
                · skip
                  refine lv_iconst (v := nI 0) hx hb dX6_canBeGiven_85 (by decide) ?_
                  refine lv_istore (lv' := [(4, .int (nI 0)), (0, .ref (a 0)), (1, .int (nI d)), (2, .int (nI q)), (3, .int (nI pp)), (5, .int (nI i))]) hx hb dX6_canBeGiven_86 hl (by decide) rfl (fun ls hl => ?_)
                  refine lv_iinc (v := nI (i + 1)) (lv' := [(5, .int (nI (i + 1))), (4, .int (nI 0)), (0, .ref (a 0)), (1, .int (nI d)), (2, .int (nI q)), (3, .int (nI pp))]) hx hb dX6_canBeGiven_88 hl (k := 5) rfl (nI_1 _) (by decide) rfl (fun ls hl => ?_)
                  refine lv_goto (tgt := 53) hx hb dX6_canBeGiven_91 (by decide) ?_
                  have hl : lv_has ls 6 [(5, .int (nI (i + 1))), (4, .int (bI (cgK S d q pp (i + 1)))), (0, .ref (a 0)), (1, .int (nI d)), (2, .int (nI q)), (3, .int (nI pp))] := cb_loc hl (e := Value.int (bI (cgK S d q pp (i + 1)))) 1 rfl (congrArg Value.int (show nI 0 = bI (cgK S d q pp (i + 1)) from (bI_eq0 (by rw [cgK_s, c_61, dOt_oth c_67, decide_eq_true c_78]; rfl))))
                  exact ih_53 (i + 1) (by omega) (by omega) ls (lv_sub hl [2, 3, 4, 5, 1, 0] rfl)
                · skip
                  refine lv_iconst (v := nI 1) hx hb dX6_canBeGiven_81 (by decide) ?_
                  refine lv_goto (tgt := 86) hx hb dX6_canBeGiven_82 (by decide) ?_
                  refine lv_istore (lv' := [(4, .int (nI 1)), (0, .ref (a 0)), (1, .int (nI d)), (2, .int (nI q)), (3, .int (nI pp)), (5, .int (nI i))]) hx hb dX6_canBeGiven_86 hl (by decide) rfl (fun ls hl => ?_)
                  refine lv_iinc (v := nI (i + 1)) (lv' := [(5, .int (nI (i + 1))), (4, .int (nI 1)), (0, .ref (a 0)), (1, .int (nI d)), (2, .int (nI q)), (3, .int (nI pp))]) hx hb dX6_canBeGiven_88 hl (k := 5) rfl (nI_1 _) (by decide) rfl (fun ls hl => ?_)
                  refine lv_goto (tgt := 53) hx hb dX6_canBeGiven_91 (by decide) ?_
                  have hl : lv_has ls 6 [(5, .int (nI (i + 1))), (4, .int (bI (cgK S d q pp (i + 1)))), (0, .ref (a 0)), (1, .int (nI d)), (2, .int (nI q)), (3, .int (nI pp))] := cb_loc hl (e := Value.int (bI (cgK S d q pp (i + 1)))) 1 rfl (congrArg Value.int (show nI 1 = bI (cgK S d q pp (i + 1)) from (bI_eq1 (by rw [cgK_s, c_61, dOt_oth c_67, decide_eq_false c_78]; rfl))))
                  exact ih_53 (i + 1) (by omega) (by omega) ls (lv_sub hl [2, 3, 4, 5, 1, 0] rfl)
      have hl : lv_has ls 6 [(5, .int (nI 0)), (4, .int (bI (cgK S d q pp 0))), (0, .ref (a 0)), (1, .int (nI d)), (2, .int (nI q)), (3, .int (nI pp))] := cb_loc hl (e := Value.int (bI (cgK S d q pp 0))) 1 rfl (congrArg Value.int (show nI 0 = bI (cgK S d q pp 0) from (bI_eq0 (by unfold cgK; rw [c_16]; rfl))))
      exact L_53 (5 + 1) 0 (by omega) (by omega) ls (lv_sub hl [2, 3, 4, 5, 1, 0] rfl)
    · have c_16 : (hasF S pp (leastA q)) = true := bI_n c_16
      refine lv_aload_n hx hb dX6_canBeGiven_19 rfl (lv_at hl 0 rfl) ?_
      refine lv_iload_n hx hb dX6_canBeGiven_20 rfl (lv_at hl 1 rfl) ?_
      refine lv_iconst (v := nI 1) hx hb dX6_canBeGiven_21 (by decide) ?_
      refine lv_isub hx hb dX6_canBeGiven_22 ?_
      refine lv_iload_n hx hb dX6_canBeGiven_23 rfl (lv_at hl 2 rfl) ?_
      refine vp_callSi (W.runV (As := [.int ((nI d) - (nI 1)), .int (nI q)]) (rest := []) ⟨hx, hb, hml, hown, hts⟩ (c_X6_at l dC dI a k S th ((nI d) - (nI 1)) q (by omega)) (cwV 2 hts gX6_canBeGiven_X6_at rfl rfl rfl (by decide +kernel) ⟨(Nat.le_of_ble_eq_true rfl), (Nat.le_of_ble_eq_true rfl)⟩) ⟨cR_blind, va_recv hK hP (ci := 6) (q0 := 0) rfl rfl, fun U hU hW => ⟨rfl, cR_of hK hP hU hW⟩⟩ rfl rfl hl.1 rfl (lv_room (Nat.le_of_ble_eq_true rfl)) dX6_canBeGiven_24 ⟨(Nat.le_of_ble_eq_true rfl), (Nat.le_of_ble_eq_true rfl)⟩) (fun r er => ?_)
      subst er
      refine lv_iload_n hx hb dX6_canBeGiven_27 rfl (lv_at hl 3 rfl) ?_
      refine lv_icmp_eq (tgt := 47) hx hb dX6_canBeGiven_28 (by decide) (fun c_28 => ?_) (fun c_28 => ?_)
      · skip
        refine lv_iconst (v := nI 0) hx hb dX6_canBeGiven_47 (by decide) ?_
        refine lv_istore (lv' := [(4, .int (nI 0)), (0, .ref (a 0)), (1, .int (nI d)), (2, .int (nI q)), (3, .int (nI pp))]) hx hb dX6_canBeGiven_48 hl (by decide) rfl (fun ls hl => ?_)
        refine lv_iconst (v := nI 0) hx hb dX6_canBeGiven_50 (by decide) ?_
        refine lv_istore (lv' := [(5, .int (nI 0)), (4, .int (nI 0)), (0, .ref (a 0)), (1, .int (nI d)), (2, .int (nI q)), (3, .int (nI pp))]) hx hb dX6_canBeGiven_51 hl (by decide) rfl (fun ls hl => ?_)
        have L_53 : ∀ (n i : Nat), i ≤ 5 → 5 + 1 ≤ i + n → ∀ (ls : Array Slot), lv_has ls 6 [(0, .ref (a 0)), (1, .int (nI d)), (2, .int (nI q)), (3, .int (nI pp)), (4, .int (bI (cgK S d q pp i))), (5, .int (nI i))] → W p l e rm_X6_canBeGiven s m ([.ref (a 0), .int (nI d), .int (nI q), .int (nI pp)] : List Value).toArray below meth c s.heap [] 0 0 Q (F0 m 53 ls []) := by
          intro n
          induction n with
          | zero => intro i h1 h2; exact absurd h2 (by omega)
          | succ n ih_53 =>
            intro i hle_53 hfu_53 ls hl
            refine lv_iload hx hb dX6_canBeGiven_53 (lv_at hl 5 rfl) ?_
            refine lv_iconst (v := nI 5) hx hb dX6_canBeGiven_55 (by decide) ?_
            refine lv_icmp_ge (tgt := 94) hx hb dX6_canBeGiven_56 (by decide) (fun c_56 => ?_) (fun c_56 => ?_)
            · have c_56 : 5 ≤ i := cb_ge (by omega) (by omega) c_56
              refine lv_iload hx hb dX6_canBeGiven_94 (lv_at hl 4 rfl) ?_
              rw [hQ]
              exact W.zret (v := bI (cgK S d q pp i)) hx hb hr (nar_bI _) (fun t9 ht9 hW9 => ⟨bI (cgK S d q pp i), rfl, (by rw [show i = 5 by omega, cgK_5]), ht9⟩) (fun q h => absurd h List.not_mem_nil) dX6_canBeGiven_96
            · have c_56 : i < 5 := cb_nge (by omega) (by omega) c_56
              refine lv_iload hx hb dX6_canBeGiven_59 (lv_at hl 4 rfl) ?_
              refine lv_if_eq (tgt := 85) hx hb dX6_canBeGiven_61 (by decide) (fun c_61 => ?_) (fun c_61 => ?_)
              · have c_61 : (cgK S d q pp i) = false := bI_0 c_61
                refine lv_iconst (v := nI 0) hx hb dX6_canBeGiven_85 (by decide) ?_
                refine lv_istore (lv' := [(4, .int (nI 0)), (0, .ref (a 0)), (1, .int (nI d)), (2, .int (nI q)), (3, .int (nI pp)), (5, .int (nI i))]) hx hb dX6_canBeGiven_86 hl (by decide) rfl (fun ls hl => ?_)
                refine lv_iinc (v := nI (i + 1)) (lv' := [(5, .int (nI (i + 1))), (4, .int (nI 0)), (0, .ref (a 0)), (1, .int (nI d)), (2, .int (nI q)), (3, .int (nI pp))]) hx hb dX6_canBeGiven_88 hl (k := 5) rfl (nI_1 _) (by decide) rfl (fun ls hl => ?_)
                refine lv_goto (tgt := 53) hx hb dX6_canBeGiven_91 (by decide) ?_
                have hl : lv_has ls 6 [(5, .int (nI (i + 1))), (4, .int (bI (cgK S d q pp (i + 1)))), (0, .ref (a 0)), (1, .int (nI d)), (2, .int (nI q)), (3, .int (nI pp))] := cb_loc hl (e := Value.int (bI (cgK S d q pp (i + 1)))) 1 rfl (congrArg Value.int (show nI 0 = bI (cgK S d q pp (i + 1)) from (bI_eq0 (by rw [cgK_s, c_61]; rfl))))
                exact ih_53 (i + 1) (by omega) (by omega) ls (lv_sub hl [2, 3, 4, 5, 1, 0] rfl)
              · have c_61 : (cgK S d q pp i) = true := bI_n c_61
                refine lv_iload hx hb dX6_canBeGiven_64 (lv_at hl 5 rfl) ?_
                refine lv_iload_n hx hb dX6_canBeGiven_66 rfl (lv_at hl 2 rfl) ?_
                refine lv_icmp_eq (tgt := 81) hx hb dX6_canBeGiven_67 (by decide) (fun c_67 => ?_) (fun c_67 => ?_)
                · have c_67 : i = q := cb_eq (by omega) (by omega) c_67
                  refine lv_iconst (v := nI 1) hx hb dX6_canBeGiven_81 (by decide) ?_
                  refine lv_goto (tgt := 86) hx hb dX6_canBeGiven_82 (by decide) ?_
                  refine lv_istore (lv' := [(4, .int (nI 1)), (0, .ref (a 0)), (1, .int (nI d)), (2, .int (nI q)), (3, .int (nI pp)), (5, .int (nI i))]) hx hb dX6_canBeGiven_86 hl (by decide) rfl (fun ls hl => ?_)
                  refine lv_iinc (v := nI (i + 1)) (lv' := [(5, .int (nI (i + 1))), (4, .int (nI 1)), (0, .ref (a 0)), (1, .int (nI d)), (2, .int (nI q)), (3, .int (nI pp))]) hx hb dX6_canBeGiven_88 hl (k := 5) rfl (nI_1 _) (by decide) rfl (fun ls hl => ?_)
                  refine lv_goto (tgt := 53) hx hb dX6_canBeGiven_91 (by decide) ?_
                  have hl : lv_has ls 6 [(5, .int (nI (i + 1))), (4, .int (bI (cgK S d q pp (i + 1)))), (0, .ref (a 0)), (1, .int (nI d)), (2, .int (nI q)), (3, .int (nI pp))] := cb_loc hl (e := Value.int (bI (cgK S d q pp (i + 1)))) 1 rfl (congrArg Value.int (show nI 1 = bI (cgK S d q pp (i + 1)) from (bI_eq1 (by rw [cgK_s, c_61, dOt_same c_67]; rfl))))
                  exact ih_53 (i + 1) (by omega) (by omega) ls (lv_sub hl [2, 3, 4, 5, 1, 0] rfl)
                · have c_67 : i ≠ q := cb_ne (by omega) (by omega) c_67
                  refine lv_aload_n hx hb dX6_canBeGiven_70 rfl (lv_at hl 0 rfl) ?_
                  refine lv_iload_n hx hb dX6_canBeGiven_71 rfl (lv_at hl 1 rfl) ?_
                  refine lv_iload hx hb dX6_canBeGiven_72 (lv_at hl 5 rfl) ?_
                  refine vp_callSi (W.runV (As := [.int (nI d), .int (nI i)]) (rest := []) ⟨hx, hb, hml, hown, hts⟩ (c_X6_at l dC dI a k S th (nI d) i (by omega)) (cwV 2 hts gX6_canBeGiven_X6_at rfl rfl rfl (by decide +kernel) ⟨(Nat.le_of_ble_eq_true rfl), (Nat.le_of_ble_eq_true rfl)⟩) ⟨cR_blind, va_recv hK hP (ci := 6) (q0 := 0) rfl rfl, fun U hU hW => ⟨rfl, cR_of hK hP hU hW⟩⟩ rfl rfl hl.1 rfl (lv_room (Nat.le_of_ble_eq_true rfl)) dX6_canBeGiven_74 ⟨(Nat.le_of_ble_eq_true rfl), (Nat.le_of_ble_eq_true rfl)⟩) (fun r er => ?_)
                  subst er
                  refine cb_topi (z := c_hld S (d * 5 + i)) (hol_nI hd) ?_
                  refine lv_iload_n hx hb dX6_canBeGiven_77 rfl (lv_at hl 3 rfl) ?_
                  refine lv_icmp_eq (tgt := 85) hx hb dX6_canBeGiven_78 (by decide) (fun c_78 => ?_) (fun c_78 => ?_)
                  · skip
                    refine lv_iconst (v := nI 0) hx hb dX6_canBeGiven_85 (by decide) ?_
                    refine lv_istore (lv' := [(4, .int (nI 0)), (0, .ref (a 0)), (1, .int (nI d)), (2, .int (nI q)), (3, .int (nI pp)), (5, .int (nI i))]) hx hb dX6_canBeGiven_86 hl (by decide) rfl (fun ls hl => ?_)
                    refine lv_iinc (v := nI (i + 1)) (lv' := [(5, .int (nI (i + 1))), (4, .int (nI 0)), (0, .ref (a 0)), (1, .int (nI d)), (2, .int (nI q)), (3, .int (nI pp))]) hx hb dX6_canBeGiven_88 hl (k := 5) rfl (nI_1 _) (by decide) rfl (fun ls hl => ?_)
                    refine lv_goto (tgt := 53) hx hb dX6_canBeGiven_91 (by decide) ?_
                    have hl : lv_has ls 6 [(5, .int (nI (i + 1))), (4, .int (bI (cgK S d q pp (i + 1)))), (0, .ref (a 0)), (1, .int (nI d)), (2, .int (nI q)), (3, .int (nI pp))] := cb_loc hl (e := Value.int (bI (cgK S d q pp (i + 1)))) 1 rfl (congrArg Value.int (show nI 0 = bI (cgK S d q pp (i + 1)) from (bI_eq0 (by rw [cgK_s, c_61, dOt_oth c_67, decide_eq_true c_78]; rfl))))
                    exact ih_53 (i + 1) (by omega) (by omega) ls (lv_sub hl [2, 3, 4, 5, 1, 0] rfl)
                  · skip
                    refine lv_iconst (v := nI 1) hx hb dX6_canBeGiven_81 (by decide) ?_
                    refine lv_goto (tgt := 86) hx hb dX6_canBeGiven_82 (by decide) ?_
                    refine lv_istore (lv' := [(4, .int (nI 1)), (0, .ref (a 0)), (1, .int (nI d)), (2, .int (nI q)), (3, .int (nI pp)), (5, .int (nI i))]) hx hb dX6_canBeGiven_86 hl (by decide) rfl (fun ls hl => ?_)
                    refine lv_iinc (v := nI (i + 1)) (lv' := [(5, .int (nI (i + 1))), (4, .int (nI 1)), (0, .ref (a 0)), (1, .int (nI d)), (2, .int (nI q)), (3, .int (nI pp))]) hx hb dX6_canBeGiven_88 hl (k := 5) rfl (nI_1 _) (by decide) rfl (fun ls hl => ?_)
                    refine lv_goto (tgt := 53) hx hb dX6_canBeGiven_91 (by decide) ?_
                    have hl : lv_has ls 6 [(5, .int (nI (i + 1))), (4, .int (bI (cgK S d q pp (i + 1)))), (0, .ref (a 0)), (1, .int (nI d)), (2, .int (nI q)), (3, .int (nI pp))] := cb_loc hl (e := Value.int (bI (cgK S d q pp (i + 1)))) 1 rfl (congrArg Value.int (show nI 1 = bI (cgK S d q pp (i + 1)) from (bI_eq1 (by rw [cgK_s, c_61, dOt_oth c_67, decide_eq_false c_78]; rfl))))
                    exact ih_53 (i + 1) (by omega) (by omega) ls (lv_sub hl [2, 3, 4, 5, 1, 0] rfl)
        have hl : lv_has ls 6 [(5, .int (nI 0)), (4, .int (bI (cgK S d q pp 0))), (0, .ref (a 0)), (1, .int (nI d)), (2, .int (nI q)), (3, .int (nI pp))] := cb_loc hl (e := Value.int (bI (cgK S d q pp 0))) 1 rfl (congrArg Value.int (show nI 0 = bI (cgK S d q pp 0) from (bI_eq0 (by unfold cgK; rw [decide_eq_true c_28]; simp))))
        exact L_53 (5 + 1) 0 (by omega) (by omega) ls (lv_sub hl [2, 3, 4, 5, 1, 0] rfl)
      · skip
        refine lv_aload_n hx hb dX6_canBeGiven_31 rfl (lv_at hl 0 rfl) ?_
        refine lv_iload_n hx hb dX6_canBeGiven_32 rfl (lv_at hl 1 rfl) ?_
        refine lv_iconst (v := nI 1) hx hb dX6_canBeGiven_33 (by decide) ?_
        refine lv_iadd hx hb dX6_canBeGiven_34 ?_
        refine cb_topi (nI_add _ _) ?_
        refine lv_iload_n hx hb dX6_canBeGiven_35 rfl (lv_at hl 2 rfl) ?_
        refine vp_callSi (W.runV (As := [.int (nI (d + 1)), .int (nI q)]) (rest := []) ⟨hx, hb, hml, hown, hts⟩ (c_X6_at l dC dI a k S th (nI (d + 1)) q (by omega)) (cwV 2 hts gX6_canBeGiven_X6_at rfl rfl rfl (by decide +kernel) ⟨(Nat.le_of_ble_eq_true rfl), (Nat.le_of_ble_eq_true rfl)⟩) ⟨cR_blind, va_recv hK hP (ci := 6) (q0 := 0) rfl rfl, fun U hU hW => ⟨rfl, cR_of hK hP hU hW⟩⟩ rfl rfl hl.1 rfl (lv_room (Nat.le_of_ble_eq_true rfl)) dX6_canBeGiven_36 ⟨(Nat.le_of_ble_eq_true rfl), (Nat.le_of_ble_eq_true rfl)⟩) (fun r er => ?_)
        subst er
        refine lv_iload_n hx hb dX6_canBeGiven_39 rfl (lv_at hl 3 rfl) ?_
        refine lv_icmp_eq (tgt := 47) hx hb dX6_canBeGiven_40 (by decide) (fun c_40 => ?_) (fun c_40 => ?_)
        · skip
          refine lv_iconst (v := nI 0) hx hb dX6_canBeGiven_47 (by decide) ?_
          refine lv_istore (lv' := [(4, .int (nI 0)), (0, .ref (a 0)), (1, .int (nI d)), (2, .int (nI q)), (3, .int (nI pp))]) hx hb dX6_canBeGiven_48 hl (by decide) rfl (fun ls hl => ?_)
          refine lv_iconst (v := nI 0) hx hb dX6_canBeGiven_50 (by decide) ?_
          refine lv_istore (lv' := [(5, .int (nI 0)), (4, .int (nI 0)), (0, .ref (a 0)), (1, .int (nI d)), (2, .int (nI q)), (3, .int (nI pp))]) hx hb dX6_canBeGiven_51 hl (by decide) rfl (fun ls hl => ?_)
          have L_53 : ∀ (n i : Nat), i ≤ 5 → 5 + 1 ≤ i + n → ∀ (ls : Array Slot), lv_has ls 6 [(0, .ref (a 0)), (1, .int (nI d)), (2, .int (nI q)), (3, .int (nI pp)), (4, .int (bI (cgK S d q pp i))), (5, .int (nI i))] → W p l e rm_X6_canBeGiven s m ([.ref (a 0), .int (nI d), .int (nI q), .int (nI pp)] : List Value).toArray below meth c s.heap [] 0 0 Q (F0 m 53 ls []) := by
            intro n
            induction n with
            | zero => intro i h1 h2; exact absurd h2 (by omega)
            | succ n ih_53 =>
              intro i hle_53 hfu_53 ls hl
              refine lv_iload hx hb dX6_canBeGiven_53 (lv_at hl 5 rfl) ?_
              refine lv_iconst (v := nI 5) hx hb dX6_canBeGiven_55 (by decide) ?_
              refine lv_icmp_ge (tgt := 94) hx hb dX6_canBeGiven_56 (by decide) (fun c_56 => ?_) (fun c_56 => ?_)
              · have c_56 : 5 ≤ i := cb_ge (by omega) (by omega) c_56
                refine lv_iload hx hb dX6_canBeGiven_94 (lv_at hl 4 rfl) ?_
                rw [hQ]
                exact W.zret (v := bI (cgK S d q pp i)) hx hb hr (nar_bI _) (fun t9 ht9 hW9 => ⟨bI (cgK S d q pp i), rfl, (by rw [show i = 5 by omega, cgK_5]), ht9⟩) (fun q h => absurd h List.not_mem_nil) dX6_canBeGiven_96
              · have c_56 : i < 5 := cb_nge (by omega) (by omega) c_56
                refine lv_iload hx hb dX6_canBeGiven_59 (lv_at hl 4 rfl) ?_
                refine lv_if_eq (tgt := 85) hx hb dX6_canBeGiven_61 (by decide) (fun c_61 => ?_) (fun c_61 => ?_)
                · have c_61 : (cgK S d q pp i) = false := bI_0 c_61
                  refine lv_iconst (v := nI 0) hx hb dX6_canBeGiven_85 (by decide) ?_
                  refine lv_istore (lv' := [(4, .int (nI 0)), (0, .ref (a 0)), (1, .int (nI d)), (2, .int (nI q)), (3, .int (nI pp)), (5, .int (nI i))]) hx hb dX6_canBeGiven_86 hl (by decide) rfl (fun ls hl => ?_)
                  refine lv_iinc (v := nI (i + 1)) (lv' := [(5, .int (nI (i + 1))), (4, .int (nI 0)), (0, .ref (a 0)), (1, .int (nI d)), (2, .int (nI q)), (3, .int (nI pp))]) hx hb dX6_canBeGiven_88 hl (k := 5) rfl (nI_1 _) (by decide) rfl (fun ls hl => ?_)
                  refine lv_goto (tgt := 53) hx hb dX6_canBeGiven_91 (by decide) ?_
                  have hl : lv_has ls 6 [(5, .int (nI (i + 1))), (4, .int (bI (cgK S d q pp (i + 1)))), (0, .ref (a 0)), (1, .int (nI d)), (2, .int (nI q)), (3, .int (nI pp))] := cb_loc hl (e := Value.int (bI (cgK S d q pp (i + 1)))) 1 rfl (congrArg Value.int (show nI 0 = bI (cgK S d q pp (i + 1)) from (bI_eq0 (by rw [cgK_s, c_61]; rfl))))
                  exact ih_53 (i + 1) (by omega) (by omega) ls (lv_sub hl [2, 3, 4, 5, 1, 0] rfl)
                · have c_61 : (cgK S d q pp i) = true := bI_n c_61
                  refine lv_iload hx hb dX6_canBeGiven_64 (lv_at hl 5 rfl) ?_
                  refine lv_iload_n hx hb dX6_canBeGiven_66 rfl (lv_at hl 2 rfl) ?_
                  refine lv_icmp_eq (tgt := 81) hx hb dX6_canBeGiven_67 (by decide) (fun c_67 => ?_) (fun c_67 => ?_)
                  · have c_67 : i = q := cb_eq (by omega) (by omega) c_67
                    refine lv_iconst (v := nI 1) hx hb dX6_canBeGiven_81 (by decide) ?_
                    refine lv_goto (tgt := 86) hx hb dX6_canBeGiven_82 (by decide) ?_
                    refine lv_istore (lv' := [(4, .int (nI 1)), (0, .ref (a 0)), (1, .int (nI d)), (2, .int (nI q)), (3, .int (nI pp)), (5, .int (nI i))]) hx hb dX6_canBeGiven_86 hl (by decide) rfl (fun ls hl => ?_)
                    refine lv_iinc (v := nI (i + 1)) (lv' := [(5, .int (nI (i + 1))), (4, .int (nI 1)), (0, .ref (a 0)), (1, .int (nI d)), (2, .int (nI q)), (3, .int (nI pp))]) hx hb dX6_canBeGiven_88 hl (k := 5) rfl (nI_1 _) (by decide) rfl (fun ls hl => ?_)
                    refine lv_goto (tgt := 53) hx hb dX6_canBeGiven_91 (by decide) ?_
                    have hl : lv_has ls 6 [(5, .int (nI (i + 1))), (4, .int (bI (cgK S d q pp (i + 1)))), (0, .ref (a 0)), (1, .int (nI d)), (2, .int (nI q)), (3, .int (nI pp))] := cb_loc hl (e := Value.int (bI (cgK S d q pp (i + 1)))) 1 rfl (congrArg Value.int (show nI 1 = bI (cgK S d q pp (i + 1)) from (bI_eq1 (by rw [cgK_s, c_61, dOt_same c_67]; rfl))))
                    exact ih_53 (i + 1) (by omega) (by omega) ls (lv_sub hl [2, 3, 4, 5, 1, 0] rfl)
                  · have c_67 : i ≠ q := cb_ne (by omega) (by omega) c_67
                    refine lv_aload_n hx hb dX6_canBeGiven_70 rfl (lv_at hl 0 rfl) ?_
                    refine lv_iload_n hx hb dX6_canBeGiven_71 rfl (lv_at hl 1 rfl) ?_
                    refine lv_iload hx hb dX6_canBeGiven_72 (lv_at hl 5 rfl) ?_
                    refine vp_callSi (W.runV (As := [.int (nI d), .int (nI i)]) (rest := []) ⟨hx, hb, hml, hown, hts⟩ (c_X6_at l dC dI a k S th (nI d) i (by omega)) (cwV 2 hts gX6_canBeGiven_X6_at rfl rfl rfl (by decide +kernel) ⟨(Nat.le_of_ble_eq_true rfl), (Nat.le_of_ble_eq_true rfl)⟩) ⟨cR_blind, va_recv hK hP (ci := 6) (q0 := 0) rfl rfl, fun U hU hW => ⟨rfl, cR_of hK hP hU hW⟩⟩ rfl rfl hl.1 rfl (lv_room (Nat.le_of_ble_eq_true rfl)) dX6_canBeGiven_74 ⟨(Nat.le_of_ble_eq_true rfl), (Nat.le_of_ble_eq_true rfl)⟩) (fun r er => ?_)
                    subst er
                    refine cb_topi (z := c_hld S (d * 5 + i)) (hol_nI hd) ?_
                    refine lv_iload_n hx hb dX6_canBeGiven_77 rfl (lv_at hl 3 rfl) ?_
                    refine lv_icmp_eq (tgt := 85) hx hb dX6_canBeGiven_78 (by decide) (fun c_78 => ?_) (fun c_78 => ?_)
                    · skip
                      refine lv_iconst (v := nI 0) hx hb dX6_canBeGiven_85 (by decide) ?_
                      refine lv_istore (lv' := [(4, .int (nI 0)), (0, .ref (a 0)), (1, .int (nI d)), (2, .int (nI q)), (3, .int (nI pp)), (5, .int (nI i))]) hx hb dX6_canBeGiven_86 hl (by decide) rfl (fun ls hl => ?_)
                      refine lv_iinc (v := nI (i + 1)) (lv' := [(5, .int (nI (i + 1))), (4, .int (nI 0)), (0, .ref (a 0)), (1, .int (nI d)), (2, .int (nI q)), (3, .int (nI pp))]) hx hb dX6_canBeGiven_88 hl (k := 5) rfl (nI_1 _) (by decide) rfl (fun ls hl => ?_)
                      refine lv_goto (tgt := 53) hx hb dX6_canBeGiven_91 (by decide) ?_
                      have hl : lv_has ls 6 [(5, .int (nI (i + 1))), (4, .int (bI (cgK S d q pp (i + 1)))), (0, .ref (a 0)), (1, .int (nI d)), (2, .int (nI q)), (3, .int (nI pp))] := cb_loc hl (e := Value.int (bI (cgK S d q pp (i + 1)))) 1 rfl (congrArg Value.int (show nI 0 = bI (cgK S d q pp (i + 1)) from (bI_eq0 (by rw [cgK_s, c_61, dOt_oth c_67, decide_eq_true c_78]; rfl))))
                      exact ih_53 (i + 1) (by omega) (by omega) ls (lv_sub hl [2, 3, 4, 5, 1, 0] rfl)
                    · skip
                      refine lv_iconst (v := nI 1) hx hb dX6_canBeGiven_81 (by decide) ?_
                      refine lv_goto (tgt := 86) hx hb dX6_canBeGiven_82 (by decide) ?_
                      refine lv_istore (lv' := [(4, .int (nI 1)), (0, .ref (a 0)), (1, .int (nI d)), (2, .int (nI q)), (3, .int (nI pp)), (5, .int (nI i))]) hx hb dX6_canBeGiven_86 hl (by decide) rfl (fun ls hl => ?_)
                      refine lv_iinc (v := nI (i + 1)) (lv' := [(5, .int (nI (i + 1))), (4, .int (nI 1)), (0, .ref (a 0)), (1, .int (nI d)), (2, .int (nI q)), (3, .int (nI pp))]) hx hb dX6_canBeGiven_88 hl (k := 5) rfl (nI_1 _) (by decide) rfl (fun ls hl => ?_)
                      refine lv_goto (tgt := 53) hx hb dX6_canBeGiven_91 (by decide) ?_
                      have hl : lv_has ls 6 [(5, .int (nI (i + 1))), (4, .int (bI (cgK S d q pp (i + 1)))), (0, .ref (a 0)), (1, .int (nI d)), (2, .int (nI q)), (3, .int (nI pp))] := cb_loc hl (e := Value.int (bI (cgK S d q pp (i + 1)))) 1 rfl (congrArg Value.int (show nI 1 = bI (cgK S d q pp (i + 1)) from (bI_eq1 (by rw [cgK_s, c_61, dOt_oth c_67, decide_eq_false c_78]; rfl))))
                      exact ih_53 (i + 1) (by omega) (by omega) ls (lv_sub hl [2, 3, 4, 5, 1, 0] rfl)
          have hl : lv_has ls 6 [(5, .int (nI 0)), (4, .int (bI (cgK S d q pp 0))), (0, .ref (a 0)), (1, .int (nI d)), (2, .int (nI q)), (3, .int (nI pp))] := cb_loc hl (e := Value.int (bI (cgK S d q pp 0))) 1 rfl (congrArg Value.int (show nI 0 = bI (cgK S d q pp 0) from (bI_eq0 (by unfold cgK; rw [decide_eq_true c_40]; simp))))
          exact L_53 (5 + 1) 0 (by omega) (by omega) ls (lv_sub hl [2, 3, 4, 5, 1, 0] rfl)
        · skip
          refine lv_iconst (v := nI 1) hx hb dX6_canBeGiven_43 (by decide) ?_
          refine lv_goto (tgt := 48) hx hb dX6_canBeGiven_44 (by decide) ?_
          refine lv_istore (lv' := [(4, .int (nI 1)), (0, .ref (a 0)), (1, .int (nI d)), (2, .int (nI q)), (3, .int (nI pp))]) hx hb dX6_canBeGiven_48 hl (by decide) rfl (fun ls hl => ?_)
          refine lv_iconst (v := nI 0) hx hb dX6_canBeGiven_50 (by decide) ?_
          refine lv_istore (lv' := [(5, .int (nI 0)), (4, .int (nI 1)), (0, .ref (a 0)), (1, .int (nI d)), (2, .int (nI q)), (3, .int (nI pp))]) hx hb dX6_canBeGiven_51 hl (by decide) rfl (fun ls hl => ?_)
          have L_53 : ∀ (n i : Nat), i ≤ 5 → 5 + 1 ≤ i + n → ∀ (ls : Array Slot), lv_has ls 6 [(0, .ref (a 0)), (1, .int (nI d)), (2, .int (nI q)), (3, .int (nI pp)), (4, .int (bI (cgK S d q pp i))), (5, .int (nI i))] → W p l e rm_X6_canBeGiven s m ([.ref (a 0), .int (nI d), .int (nI q), .int (nI pp)] : List Value).toArray below meth c s.heap [] 0 0 Q (F0 m 53 ls []) := by
            intro n
            induction n with
            | zero => intro i h1 h2; exact absurd h2 (by omega)
            | succ n ih_53 =>
              intro i hle_53 hfu_53 ls hl
              refine lv_iload hx hb dX6_canBeGiven_53 (lv_at hl 5 rfl) ?_
              refine lv_iconst (v := nI 5) hx hb dX6_canBeGiven_55 (by decide) ?_
              refine lv_icmp_ge (tgt := 94) hx hb dX6_canBeGiven_56 (by decide) (fun c_56 => ?_) (fun c_56 => ?_)
              · have c_56 : 5 ≤ i := cb_ge (by omega) (by omega) c_56
                refine lv_iload hx hb dX6_canBeGiven_94 (lv_at hl 4 rfl) ?_
                rw [hQ]
                exact W.zret (v := bI (cgK S d q pp i)) hx hb hr (nar_bI _) (fun t9 ht9 hW9 => ⟨bI (cgK S d q pp i), rfl, (by rw [show i = 5 by omega, cgK_5]), ht9⟩) (fun q h => absurd h List.not_mem_nil) dX6_canBeGiven_96
              · have c_56 : i < 5 := cb_nge (by omega) (by omega) c_56
                refine lv_iload hx hb dX6_canBeGiven_59 (lv_at hl 4 rfl) ?_
                refine lv_if_eq (tgt := 85) hx hb dX6_canBeGiven_61 (by decide) (fun c_61 => ?_) (fun c_61 => ?_)
                · have c_61 : (cgK S d q pp i) = false := bI_0 c_61
                  refine lv_iconst (v := nI 0) hx hb dX6_canBeGiven_85 (by decide) ?_
                  refine lv_istore (lv' := [(4, .int (nI 0)), (0, .ref (a 0)), (1, .int (nI d)), (2, .int (nI q)), (3, .int (nI pp)), (5, .int (nI i))]) hx hb dX6_canBeGiven_86 hl (by decide) rfl (fun ls hl => ?_)
                  refine lv_iinc (v := nI (i + 1)) (lv' := [(5, .int (nI (i + 1))), (4, .int (nI 0)), (0, .ref (a 0)), (1, .int (nI d)), (2, .int (nI q)), (3, .int (nI pp))]) hx hb dX6_canBeGiven_88 hl (k := 5) rfl (nI_1 _) (by decide) rfl (fun ls hl => ?_)
                  refine lv_goto (tgt := 53) hx hb dX6_canBeGiven_91 (by decide) ?_
                  have hl : lv_has ls 6 [(5, .int (nI (i + 1))), (4, .int (bI (cgK S d q pp (i + 1)))), (0, .ref (a 0)), (1, .int (nI d)), (2, .int (nI q)), (3, .int (nI pp))] := cb_loc hl (e := Value.int (bI (cgK S d q pp (i + 1)))) 1 rfl (congrArg Value.int (show nI 0 = bI (cgK S d q pp (i + 1)) from (bI_eq0 (by rw [cgK_s, c_61]; rfl))))
                  exact ih_53 (i + 1) (by omega) (by omega) ls (lv_sub hl [2, 3, 4, 5, 1, 0] rfl)
                · have c_61 : (cgK S d q pp i) = true := bI_n c_61
                  refine lv_iload hx hb dX6_canBeGiven_64 (lv_at hl 5 rfl) ?_
                  refine lv_iload_n hx hb dX6_canBeGiven_66 rfl (lv_at hl 2 rfl) ?_
                  refine lv_icmp_eq (tgt := 81) hx hb dX6_canBeGiven_67 (by decide) (fun c_67 => ?_) (fun c_67 => ?_)
                  · have c_67 : i = q := cb_eq (by omega) (by omega) c_67
                    refine lv_iconst (v := nI 1) hx hb dX6_canBeGiven_81 (by decide) ?_
                    refine lv_goto (tgt := 86) hx hb dX6_canBeGiven_82 (by decide) ?_
                    refine lv_istore (lv' := [(4, .int (nI 1)), (0, .ref (a 0)), (1, .int (nI d)), (2, .int (nI q)), (3, .int (nI pp)), (5, .int (nI i))]) hx hb dX6_canBeGiven_86 hl (by decide) rfl (fun ls hl => ?_)
                    refine lv_iinc (v := nI (i + 1)) (lv' := [(5, .int (nI (i + 1))), (4, .int (nI 1)), (0, .ref (a 0)), (1, .int (nI d)), (2, .int (nI q)), (3, .int (nI pp))]) hx hb dX6_canBeGiven_88 hl (k := 5) rfl (nI_1 _) (by decide) rfl (fun ls hl => ?_)
                    refine lv_goto (tgt := 53) hx hb dX6_canBeGiven_91 (by decide) ?_
                    have hl : lv_has ls 6 [(5, .int (nI (i + 1))), (4, .int (bI (cgK S d q pp (i + 1)))), (0, .ref (a 0)), (1, .int (nI d)), (2, .int (nI q)), (3, .int (nI pp))] := cb_loc hl (e := Value.int (bI (cgK S d q pp (i + 1)))) 1 rfl (congrArg Value.int (show nI 1 = bI (cgK S d q pp (i + 1)) from (bI_eq1 (by rw [cgK_s, c_61, dOt_same c_67]; rfl))))
                    exact ih_53 (i + 1) (by omega) (by omega) ls (lv_sub hl [2, 3, 4, 5, 1, 0] rfl)
                  · have c_67 : i ≠ q := cb_ne (by omega) (by omega) c_67
                    refine lv_aload_n hx hb dX6_canBeGiven_70 rfl (lv_at hl 0 rfl) ?_
                    refine lv_iload_n hx hb dX6_canBeGiven_71 rfl (lv_at hl 1 rfl) ?_
                    refine lv_iload hx hb dX6_canBeGiven_72 (lv_at hl 5 rfl) ?_
                    refine vp_callSi (W.runV (As := [.int (nI d), .int (nI i)]) (rest := []) ⟨hx, hb, hml, hown, hts⟩ (c_X6_at l dC dI a k S th (nI d) i (by omega)) (cwV 2 hts gX6_canBeGiven_X6_at rfl rfl rfl (by decide +kernel) ⟨(Nat.le_of_ble_eq_true rfl), (Nat.le_of_ble_eq_true rfl)⟩) ⟨cR_blind, va_recv hK hP (ci := 6) (q0 := 0) rfl rfl, fun U hU hW => ⟨rfl, cR_of hK hP hU hW⟩⟩ rfl rfl hl.1 rfl (lv_room (Nat.le_of_ble_eq_true rfl)) dX6_canBeGiven_74 ⟨(Nat.le_of_ble_eq_true rfl), (Nat.le_of_ble_eq_true rfl)⟩) (fun r er => ?_)
                    subst er
                    refine cb_topi (z := c_hld S (d * 5 + i)) (hol_nI hd) ?_
                    refine lv_iload_n hx hb dX6_canBeGiven_77 rfl (lv_at hl 3 rfl) ?_
                    refine lv_icmp_eq (tgt := 85) hx hb dX6_canBeGiven_78 (by decide) (fun c_78 => ?_) (fun c_78 => ?_)
                    · skip
                      refine lv_iconst (v := nI 0) hx hb dX6_canBeGiven_85 (by decide) ?_
                      refine lv_istore (lv' := [(4, .int (nI 0)), (0, .ref (a 0)), (1, .int (nI d)), (2, .int (nI q)), (3, .int (nI pp)), (5, .int (nI i))]) hx hb dX6_canBeGiven_86 hl (by decide) rfl (fun ls hl => ?_)
                      refine lv_iinc (v := nI (i + 1)) (lv' := [(5, .int (nI (i + 1))), (4, .int (nI 0)), (0, .ref (a 0)), (1, .int (nI d)), (2, .int (nI q)), (3, .int (nI pp))]) hx hb dX6_canBeGiven_88 hl (k := 5) rfl (nI_1 _) (by decide) rfl (fun ls hl => ?_)
                      refine lv_goto (tgt := 53) hx hb dX6_canBeGiven_91 (by decide) ?_
                      have hl : lv_has ls 6 [(5, .int (nI (i + 1))), (4, .int (bI (cgK S d q pp (i + 1)))), (0, .ref (a 0)), (1, .int (nI d)), (2, .int (nI q)), (3, .int (nI pp))] := cb_loc hl (e := Value.int (bI (cgK S d q pp (i + 1)))) 1 rfl (congrArg Value.int (show nI 0 = bI (cgK S d q pp (i + 1)) from (bI_eq0 (by rw [cgK_s, c_61, dOt_oth c_67, decide_eq_true c_78]; rfl))))
                      exact ih_53 (i + 1) (by omega) (by omega) ls (lv_sub hl [2, 3, 4, 5, 1, 0] rfl)
                    · skip
                      refine lv_iconst (v := nI 1) hx hb dX6_canBeGiven_81 (by decide) ?_
                      refine lv_goto (tgt := 86) hx hb dX6_canBeGiven_82 (by decide) ?_
                      refine lv_istore (lv' := [(4, .int (nI 1)), (0, .ref (a 0)), (1, .int (nI d)), (2, .int (nI q)), (3, .int (nI pp)), (5, .int (nI i))]) hx hb dX6_canBeGiven_86 hl (by decide) rfl (fun ls hl => ?_)
                      refine lv_iinc (v := nI (i + 1)) (lv' := [(5, .int (nI (i + 1))), (4, .int (nI 1)), (0, .ref (a 0)), (1, .int (nI d)), (2, .int (nI q)), (3, .int (nI pp))]) hx hb dX6_canBeGiven_88 hl (k := 5) rfl (nI_1 _) (by decide) rfl (fun ls hl => ?_)
                      refine lv_goto (tgt := 53) hx hb dX6_canBeGiven_91 (by decide) ?_
                      have hl : lv_has ls 6 [(5, .int (nI (i + 1))), (4, .int (bI (cgK S d q pp (i + 1)))), (0, .ref (a 0)), (1, .int (nI d)), (2, .int (nI q)), (3, .int (nI pp))] := cb_loc hl (e := Value.int (bI (cgK S d q pp (i + 1)))) 1 rfl (congrArg Value.int (show nI 1 = bI (cgK S d q pp (i + 1)) from (bI_eq1 (by rw [cgK_s, c_61, dOt_oth c_67, decide_eq_false c_78]; rfl))))
                      exact ih_53 (i + 1) (by omega) (by omega) ls (lv_sub hl [2, 3, 4, 5, 1, 0] rfl)
          have hl : lv_has ls 6 [(5, .int (nI 0)), (4, .int (bI (cgK S d q pp 0))), (0, .ref (a 0)), (1, .int (nI d)), (2, .int (nI q)), (3, .int (nI pp))] := cb_loc hl (e := Value.int (bI (cgK S d q pp 0))) 1 rfl (congrArg Value.int (show nI 1 = bI (cgK S d q pp 0) from (bI_eq1 (by unfold cgK; rw [c_16, decide_eq_false c_28, decide_eq_false c_40]; rfl))))
          exact L_53 (5 + 1) 0 (by omega) (by omega) ls (lv_sub hl [2, 3, 4, 5, 1, 0] rfl)
abbrev rm_X6_pointsOf : Room := { frames := 0, cells := 1, slots := 5, locals := 0 }
set_option maxHeartbeats 4000000 in
set_option maxRecDepth 100000 in
theorem c_X6_pointsOf (l : Launch) (dC : Nat → ClassId) (dI : Nat → Nat → Nat) (a : Nat → Nat) (k : Nat → ClassId) (S : cs_S) (th : Nat) (sz : Nat) (pp : Nat) : Met l yX6_pointsOf wsX6_pointsOf rm_X6_pointsOf (va_Pc [.ref (a 0), .int (nI pp)] (cT dC dI sz (mb_w a k S th) (mb_ty k))) (va_Qi (fun (r : Int32) (_ : Unit) => r = pts S pp) (fun _ t => cB dC dI (va_A (mb_w a k S th) sz) (mb_w a k S th) (mb_ty k) t) (va_A (mb_w a k S th) sz)) 1 5 (va_A (mb_w a k S th) sz) := by
  refine Met.ofW (cc := cX6_pointsOf) (maxL := 5) (ret := (some .int)) (by decide) rfl ?_
  intro p e s m args below meth c s₁ B hml hv
  obtain ⟨rfl, hsz, hP, hK, hD0⟩ := hv
  have hx := B.exec
  have hb := B.bytes
  have hr := B.returns
  have hts := atoms_spec (ws := wsX6_pointsOf) B.pre
  have hown : s.vm.findClass RX6 = some m.cls := findClass_of_methodNamed B.named
  have hlocks := B.notSynchronized
  subst hsz
  have hD := hD0.self (sz := s.heap.size)
  generalize hAe : va_A (mb_w a k S th) s.heap.size = A at hD ⊢
  have hA : ∀ q : Nat, s.heap.size ≤ q → A q := fun q h => by rw [← hAe]; exact Or.inr h
  have hS : va_S A s.heap s.heap [] := va_S.rf
  obtain ⟨Q, hQ⟩ : ∃ Q, Q = MQ below (va_Qi (fun (r : Int32) (_ : Unit) => r = pts S pp) (fun _ t => cB dC dI A (mb_w a k S th) (mb_ty k) t) A) ([.ref (a 0), .int (nI pp)] : List Value).toArray s 1 5 A := ⟨_, rfl⟩
  show W p l e rm_X6_pointsOf s m _ below meth c s.heap [] 0 0 (MQ below _ _ _ _ _ _) _
  rw [← hQ]
  have i_X6 : ∀ w ∈ wsX60, w ∈ wsX6_pointsOf := fun w h => List.mem_cons_of_mem _ (List.mem_append_right _ h)
  have f_0 := hts (.arrayClass .int) (by decide +kernel)
  have f_1 := hts (.fieldLink RX6 38 "CampBookModel" "duties" "[I") (by decide +kernel)
  have hl := lv_entry ([.ref (a 0), .int (nI pp)]) (n := 5) (Nat.le_of_ble_eq_true rfl)
  rw [lg_entry_eq]
  generalize (lg_sl ([.ref (a 0), .int (nI pp)]) ++ List.replicate (5 - (lg_sl ([.ref (a 0), .int (nI pp)])).length) Slot.unset).toArray = ls at hl ⊢
  have hl : lv_has ls 5 [(0, .ref (a 0)), (1, .int (nI pp))] := hl
  refine lv_iconst (v := nI 5) hx hb dX6_pointsOf_0 (by decide) ?_
  refine va_newa (atype := .int) hx hb f_0 rfl hK hP hD hS hA (a0 := (5, .inl (fun _ => 0))) (fun _ => rfl) (by decide) (N' := 5) rfl (by decide) (by show 0 + 1 ≤ 1; omega) (by show 0 + 5 ≤ 5; omega) dX6_pointsOf_1 (fun q_1 k_1 H hK hP hD hS => ?_)
  have hP : va_P (dC, dI) vwCl ((mb_w a k S th) ++ [(q_1, .inl (k_1, (5, .inl (fun _ => 0))))]) H := hP
  have hD : va_D A ((mb_w a k S th) ++ [(q_1, .inl (k_1, (5, .inl (fun _ => 0))))]) := hD
  refine lv_dup hx hb dX6_pointsOf_3 rfl ?_
  refine lv_iconst (v := nI 0) hx hb dX6_pointsOf_4 (by decide) ?_
  refine lv_iconst (v := nI 2) hx hb dX6_pointsOf_5 (by decide) ?_
  refine cb_iast hx hb hK hP hD hS 15 14 (f := fun _ => 0) rfl rfl (j := 0) (by omega) (Nat.le_of_ble_eq_true rfl) dX6_pointsOf_6 (fun H locs hP hD hS => ?_)
  have hP : va_P (dC, dI) vwCl ((mb_w a k S th) ++ [(q_1, .inl (k_1, (5, .inl (upd (fun _ => 0) 0 (nI 2)))))]) H := hP
  have hD : va_D A ((mb_w a k S th) ++ [(q_1, .inl (k_1, (5, .inl (upd (fun _ => 0) 0 (nI 2)))))]) := hD
  refine lv_dup hx hb dX6_pointsOf_7 rfl ?_
  refine lv_iconst (v := nI 1) hx hb dX6_pointsOf_8 (by decide) ?_
  refine lv_iconst (v := nI 3) hx hb dX6_pointsOf_9 (by decide) ?_
  refine cb_iast hx hb hK hP hD hS 15 14 (f := upd (fun _ => 0) 0 (nI 2)) rfl rfl (j := 1) (by omega) (Nat.le_of_ble_eq_true rfl) dX6_pointsOf_10 (fun H locs hP hD hS => ?_)
  have hP : va_P (dC, dI) vwCl ((mb_w a k S th) ++ [(q_1, .inl (k_1, (5, .inl (upd (upd (fun _ => 0) 0 (nI 2)) 1 (nI 3)))))]) H := hP
  have hD : va_D A ((mb_w a k S th) ++ [(q_1, .inl (k_1, (5, .inl (upd (upd (fun _ => 0) 0 (nI 2)) 1 (nI 3)))))]) := hD
  refine lv_dup hx hb dX6_pointsOf_11 rfl ?_
  refine lv_iconst (v := nI 2) hx hb dX6_pointsOf_12 (by decide) ?_
  refine lv_iconst (v := nI 4) hx hb dX6_pointsOf_13 (by decide) ?_
  refine cb_iast hx hb hK hP hD hS 15 14 (f := upd (upd (fun _ => 0) 0 (nI 2)) 1 (nI 3)) rfl rfl (j := 2) (by omega) (Nat.le_of_ble_eq_true rfl) dX6_pointsOf_14 (fun H locs hP hD hS => ?_)
  have hP : va_P (dC, dI) vwCl ((mb_w a k S th) ++ [(q_1, .inl (k_1, (5, .inl (upd (upd (upd (fun _ => 0) 0 (nI 2)) 1 (nI 3)) 2 (nI 4)))))]) H := hP
  have hD : va_D A ((mb_w a k S th) ++ [(q_1, .inl (k_1, (5, .inl (upd (upd (upd (fun _ => 0) 0 (nI 2)) 1 (nI 3)) 2 (nI 4)))))]) := hD
  refine lv_dup hx hb dX6_pointsOf_15 rfl ?_
  refine lv_iconst (v := nI 3) hx hb dX6_pointsOf_16 (by decide) ?_
  refine lv_iconst (v := nI 2) hx hb dX6_pointsOf_17 (by decide) ?_
  refine cb_iast hx hb hK hP hD hS 15 14 (f := upd (upd (upd (fun _ => 0) 0 (nI 2)) 1 (nI 3)) 2 (nI 4)) rfl rfl (j := 3) (by omega) (Nat.le_of_ble_eq_true rfl) dX6_pointsOf_18 (fun H locs hP hD hS => ?_)
  have hP : va_P (dC, dI) vwCl ((mb_w a k S th) ++ [(q_1, .inl (k_1, (5, .inl (upd (upd (upd (upd (fun _ => 0) 0 (nI 2)) 1 (nI 3)) 2 (nI 4)) 3 (nI 2)))))]) H := hP
  have hD : va_D A ((mb_w a k S th) ++ [(q_1, .inl (k_1, (5, .inl (upd (upd (upd (upd (fun _ => 0) 0 (nI 2)) 1 (nI 3)) 2 (nI 4)) 3 (nI 2)))))]) := hD
  refine lv_dup hx hb dX6_pointsOf_19 rfl ?_
  refine lv_iconst (v := nI 4) hx hb dX6_pointsOf_20 (by decide) ?_
  refine lv_iconst (v := nI 5) hx hb dX6_pointsOf_21 (by decide) ?_
  refine cb_iast hx hb hK hP hD hS 15 14 (f := upd (upd (upd (upd (fun _ => 0) 0 (nI 2)) 1 (nI 3)) 2 (nI 4)) 3 (nI 2)) rfl rfl (j := 4) (by omega) (Nat.le_of_ble_eq_true rfl) dX6_pointsOf_22 (fun H locs hP hD hS => ?_)
  have hP : va_P (dC, dI) vwCl ((mb_w a k S th) ++ [(q_1, .inl (k_1, (5, .inl (upd (upd (upd (upd (upd (fun _ => 0) 0 (nI 2)) 1 (nI 3)) 2 (nI 4)) 3 (nI 2)) 4 (nI 5)))))]) H := hP
  have hD : va_D A ((mb_w a k S th) ++ [(q_1, .inl (k_1, (5, .inl (upd (upd (upd (upd (upd (fun _ => 0) 0 (nI 2)) 1 (nI 3)) 2 (nI 4)) 3 (nI 2)) 4 (nI 5)))))]) := hD
  refine lv_astore_n (lv' := [(2, .ref q_1), (0, .ref (a 0)), (1, .int (nI pp))]) hx hb dX6_pointsOf_23 rfl hl (by decide) rfl (fun ls hl => ?_)
  generalize hF9 : (upd (upd (upd (upd (upd (fun _ => 0) 0 (nI 2)) 1 (nI 3)) 2 (nI 4)) 3 (nI 2)) 4 (nI 5)) = F9 at hP hD
  have hT9 : ∀ j, j < 5 → F9 j = dP j := by subst hF9; exact lt5 rfl rfl rfl rfl rfl
  refine lv_iconst (v := nI 0) hx hb dX6_pointsOf_24 (by decide) ?_
  refine lv_istore_n (lv' := [(3, .int (nI 0)), (2, .ref q_1), (0, .ref (a 0)), (1, .int (nI pp))]) hx hb dX6_pointsOf_25 rfl hl (by decide) rfl (fun ls hl => ?_)
  refine lv_iconst (v := nI 0) hx hb dX6_pointsOf_26 (by decide) ?_
  refine lv_istore (lv' := [(4, .int (nI 0)), (3, .int (nI 0)), (2, .ref q_1), (0, .ref (a 0)), (1, .int (nI pp))]) hx hb dX6_pointsOf_27 hl (by decide) rfl (fun ls hl => ?_)
  have L_29 : ∀ (n i : Nat), i ≤ 305 → 305 + 1 ≤ i + n → ∀ (H : Heap) (locs : List Loc), va_P (dC, dI) vwCl ((mb_w a k S th) ++ [(q_1, .inl (k_1, (5, .inl (F9))))]) H → va_D A ((mb_w a k S th) ++ [(q_1, .inl (k_1, (5, .inl (F9))))]) → va_S A s.heap H locs → ∀ (ls : Array Slot), lv_has ls 5 [(0, .ref (a 0)), (1, .int (nI pp)), (2, .ref q_1), (3, .int (sm (ptF S pp) i)), (4, .int (nI i))] → W p l e rm_X6_pointsOf s m ([.ref (a 0), .int (nI pp)] : List Value).toArray below meth c H locs (0 + 1) (0 + 5) Q (F0 m 29 ls []) := by
    intro n
    induction n with
    | zero => intro i h1 h2; exact absurd h2 (by omega)
    | succ n ih_29 =>
      intro i hle_29 hfu_29 H locs hP hD hS ls hl
      refine lv_iload hx hb dX6_pointsOf_29 (lv_at hl 4 rfl) ?_
      refine lv_aload_n hx hb dX6_pointsOf_31 rfl (lv_at hl 0 rfl) ?_
      refine va_get (D := (dC, dI)) (ci := 6) (v := .ref (a 10)) (C := RX6) (T := TX6) (N := 23) hx hb hts i_X6 hown hK hP 0 rfl rfl 14 (by decide) f_1 (fun _ h9 => h9) rfl dX6_pointsOf_32 ?_
      refine va_alen hx hb hK hP 10 9 rfl rfl (v := nI 305) rfl dX6_pointsOf_35 ?_
      refine lv_icmp_ge (tgt := 69) hx hb dX6_pointsOf_36 (by decide) (fun c_36 => ?_) (fun c_36 => ?_)
      · have c_36 : 305 ≤ i := cb_ge (by omega) (by omega) c_36
        refine lv_iload_n hx hb dX6_pointsOf_69 rfl (lv_at hl 3 rfl) ?_
        have hP := hP.sub (ws' := (mb_w a k S th)) [0, 1, 2, 3, 4, 5, 6, 7, 8, 9, 10, 11, 12, 13, 14] rfl
        have hD := hD.sub (ws' := (mb_w a k S th)) [0, 1, 2, 3, 4, 5, 6, 7, 8, 9, 10, 11, 12, 13, 14] (by decide) rfl
        have hK := hK.sub (tys' := (mb_ty k)) [0, 1, 2, 3, 4, 5, 6, 7, 8, 9, 10, 11, 12, 13] rfl
        have ew : (mb_w a k S th) = (mb_w a k S th) := rfl
        have hP : va_P (dC, dI) vwCl (mb_w a k S th) H := by rw [← ew]; exact hP
        have hD : va_D A (mb_w a k S th) := by rw [← ew]; exact hD
        rw [hQ]
        refine W.widen (k := 1) (n := 5) (by omega) (by omega) ?_
        exact W.iret (v := sm (ptF S pp) i) hx hb hr (fun t9 ht9 hW9 => ⟨⟨sm (ptF S pp) i, (), rfl, (by rw [show i = 305 by omega]; exact rfl), cB_of hP hK hD ht9 hW9⟩, hS.F ht9⟩) hS.2.2 dX6_pointsOf_70
      · have c_36 : i < 305 := cb_nge (by omega) (by omega) c_36
        refine lv_iload_n hx hb dX6_pointsOf_39 rfl (lv_at hl 3 rfl) ?_
        refine lv_aload_n hx hb dX6_pointsOf_40 rfl (lv_at hl 0 rfl) ?_
        refine va_get (D := (dC, dI)) (ci := 6) (v := .ref (a 10)) (C := RX6) (T := TX6) (N := 23) hx hb hts i_X6 hown hK hP 0 rfl rfl 14 (by decide) f_1 (fun _ h9 => h9) rfl dX6_pointsOf_41 ?_
        refine lv_iload hx hb dX6_pointsOf_44 (lv_at hl 4 rfl) ?_
        refine cb_iald hx hb hK hP 10 9 (f := c_hld S) rfl rfl (j := i) (by omega) (Nat.le_of_ble_eq_true rfl) dX6_pointsOf_46 ?_
        refine lv_iload_n hx hb dX6_pointsOf_47 rfl (lv_at hl 1 rfl) ?_
        refine lv_icmp_ne (tgt := 60) hx hb dX6_pointsOf_48 (by decide) (fun c_48 => ?_) (fun c_48 => ?_)
        · skip
          refine lv_iconst (v := nI 0) hx hb dX6_pointsOf_60 (by decide) ?_
          refine lv_iadd hx hb dX6_pointsOf_61 ?_
          refine lv_istore_n (lv' := [(3, .int ((sm (ptF S pp) i) + (nI 0))), (0, .ref (a 0)), (1, .int (nI pp)), (2, .ref q_1), (4, .int (nI i))]) hx hb dX6_pointsOf_62 rfl hl (by decide) rfl (fun ls hl => ?_)
          refine lv_iinc (v := nI (i + 1)) (lv' := [(4, .int (nI (i + 1))), (3, .int ((sm (ptF S pp) i) + (nI 0))), (0, .ref (a 0)), (1, .int (nI pp)), (2, .ref q_1)]) hx hb dX6_pointsOf_63 hl (k := 4) rfl (nI_1 _) (by decide) rfl (fun ls hl => ?_)
          refine lv_goto (tgt := 29) hx hb dX6_pointsOf_66 (by decide) ?_
          have hl : lv_has ls 5 [(4, .int (nI (i + 1))), (3, .int (sm (ptF S pp) (i + 1))), (0, .ref (a 0)), (1, .int (nI pp)), (2, .ref q_1)] := cb_loc hl (e := Value.int (sm (ptF S pp) (i + 1))) 1 rfl (congrArg Value.int (show (sm (ptF S pp) i) + (nI 0) = sm (ptF S pp) (i + 1) from (ptF_f c_48)))
          exact ih_29 (i + 1) (by omega) (by omega) H locs hP hD hS ls (lv_sub hl [2, 3, 4, 1, 0] rfl)
        · skip
          refine lv_aload_n hx hb dX6_pointsOf_51 rfl (lv_at hl 2 rfl) ?_
          refine lv_iload hx hb dX6_pointsOf_52 (lv_at hl 4 rfl) ?_
          refine lv_iconst (v := nI 5) hx hb dX6_pointsOf_54 (by decide) ?_
          refine lv_irem hx hb dX6_pointsOf_55 (by decide) ?_
          refine cb_topi (rem5 (by omega)) ?_
          refine cb_iald hx hb hK hP 15 14 (f := F9) rfl rfl (j := i % 5) (by omega) (Nat.le_of_ble_eq_true rfl) dX6_pointsOf_56 ?_
          refine cb_topi (z := dP (i % 5)) (hT9 _ (by omega)) ?_
          refine lv_goto (tgt := 61) hx hb dX6_pointsOf_57 (by decide) ?_
          refine lv_iadd hx hb dX6_pointsOf_61 ?_
          refine lv_istore_n (lv' := [(3, .int ((sm (ptF S pp) i) + (dP (i % 5)))), (0, .ref (a 0)), (1, .int (nI pp)), (2, .ref q_1), (4, .int (nI i))]) hx hb dX6_pointsOf_62 rfl hl (by decide) rfl (fun ls hl => ?_)
          refine lv_iinc (v := nI (i + 1)) (lv' := [(4, .int (nI (i + 1))), (3, .int ((sm (ptF S pp) i) + (dP (i % 5)))), (0, .ref (a 0)), (1, .int (nI pp)), (2, .ref q_1)]) hx hb dX6_pointsOf_63 hl (k := 4) rfl (nI_1 _) (by decide) rfl (fun ls hl => ?_)
          refine lv_goto (tgt := 29) hx hb dX6_pointsOf_66 (by decide) ?_
          have hl : lv_has ls 5 [(4, .int (nI (i + 1))), (3, .int (sm (ptF S pp) (i + 1))), (0, .ref (a 0)), (1, .int (nI pp)), (2, .ref q_1)] := cb_loc hl (e := Value.int (sm (ptF S pp) (i + 1))) 1 rfl (congrArg Value.int (show (sm (ptF S pp) i) + (dP (i % 5)) = sm (ptF S pp) (i + 1) from (ptF_t c_48)))
          exact ih_29 (i + 1) (by omega) (by omega) H locs hP hD hS ls (lv_sub hl [2, 3, 4, 1, 0] rfl)
  have hl : lv_has ls 5 [(4, .int (nI 0)), (3, .int (sm (ptF S pp) 0)), (2, .ref q_1), (0, .ref (a 0)), (1, .int (nI pp))] := cb_loc hl (e := Value.int (sm (ptF S pp) 0)) 1 rfl (congrArg Value.int (show nI 0 = sm (ptF S pp) 0 from rfl))
  exact L_29 (305 + 1) 0 (by omega) (by omega) H locs hP hD hS ls (lv_sub hl [3, 4, 2, 1, 0] rfl)
abbrev rm_X6_canEat : Room := { frames := 0, cells := 0, slots := 0, locals := 0 }
set_option maxHeartbeats 4000000 in
set_option maxRecDepth 100000 in
theorem c_X6_canEat (l : Launch) (dC : Nat → ClassId) (dI : Nat → Nat → Nat) (a : Nat → Nat) (k : Nat → ClassId) (S : cs_S) (th : Nat) (u : Nat) (mm : Nat) (hu : u < c_ns S) (hm : mm < 10) (hI : Inv S) : Met l yX6_canEat wsX6_canEat rm_X6_canEat (va_Pc [.ref (a 0), .int (nI u), .int (nI mm)] (cR dC dI (mb_w a k S th) (mb_ty k))) (vp_Si (fun r => r = bI (canE S mm u))) 0 0 (fun _ => False) := by
  refine Met.ofW (cc := cX6_canEat) (maxL := 5) (ret := (some .boolean)) (by decide) rfl ?_
  intro p e s m args below meth c s₁ B hml hv
  obtain ⟨rfl, hP, hK⟩ := hv
  have hx := B.exec
  have hb := B.bytes
  have hr := B.returns
  have hts := atoms_spec (ws := wsX6_canEat) B.pre
  have hown : s.vm.findClass RX6 = some m.cls := findClass_of_methodNamed B.named
  have hlocks := B.notSynchronized
  obtain ⟨Q, hQ⟩ : ∃ Q, Q = MQ below (vp_Si (fun r => r = bI (canE S mm u))) ([.ref (a 0), .int (nI u), .int (nI mm)] : List Value).toArray s 0 0 (fun _ => False) := ⟨_, rfl⟩
  show W p l e rm_X6_canEat s m _ below meth c s.heap [] 0 0 (MQ below _ _ _ _ _ _) _
  rw [← hQ]
  have i_X6 : ∀ w ∈ wsX60, w ∈ wsX6_canEat := fun w h => List.mem_cons_of_mem _ (List.mem_append_right _ h)
  obtain ⟨⟨hday, hnp, hns, hnt, hnf, hnm, hnb, hme⟩, hpat, hage, hten, hcnt, hplc, heat, hned, hhld, hbad, hbad0, hbag⟩ := id hI
  have f_0 := hts (.fieldLink RX6 70 "CampBookModel" "foods" "I") (by decide +kernel)
  have f_1 := hts (.fieldLink RX6 44 "CampBookModel" "units" "[I") (by decide +kernel)
  have f_2 := hts (.fieldLink RX6 19 "CampBookModel" "avoids" "[I") (by decide +kernel)
  have hl := lv_entry ([.ref (a 0), .int (nI u), .int (nI mm)]) (n := 5) (Nat.le_of_ble_eq_true rfl)
  rw [lg_entry_eq]
  generalize (lg_sl ([.ref (a 0), .int (nI u), .int (nI mm)]) ++ List.replicate (5 - (lg_sl ([.ref (a 0), .int (nI u), .int (nI mm)])).length) Slot.unset).toArray = ls at hl ⊢
  have hl : lv_has ls 5 [(0, .ref (a 0)), (1, .int (nI u)), (2, .int (nI mm))] := hl
  refine lv_iconst (v := nI 1) hx hb dX6_canEat_0 (by decide) ?_
  refine lv_istore_n (lv' := [(3, .int (nI 1)), (0, .ref (a 0)), (1, .int (nI u)), (2, .int (nI mm))]) hx hb dX6_canEat_1 rfl hl (by decide) rfl (fun ls hl => ?_)
  refine lv_iconst (v := nI 0) hx hb dX6_canEat_2 (by decide) ?_
  refine lv_istore (lv' := [(4, .int (nI 0)), (3, .int (nI 1)), (0, .ref (a 0)), (1, .int (nI u)), (2, .int (nI mm))]) hx hb dX6_canEat_3 hl (by decide) rfl (fun ls hl => ?_)
  have L_5 : ∀ (n i : Nat), i ≤ c_nf S → c_nf S + 1 ≤ i + n → ∀ (ls : Array Slot), lv_has ls 5 [(0, .ref (a 0)), (1, .int (nI u)), (2, .int (nI mm)), (3, .int (bI (al (caF S u mm) i))), (4, .int (nI i))] → W p l e rm_X6_canEat s m ([.ref (a 0), .int (nI u), .int (nI mm)] : List Value).toArray below meth c s.heap [] 0 0 Q (F0 m 5 ls []) := by
    intro n
    induction n with
    | zero => intro i h1 h2; exact absurd h2 (by omega)
    | succ n ih_5 =>
      intro i hle_5 hfu_5 ls hl
      refine lv_iload hx hb dX6_canEat_5 (lv_at hl 4 rfl) ?_
      refine lv_aload_n hx hb dX6_canEat_7 rfl (lv_at hl 0 rfl) ?_
      refine va_get (D := (dC, dI)) (ci := 6) (v := .int (nI (c_nf S))) (C := RX6) (T := TX6) (N := 23) hx hb hts i_X6 hown hK hP 0 rfl rfl 15 (by decide) f_0 (fun _ h9 => h9) rfl dX6_canEat_8 ?_
      refine lv_icmp_ge (tgt := 59) hx hb dX6_canEat_11 (by decide) (fun c_11 => ?_) (fun c_11 => ?_)
      · have c_11 : (c_nf S) ≤ i := cb_ge (by omega) (by omega) c_11
        refine lv_iload_n hx hb dX6_canEat_59 rfl (lv_at hl 3 rfl) ?_
        rw [hQ]
        exact W.zret (v := bI (al (caF S u mm) i)) hx hb hr (nar_bI _) (fun t9 ht9 hW9 => ⟨bI (al (caF S u mm) i), rfl, (by rw [show i = c_nf S by omega]; rfl), ht9⟩) (fun q h => absurd h List.not_mem_nil) dX6_canEat_60
      · have c_11 : i < (c_nf S) := cb_nge (by omega) (by omega) c_11
        refine lv_iload_n hx hb dX6_canEat_14 rfl (lv_at hl 3 rfl) ?_
        refine lv_if_eq (tgt := 51) hx hb dX6_canEat_15 (by decide) (fun c_15 => ?_) (fun c_15 => ?_)
        · have c_15 : (al (caF S u mm) i) = false := bI_0 c_15
          refine lv_iconst (v := nI 0) hx hb dX6_canEat_51 (by decide) ?_
          refine lv_istore_n (lv' := [(3, .int (nI 0)), (0, .ref (a 0)), (1, .int (nI u)), (2, .int (nI mm)), (4, .int (nI i))]) hx hb dX6_canEat_52 rfl hl (by decide) rfl (fun ls hl => ?_)
          refine lv_iinc (v := nI (i + 1)) (lv' := [(4, .int (nI (i + 1))), (3, .int (nI 0)), (0, .ref (a 0)), (1, .int (nI u)), (2, .int (nI mm))]) hx hb dX6_canEat_53 hl (k := 4) rfl (nI_1 _) (by decide) rfl (fun ls hl => ?_)
          refine lv_goto (tgt := 5) hx hb dX6_canEat_56 (by decide) ?_
          have hl : lv_has ls 5 [(4, .int (nI (i + 1))), (3, .int (bI (al (caF S u mm) (i + 1)))), (0, .ref (a 0)), (1, .int (nI u)), (2, .int (nI mm))] := cb_loc hl (e := Value.int (bI (al (caF S u mm) (i + 1)))) 1 rfl (congrArg Value.int (show nI 0 = bI (al (caF S u mm) (i + 1)) from (bI_eq0 (by rw [caF_s, c_15]; rfl))))
          exact ih_5 (i + 1) (by omega) (by omega) ls (lv_sub hl [2, 3, 4, 1, 0] rfl)
        · have c_15 : (al (caF S u mm) i) = true := bI_n c_15
          refine lv_aload_n hx hb dX6_canEat_18 rfl (lv_at hl 0 rfl) ?_
          refine va_get (D := (dC, dI)) (ci := 6) (v := .ref (a 12)) (C := RX6) (T := TX6) (N := 23) hx hb hts i_X6 hown hK hP 0 rfl rfl 18 (by decide) f_1 (fun _ h9 => h9) rfl dX6_canEat_19 ?_
          refine lv_bipush (v := nI 12) hx hb dX6_canEat_22 (by decide) ?_
          refine lv_iload_n hx hb dX6_canEat_24 rfl (lv_at hl 2 rfl) ?_
          refine lv_imul hx hb dX6_canEat_25 ?_
          refine cb_topi (pk_mul _ _) ?_
          refine lv_iload hx hb dX6_canEat_26 (lv_at hl 4 rfl) ?_
          refine lv_iadd hx hb dX6_canEat_28 ?_
          refine cb_topi (nI_add _ _) ?_
          refine cb_topi (z := nI (mm * 12 + i)) (congrArg nI (by omega)) ?_
          refine cb_iald hx hb hK hP 12 11 (f := c_ned S) rfl rfl (j := mm * 12 + i) (by omega) (Nat.le_of_ble_eq_true rfl) dX6_canEat_29 ?_
          refine lv_if_eq (tgt := 47) hx hb dX6_canEat_30 (by decide) (fun c_30 => ?_) (fun c_30 => ?_)
          · skip
            refine lv_iconst (v := nI 1) hx hb dX6_canEat_47 (by decide) ?_
            refine lv_goto (tgt := 52) hx hb dX6_canEat_48 (by decide) ?_
            refine lv_istore_n (lv' := [(3, .int (nI 1)), (0, .ref (a 0)), (1, .int (nI u)), (2, .int (nI mm)), (4, .int (nI i))]) hx hb dX6_canEat_52 rfl hl (by decide) rfl (fun ls hl => ?_)
            refine lv_iinc (v := nI (i + 1)) (lv' := [(4, .int (nI (i + 1))), (3, .int (nI 1)), (0, .ref (a 0)), (1, .int (nI u)), (2, .int (nI mm))]) hx hb dX6_canEat_53 hl (k := 4) rfl (nI_1 _) (by decide) rfl (fun ls hl => ?_)
            refine lv_goto (tgt := 5) hx hb dX6_canEat_56 (by decide) ?_
            have hl : lv_has ls 5 [(4, .int (nI (i + 1))), (3, .int (bI (al (caF S u mm) (i + 1)))), (0, .ref (a 0)), (1, .int (nI u)), (2, .int (nI mm))] := cb_loc hl (e := Value.int (bI (al (caF S u mm) (i + 1)))) 1 rfl (congrArg Value.int (show nI 1 = bI (al (caF S u mm) (i + 1)) from (bI_eq1 (by rw [caF_s, c_15, caF_z ((inM_0 hI (by omega) (by omega)).mpr c_30)]; rfl))))
            exact ih_5 (i + 1) (by omega) (by omega) ls (lv_sub hl [2, 3, 4, 1, 0] rfl)
          · skip
            refine lv_aload_n hx hb dX6_canEat_33 rfl (lv_at hl 0 rfl) ?_
            refine va_get (D := (dC, dI)) (ci := 6) (v := .ref (a 4)) (C := RX6) (T := TX6) (N := 23) hx hb hts i_X6 hown hK hP 0 rfl rfl 7 (by decide) f_2 (fun _ h9 => h9) rfl dX6_canEat_34 ?_
            refine lv_iload_n hx hb dX6_canEat_37 rfl (lv_at hl 1 rfl) ?_
            refine cb_iald hx hb hK hP 4 3 (f := c_ref S) rfl rfl (j := u) (by omega) (Nat.le_of_ble_eq_true rfl) dX6_canEat_38 ?_
            refine lv_iload hx hb dX6_canEat_39 (lv_at hl 4 rfl) ?_
            refine lv_ishr hx hb dX6_canEat_41 ?_
            refine lv_iconst (v := nI 1) hx hb dX6_canEat_42 (by decide) ?_
            refine lv_iand hx hb dX6_canEat_43 ?_
            refine lv_if_ne (tgt := 51) hx hb dX6_canEat_44 (by decide) (fun c_44 => ?_) (fun c_44 => ?_)
            · skip
              refine lv_iconst (v := nI 0) hx hb dX6_canEat_51 (by decide) ?_
              refine lv_istore_n (lv' := [(3, .int (nI 0)), (0, .ref (a 0)), (1, .int (nI u)), (2, .int (nI mm)), (4, .int (nI i))]) hx hb dX6_canEat_52 rfl hl (by decide) rfl (fun ls hl => ?_)
              refine lv_iinc (v := nI (i + 1)) (lv' := [(4, .int (nI (i + 1))), (3, .int (nI 0)), (0, .ref (a 0)), (1, .int (nI u)), (2, .int (nI mm))]) hx hb dX6_canEat_53 hl (k := 4) rfl (nI_1 _) (by decide) rfl (fun ls hl => ?_)
              refine lv_goto (tgt := 5) hx hb dX6_canEat_56 (by decide) ?_
              have hl : lv_has ls 5 [(4, .int (nI (i + 1))), (3, .int (bI (al (caF S u mm) (i + 1)))), (0, .ref (a 0)), (1, .int (nI u)), (2, .int (nI mm))] := cb_loc hl (e := Value.int (bI (al (caF S u mm) (i + 1)))) 1 rfl (congrArg Value.int (show nI 0 = bI (al (caF S u mm) (i + 1)) from (bI_eq0 (by rw [caF_s, c_15, caF_n (fun z => c_30 ((inM_0 hI (by omega) (by omega)).mp z)) (fun z => c_44 ((sar0 (by omega)).mpr z))]; rfl))))
              exact ih_5 (i + 1) (by omega) (by omega) ls (lv_sub hl [2, 3, 4, 1, 0] rfl)
            · skip
              refine lv_iconst (v := nI 1) hx hb dX6_canEat_47 (by decide) ?_
              refine lv_goto (tgt := 52) hx hb dX6_canEat_48 (by decide) ?_
              refine lv_istore_n (lv' := [(3, .int (nI 1)), (0, .ref (a 0)), (1, .int (nI u)), (2, .int (nI mm)), (4, .int (nI i))]) hx hb dX6_canEat_52 rfl hl (by decide) rfl (fun ls hl => ?_)
              refine lv_iinc (v := nI (i + 1)) (lv' := [(4, .int (nI (i + 1))), (3, .int (nI 1)), (0, .ref (a 0)), (1, .int (nI u)), (2, .int (nI mm))]) hx hb dX6_canEat_53 hl (k := 4) rfl (nI_1 _) (by decide) rfl (fun ls hl => ?_)
              refine lv_goto (tgt := 5) hx hb dX6_canEat_56 (by decide) ?_
              have hl : lv_has ls 5 [(4, .int (nI (i + 1))), (3, .int (bI (al (caF S u mm) (i + 1)))), (0, .ref (a 0)), (1, .int (nI u)), (2, .int (nI mm))] := cb_loc hl (e := Value.int (bI (al (caF S u mm) (i + 1)))) 1 rfl (congrArg Value.int (show nI 1 = bI (al (caF S u mm) (i + 1)) from (bI_eq1 (by rw [caF_s, c_15, caF_b ((sar0 (by omega)).mp c_44)]; rfl))))
              exact ih_5 (i + 1) (by omega) (by omega) ls (lv_sub hl [2, 3, 4, 1, 0] rfl)
  have hl : lv_has ls 5 [(4, .int (nI 0)), (3, .int (bI (al (caF S u mm) 0))), (0, .ref (a 0)), (1, .int (nI u)), (2, .int (nI mm))] := cb_loc hl (e := Value.int (bI (al (caF S u mm) 0))) 1 rfl (congrArg Value.int (show nI 1 = bI (al (caF S u mm) 0) from (bI_eq1 rfl)))
  exact L_5 (c_nf S + 1) 0 (by omega) (by omega) ls (lv_sub hl [2, 3, 4, 1, 0] rfl)
abbrev rm_X6_eatersOf : Room := { frames := 1, cells := 0, slots := 0, locals := 24 }
set_option maxHeartbeats 4000000 in
set_option maxRecDepth 100000 in
theorem c_X6_eatersOf (l : Launch) (dC : Nat → ClassId) (dI : Nat → Nat → Nat) (a : Nat → Nat) (k : Nat → ClassId) (S : cs_S) (th : Nat) (mm : Nat) (b9 : Bool) (hm : mm < 10) (hI : Inv S) : Met l yX6_eatersOf wsX6_eatersOf rm_X6_eatersOf (va_Pc [.ref (a 0), .int (nI mm), .int (bI b9)] (cR dC dI (mb_w a k S th) (mb_ty k))) (vp_Si (fun r => r = nI (fb_ct (eaF S mm b9) (c_ns S)))) 0 0 (fun _ => False) := by
  refine Met.ofW (cc := cX6_eatersOf) (maxL := 5) (ret := (some .int)) (by decide) rfl ?_
  intro p e s m args below meth c s₁ B hml hv
  obtain ⟨rfl, hP, hK⟩ := hv
  have hx := B.exec
  have hb := B.bytes
  have hr := B.returns
  have hts := atoms_spec (ws := wsX6_eatersOf) B.pre
  have hown : s.vm.findClass RX6 = some m.cls := findClass_of_methodNamed B.named
  have hlocks := B.notSynchronized
  obtain ⟨Q, hQ⟩ : ∃ Q, Q = MQ below (vp_Si (fun r => r = nI (fb_ct (eaF S mm b9) (c_ns S)))) ([.ref (a 0), .int (nI mm), .int (bI b9)] : List Value).toArray s 0 0 (fun _ => False) := ⟨_, rfl⟩
  show W p l e rm_X6_eatersOf s m _ below meth c s.heap [] 0 0 (MQ below _ _ _ _ _ _) _
  rw [← hQ]
  have i_X6 : ∀ w ∈ wsX60, w ∈ wsX6_eatersOf := fun w h => List.mem_cons_of_mem _ (List.mem_append_right _ h)
  obtain ⟨⟨hday, hnp, hns, hnt, hnf, hnm, hnb, hme⟩, hpat, hage, hten, hcnt, hplc, heat, hned, hhld, hbad, hbad0, hbag⟩ := id hI
  have f_0 := hts (.fieldLink RX6 64 "CampBookModel" "scouts" "I") (by decide +kernel)
  have f_1 := hts (.fieldLink RX6 31 "CampBookModel" "hasEaten" "[Z") (by decide +kernel)
  have hl := lv_entry ([.ref (a 0), .int (nI mm), .int (bI b9)]) (n := 5) (Nat.le_of_ble_eq_true rfl)
  rw [lg_entry_eq]
  generalize (lg_sl ([.ref (a 0), .int (nI mm), .int (bI b9)]) ++ List.replicate (5 - (lg_sl ([.ref (a 0), .int (nI mm), .int (bI b9)])).length) Slot.unset).toArray = ls at hl ⊢
  have hl : lv_has ls 5 [(0, .ref (a 0)), (1, .int (nI mm)), (2, .int (bI b9))] := hl
  refine lv_iconst (v := nI 0) hx hb dX6_eatersOf_0 (by decide) ?_
  refine lv_istore_n (lv' := [(3, .int (nI 0)), (0, .ref (a 0)), (1, .int (nI mm)), (2, .int (bI b9))]) hx hb dX6_eatersOf_1 rfl hl (by decide) rfl (fun ls hl => ?_)
  refine lv_iconst (v := nI 0) hx hb dX6_eatersOf_2 (by decide) ?_
  refine lv_istore (lv' := [(4, .int (nI 0)), (3, .int (nI 0)), (0, .ref (a 0)), (1, .int (nI mm)), (2, .int (bI b9))]) hx hb dX6_eatersOf_3 hl (by decide) rfl (fun ls hl => ?_)
  have L_5 : ∀ (n i : Nat), i ≤ c_ns S → c_ns S + 1 ≤ i + n → ∀ (ls : Array Slot), lv_has ls 5 [(0, .ref (a 0)), (1, .int (nI mm)), (2, .int (bI b9)), (3, .int (nI (fb_ct (eaF S mm b9) i))), (4, .int (nI i))] → W p l e rm_X6_eatersOf s m ([.ref (a 0), .int (nI mm), .int (bI b9)] : List Value).toArray below meth c s.heap [] 0 0 Q (F0 m 5 ls []) := by
    intro n
    induction n with
    | zero => intro i h1 h2; exact absurd h2 (by omega)
    | succ n ih_5 =>
      intro i hle_5 hfu_5 ls hl
      refine lv_iload hx hb dX6_eatersOf_5 (lv_at hl 4 rfl) ?_
      refine lv_aload_n hx hb dX6_eatersOf_7 rfl (lv_at hl 0 rfl) ?_
      refine va_get (D := (dC, dI)) (ci := 6) (v := .int (nI (c_ns S))) (C := RX6) (T := TX6) (N := 23) hx hb hts i_X6 hown hK hP 0 rfl rfl 3 (by decide) f_0 (fun _ h9 => h9) rfl dX6_eatersOf_8 ?_
      refine lv_icmp_ge (tgt := 52) hx hb dX6_eatersOf_11 (by decide) (fun c_11 => ?_) (fun c_11 => ?_)
      · have c_11 : (c_ns S) ≤ i := cb_ge (by omega) (by omega) c_11
        refine lv_iload_n hx hb dX6_eatersOf_52 rfl (lv_at hl 3 rfl) ?_
        rw [hQ]
        exact W.iret (v := nI (fb_ct (eaF S mm b9) i)) hx hb hr (fun t9 ht9 hW9 => ⟨nI (fb_ct (eaF S mm b9) i), rfl, (by rw [show i = c_ns S by omega]), ht9⟩) (fun q h => absurd h List.not_mem_nil) dX6_eatersOf_53
      · have c_11 : i < (c_ns S) := cb_nge (by omega) (by omega) c_11
        refine lv_iload_n hx hb dX6_eatersOf_14 rfl (lv_at hl 3 rfl) ?_
        refine lv_aload_n hx hb dX6_eatersOf_15 rfl (lv_at hl 0 rfl) ?_
        refine lv_iload hx hb dX6_eatersOf_16 (lv_at hl 4 rfl) ?_
        refine lv_iload_n hx hb dX6_eatersOf_18 rfl (lv_at hl 1 rfl) ?_
        refine vp_callSi (W.runV (As := [.int (nI i), .int (nI mm)]) (rest := [.int (nI (fb_ct (eaF S mm b9) i))]) ⟨hx, hb, hml, hown, hts⟩ (c_X6_canEat l dC dI a k S th i mm (by omega) (by omega) hI) (cwV 2 hts gX6_eatersOf_X6_canEat rfl rfl rfl (by decide +kernel) ⟨(Nat.le_of_ble_eq_true rfl), (Nat.le_of_ble_eq_true rfl)⟩) ⟨cR_blind, va_recv hK hP (ci := 6) (q0 := 0) rfl rfl, fun U hU hW => ⟨rfl, cR_of hK hP hU hW⟩⟩ rfl rfl hl.1 rfl (lv_room (Nat.le_of_ble_eq_true rfl)) dX6_eatersOf_19 ⟨(Nat.le_of_ble_eq_true rfl), (Nat.le_of_ble_eq_true rfl)⟩) (fun r er => ?_)
        subst er
        refine lv_if_eq (tgt := 43) hx hb dX6_eatersOf_22 (by decide) (fun c_22 => ?_) (fun c_22 => ?_)
        · have c_22 : (canE S mm i) = false := bI_0 c_22
          refine lv_iconst (v := nI 0) hx hb dX6_eatersOf_43 (by decide) ?_
          refine lv_iadd hx hb dX6_eatersOf_44 ?_
          refine cb_topi (nI_add _ _) ?_
          refine lv_istore_n (lv' := [(3, .int (nI ((fb_ct (eaF S mm b9) i) + 0))), (0, .ref (a 0)), (1, .int (nI mm)), (2, .int (bI b9)), (4, .int (nI i))]) hx hb dX6_eatersOf_45 rfl hl (by decide) rfl (fun ls hl => ?_)
          refine lv_iinc (v := nI (i + 1)) (lv' := [(4, .int (nI (i + 1))), (3, .int (nI ((fb_ct (eaF S mm b9) i) + 0))), (0, .ref (a 0)), (1, .int (nI mm)), (2, .int (bI b9))]) hx hb dX6_eatersOf_46 hl (k := 4) rfl (nI_1 _) (by decide) rfl (fun ls hl => ?_)
          refine lv_goto (tgt := 5) hx hb dX6_eatersOf_49 (by decide) ?_
          have hl : lv_has ls 5 [(4, .int (nI (i + 1))), (3, .int (nI (fb_ct (eaF S mm b9) (i + 1)))), (0, .ref (a 0)), (1, .int (nI mm)), (2, .int (bI b9))] := cb_loc hl (e := Value.int (nI (fb_ct (eaF S mm b9) (i + 1)))) 1 rfl (congrArg Value.int (show nI ((fb_ct (eaF S mm b9) i) + 0) = nI (fb_ct (eaF S mm b9) (i + 1)) from (by rw [fb_ct_succ]; simp [eaF, c_22])))
          exact ih_5 (i + 1) (by omega) (by omega) ls (lv_sub hl [2, 3, 4, 1, 0] rfl)
        · have c_22 : (canE S mm i) = true := bI_n c_22
          refine lv_iload_n hx hb dX6_eatersOf_25 rfl (lv_at hl 2 rfl) ?_
          refine lv_if_eq (tgt := 39) hx hb dX6_eatersOf_26 (by decide) (fun c_26 => ?_) (fun c_26 => ?_)
          · have c_26 : b9 = false := bI_0 c_26
            refine lv_iconst (v := nI 1) hx hb dX6_eatersOf_39 (by decide) ?_
            refine lv_goto (tgt := 44) hx hb dX6_eatersOf_40 (by decide) ?_
            refine lv_iadd hx hb dX6_eatersOf_44 ?_
            refine cb_topi (nI_add _ _) ?_
            refine lv_istore_n (lv' := [(3, .int (nI ((fb_ct (eaF S mm b9) i) + 1))), (0, .ref (a 0)), (1, .int (nI mm)), (2, .int (bI b9)), (4, .int (nI i))]) hx hb dX6_eatersOf_45 rfl hl (by decide) rfl (fun ls hl => ?_)
            refine lv_iinc (v := nI (i + 1)) (lv' := [(4, .int (nI (i + 1))), (3, .int (nI ((fb_ct (eaF S mm b9) i) + 1))), (0, .ref (a 0)), (1, .int (nI mm)), (2, .int (bI b9))]) hx hb dX6_eatersOf_46 hl (k := 4) rfl (nI_1 _) (by decide) rfl (fun ls hl => ?_)
            refine lv_goto (tgt := 5) hx hb dX6_eatersOf_49 (by decide) ?_
            have hl : lv_has ls 5 [(4, .int (nI (i + 1))), (3, .int (nI (fb_ct (eaF S mm b9) (i + 1)))), (0, .ref (a 0)), (1, .int (nI mm)), (2, .int (bI b9))] := cb_loc hl (e := Value.int (nI (fb_ct (eaF S mm b9) (i + 1)))) 1 rfl (congrArg Value.int (show nI ((fb_ct (eaF S mm b9) i) + 1) = nI (fb_ct (eaF S mm b9) (i + 1)) from (by rw [fb_ct_succ]; simp [eaF, c_22, c_26])))
            exact ih_5 (i + 1) (by omega) (by omega) ls (lv_sub hl [2, 3, 4, 1, 0] rfl)
          · have c_26 : b9 = true := bI_n c_26
            refine lv_aload_n hx hb dX6_eatersOf_29 rfl (lv_at hl 0 rfl) ?_
            refine va_get (D := (dC, dI)) (ci := 6) (v := .ref (a 8)) (C := RX6) (T := TX6) (N := 23) hx hb hts i_X6 hown hK hP 0 rfl rfl 11 (by decide) f_1 (fun _ h9 => h9) rfl dX6_eatersOf_30 ?_
            refine lv_iload hx hb dX6_eatersOf_33 (lv_at hl 4 rfl) ?_
            refine cb_zald hx hb hK hP 8 7 (f := fun j => bI ((c_eat S) j)) rfl rfl (j := i) (by omega) (Nat.le_of_ble_eq_true rfl) dX6_eatersOf_35 ?_
            show W p l e _ _ m _ below meth c _ _ _ _ _ (F0 m _ ls (.int (bI ((c_eat S) i)) :: _))
            refine lv_if_ne (tgt := 43) hx hb dX6_eatersOf_36 (by decide) (fun c_36 => ?_) (fun c_36 => ?_)
            · have c_36 : ((c_eat S) i) = true := bI_n c_36
              refine lv_iconst (v := nI 0) hx hb dX6_eatersOf_43 (by decide) ?_
              refine lv_iadd hx hb dX6_eatersOf_44 ?_
              refine cb_topi (nI_add _ _) ?_
              refine lv_istore_n (lv' := [(3, .int (nI ((fb_ct (eaF S mm b9) i) + 0))), (0, .ref (a 0)), (1, .int (nI mm)), (2, .int (bI b9)), (4, .int (nI i))]) hx hb dX6_eatersOf_45 rfl hl (by decide) rfl (fun ls hl => ?_)
              refine lv_iinc (v := nI (i + 1)) (lv' := [(4, .int (nI (i + 1))), (3, .int (nI ((fb_ct (eaF S mm b9) i) + 0))), (0, .ref (a 0)), (1, .int (nI mm)), (2, .int (bI b9))]) hx hb dX6_eatersOf_46 hl (k := 4) rfl (nI_1 _) (by decide) rfl (fun ls hl => ?_)
              refine lv_goto (tgt := 5) hx hb dX6_eatersOf_49 (by decide) ?_
              have hl : lv_has ls 5 [(4, .int (nI (i + 1))), (3, .int (nI (fb_ct (eaF S mm b9) (i + 1)))), (0, .ref (a 0)), (1, .int (nI mm)), (2, .int (bI b9))] := cb_loc hl (e := Value.int (nI (fb_ct (eaF S mm b9) (i + 1)))) 1 rfl (congrArg Value.int (show nI ((fb_ct (eaF S mm b9) i) + 0) = nI (fb_ct (eaF S mm b9) (i + 1)) from (by rw [fb_ct_succ]; simp [eaF, c_22, c_26, c_36])))
              exact ih_5 (i + 1) (by omega) (by omega) ls (lv_sub hl [2, 3, 4, 1, 0] rfl)
            · have c_36 : ((c_eat S) i) = false := bI_0 c_36
              refine lv_iconst (v := nI 1) hx hb dX6_eatersOf_39 (by decide) ?_
              refine lv_goto (tgt := 44) hx hb dX6_eatersOf_40 (by decide) ?_
              refine lv_iadd hx hb dX6_eatersOf_44 ?_
              refine cb_topi (nI_add _ _) ?_
              refine lv_istore_n (lv' := [(3, .int (nI ((fb_ct (eaF S mm b9) i) + 1))), (0, .ref (a 0)), (1, .int (nI mm)), (2, .int (bI b9)), (4, .int (nI i))]) hx hb dX6_eatersOf_45 rfl hl (by decide) rfl (fun ls hl => ?_)
              refine lv_iinc (v := nI (i + 1)) (lv' := [(4, .int (nI (i + 1))), (3, .int (nI ((fb_ct (eaF S mm b9) i) + 1))), (0, .ref (a 0)), (1, .int (nI mm)), (2, .int (bI b9))]) hx hb dX6_eatersOf_46 hl (k := 4) rfl (nI_1 _) (by decide) rfl (fun ls hl => ?_)
              refine lv_goto (tgt := 5) hx hb dX6_eatersOf_49 (by decide) ?_
              have hl : lv_has ls 5 [(4, .int (nI (i + 1))), (3, .int (nI (fb_ct (eaF S mm b9) (i + 1)))), (0, .ref (a 0)), (1, .int (nI mm)), (2, .int (bI b9))] := cb_loc hl (e := Value.int (nI (fb_ct (eaF S mm b9) (i + 1)))) 1 rfl (congrArg Value.int (show nI ((fb_ct (eaF S mm b9) i) + 1) = nI (fb_ct (eaF S mm b9) (i + 1)) from (by rw [fb_ct_succ]; simp [eaF, c_22, c_26, c_36])))
              exact ih_5 (i + 1) (by omega) (by omega) ls (lv_sub hl [2, 3, 4, 1, 0] rfl)
  have hl : lv_has ls 5 [(4, .int (nI 0)), (3, .int (nI (fb_ct (eaF S mm b9) 0))), (0, .ref (a 0)), (1, .int (nI mm)), (2, .int (bI b9))] := cb_loc hl (e := Value.int (nI (fb_ct (eaF S mm b9) 0))) 1 rfl (congrArg Value.int (show nI 0 = nI (fb_ct (eaF S mm b9) 0) from rfl))
  exact L_5 (c_ns S + 1) 0 (by omega) (by omega) ls (lv_sub hl [2, 3, 4, 1, 0] rfl)
abbrev rm_X6_setOf : Room := { frames := 1, cells := 0, slots := 0, locals := 24 }
set_option maxHeartbeats 4000000 in
set_option maxRecDepth 100000 in
theorem c_X6_setOf (l : Launch) (dC : Nat → ClassId) (dI : Nat → Nat → Nat) (a : Nat → Nat) (k : Nat → ClassId) (S : cs_S) (th : Nat) (mm : Nat) (hm : mm < 10) (hI : Inv S) : Met l yX6_setOf wsX6_setOf rm_X6_setOf (va_Pc [.ref (a 0), .int (nI mm)] (cR dC dI (mb_w a k S th) (mb_ty k))) (vp_Sl (fun r => r = lN (bs (canE S mm) (c_ns S)))) 0 0 (fun _ => False) := by
  refine Met.ofW (cc := cX6_setOf) (maxL := 5) (ret := (some .long)) (by decide) rfl ?_
  intro p e s m args below meth c s₁ B hml hv
  obtain ⟨rfl, hP, hK⟩ := hv
  have hx := B.exec
  have hb := B.bytes
  have hr := B.returns
  have hts := atoms_spec (ws := wsX6_setOf) B.pre
  have hown : s.vm.findClass RX6 = some m.cls := findClass_of_methodNamed B.named
  have hlocks := B.notSynchronized
  obtain ⟨Q, hQ⟩ : ∃ Q, Q = MQ below (vp_Sl (fun r => r = lN (bs (canE S mm) (c_ns S)))) ([.ref (a 0), .int (nI mm)] : List Value).toArray s 0 0 (fun _ => False) := ⟨_, rfl⟩
  show W p l e rm_X6_setOf s m _ below meth c s.heap [] 0 0 (MQ below _ _ _ _ _ _) _
  rw [← hQ]
  have i_X6 : ∀ w ∈ wsX60, w ∈ wsX6_setOf := fun w h => List.mem_cons_of_mem _ (List.mem_append_right _ h)
  obtain ⟨⟨hday, hnp, hns, hnt, hnf, hnm, hnb, hme⟩, hpat, hage, hten, hcnt, hplc, heat, hned, hhld, hbad, hbad0, hbag⟩ := id hI
  have f_0 := hts (.fieldLink RX6 64 "CampBookModel" "scouts" "I") (by decide +kernel)
  have hl := lv_entry ([.ref (a 0), .int (nI mm)]) (n := 5) (Nat.le_of_ble_eq_true rfl)
  rw [lg_entry_eq]
  generalize (lg_sl ([.ref (a 0), .int (nI mm)]) ++ List.replicate (5 - (lg_sl ([.ref (a 0), .int (nI mm)])).length) Slot.unset).toArray = ls at hl ⊢
  have hl : lv_has ls 5 [(0, .ref (a 0)), (1, .int (nI mm))] := hl
  refine lv_lconst (v := lN 0) hx hb dX6_setOf_0 rfl ?_
  refine lv_lstore_n (lv' := [(2, .long (lN 0)), (0, .ref (a 0)), (1, .int (nI mm))]) hx hb dX6_setOf_1 rfl hl (by decide) rfl (fun ls hl => ?_)
  refine lv_iconst (v := nI 0) hx hb dX6_setOf_2 (by decide) ?_
  refine lv_istore (lv' := [(4, .int (nI 0)), (2, .long (lN 0)), (0, .ref (a 0)), (1, .int (nI mm))]) hx hb dX6_setOf_3 hl (by decide) rfl (fun ls hl => ?_)
  have L_5 : ∀ (n i : Nat), i ≤ c_ns S → c_ns S + 1 ≤ i + n → ∀ (ls : Array Slot), lv_has ls 5 [(0, .ref (a 0)), (1, .int (nI mm)), (2, .long (lN (bs (canE S mm) i))), (4, .int (nI i))] → W p l e rm_X6_setOf s m ([.ref (a 0), .int (nI mm)] : List Value).toArray below meth c s.heap [] 0 0 Q (F0 m 5 ls []) := by
    intro n
    induction n with
    | zero => intro i h1 h2; exact absurd h2 (by omega)
    | succ n ih_5 =>
      intro i hle_5 hfu_5 ls hl
      refine lv_iload hx hb dX6_setOf_5 (lv_at hl 3 rfl) ?_
      refine lv_aload_n hx hb dX6_setOf_7 rfl (lv_at hl 0 rfl) ?_
      refine va_get (D := (dC, dI)) (ci := 6) (v := .int (nI (c_ns S))) (C := RX6) (T := TX6) (N := 23) hx hb hts i_X6 hown hK hP 0 rfl rfl 3 (by decide) f_0 (fun _ h9 => h9) rfl dX6_setOf_8 ?_
      refine lv_icmp_ge (tgt := 41) hx hb dX6_setOf_11 (by decide) (fun c_11 => ?_) (fun c_11 => ?_)
      · have c_11 : (c_ns S) ≤ i := cb_ge (by omega) (by omega) c_11
        refine lv_lload_n hx hb dX6_setOf_41 rfl (lv_at hl 2 rfl) ?_
        rw [hQ]
        exact W.lret (v := lN (bs (canE S mm) i)) hx hb hr (fun t9 ht9 hW9 => ⟨lN (bs (canE S mm) i), rfl, (by rw [show i = c_ns S by omega]), ht9⟩) (fun q h => absurd h List.not_mem_nil) dX6_setOf_42
      · have c_11 : i < (c_ns S) := cb_nge (by omega) (by omega) c_11
        refine lv_lload_n hx hb dX6_setOf_14 rfl (lv_at hl 2 rfl) ?_
        refine lv_aload_n hx hb dX6_setOf_15 rfl (lv_at hl 0 rfl) ?_
        refine lv_iload hx hb dX6_setOf_16 (lv_at hl 3 rfl) ?_
        refine lv_iload_n hx hb dX6_setOf_18 rfl (lv_at hl 1 rfl) ?_
        refine vp_callSi (W.runV (As := [.int (nI i), .int (nI mm)]) (rest := [.long (lN (bs (canE S mm) i))]) ⟨hx, hb, hml, hown, hts⟩ (c_X6_canEat l dC dI a k S th i mm (by omega) (by omega) hI) (cwV 2 hts gX6_setOf_X6_canEat rfl rfl rfl (by decide +kernel) ⟨(Nat.le_of_ble_eq_true rfl), (Nat.le_of_ble_eq_true rfl)⟩) ⟨cR_blind, va_recv hK hP (ci := 6) (q0 := 0) rfl rfl, fun U hU hW => ⟨rfl, cR_of hK hP hU hW⟩⟩ rfl rfl hl.1 rfl (lv_room (Nat.le_of_ble_eq_true rfl)) dX6_setOf_19 ⟨(Nat.le_of_ble_eq_true rfl), (Nat.le_of_ble_eq_true rfl)⟩) (fun r er => ?_)
        subst er
        refine lv_if_eq (tgt := 32) hx hb dX6_setOf_22 (by decide) (fun c_22 => ?_) (fun c_22 => ?_)
        · have c_22 : (canE S mm i) = false := bI_0 c_22
          refine lv_lconst (v := lN 0) hx hb dX6_setOf_32 rfl ?_
          refine lv_ladd hx hb dX6_setOf_33 ?_
          refine lv_lstore_n (lv' := [(2, .long ((lN (bs (canE S mm) i)) + (lN 0))), (0, .ref (a 0)), (1, .int (nI mm)), (4, .int (nI i))]) hx hb dX6_setOf_34 rfl hl (by decide) rfl (fun ls hl => ?_)
          refine lv_iinc (v := nI (i + 1)) (lv' := [(4, .int (nI (i + 1))), (2, .long ((lN (bs (canE S mm) i)) + (lN 0))), (0, .ref (a 0)), (1, .int (nI mm))]) hx hb dX6_setOf_35 hl (k := 3) rfl (nI_1 _) (by decide) rfl (fun ls hl => ?_)
          refine lv_goto (tgt := 5) hx hb dX6_setOf_38 (by decide) ?_
          have hl : lv_has ls 5 [(4, .int (nI (i + 1))), (2, .long (lN (bs (canE S mm) (i + 1)))), (0, .ref (a 0)), (1, .int (nI mm))] := cb_loc hl (e := Value.long (lN (bs (canE S mm) (i + 1)))) 1 rfl (congrArg Value.long (show (lN (bs (canE S mm) i)) + (lN 0) = lN (bs (canE S mm) (i + 1)) from (bsA_f c_22)))
          exact ih_5 (i + 1) (by omega) (by omega) ls (lv_sub hl [2, 3, 1, 0] rfl)
        · have c_22 : (canE S mm i) = true := bI_n c_22
          refine lv_lconst (v := lN 1) hx hb dX6_setOf_25 rfl ?_
          refine lv_iload hx hb dX6_setOf_26 (lv_at hl 3 rfl) ?_
          refine lv_lshl hx hb dX6_setOf_28 rfl ?_
          refine cb_topl (cb_shl (k := i) (by omega)) ?_
          refine lv_goto (tgt := 33) hx hb dX6_setOf_29 (by decide) ?_
          refine lv_ladd hx hb dX6_setOf_33 ?_
          refine lv_lstore_n (lv' := [(2, .long ((lN (bs (canE S mm) i)) + (lN (2 ^ i)))), (0, .ref (a 0)), (1, .int (nI mm)), (4, .int (nI i))]) hx hb dX6_setOf_34 rfl hl (by decide) rfl (fun ls hl => ?_)
          refine lv_iinc (v := nI (i + 1)) (lv' := [(4, .int (nI (i + 1))), (2, .long ((lN (bs (canE S mm) i)) + (lN (2 ^ i)))), (0, .ref (a 0)), (1, .int (nI mm))]) hx hb dX6_setOf_35 hl (k := 3) rfl (nI_1 _) (by decide) rfl (fun ls hl => ?_)
          refine lv_goto (tgt := 5) hx hb dX6_setOf_38 (by decide) ?_
          have hl : lv_has ls 5 [(4, .int (nI (i + 1))), (2, .long (lN (bs (canE S mm) (i + 1)))), (0, .ref (a 0)), (1, .int (nI mm))] := cb_loc hl (e := Value.long (lN (bs (canE S mm) (i + 1)))) 1 rfl (congrArg Value.long (show (lN (bs (canE S mm) i)) + (lN (2 ^ i)) = lN (bs (canE S mm) (i + 1)) from (bsA_t c_22)))
          exact ih_5 (i + 1) (by omega) (by omega) ls (lv_sub hl [2, 3, 1, 0] rfl)
  have hl : lv_has ls 5 [(4, .int (nI 0)), (2, .long (lN (bs (canE S mm) 0))), (0, .ref (a 0)), (1, .int (nI mm))] := cb_loc hl (e := Value.long (lN (bs (canE S mm) 0))) 1 rfl (congrArg Value.long (show lN 0 = lN (bs (canE S mm) 0) from rfl))
  exact L_5 (c_ns S + 1) 0 (by omega) (by omega) ls (lv_sub hl [2, 3, 1, 0] rfl)
abbrev rm_X6_canBeEaten : Room := { frames := 2, cells := 0, slots := 0, locals := 48 }
set_option maxHeartbeats 4000000 in
set_option maxRecDepth 100000 in
theorem c_X6_canBeEaten (l : Launch) (dC : Nat → ClassId) (dI : Nat → Nat → Nat) (a : Nat → Nat) (k : Nat → ClassId) (S : cs_S) (th : Nat) (mm : Nat) (hm : mm < 10) (hI : Inv S) : Met l yX6_canBeEaten wsX6_canBeEaten rm_X6_canBeEaten (va_Pc [.ref (a 0), .int (nI mm)] (cR dC dI (mb_w a k S th) (mb_ty k))) (vp_Si (fun r => r = bI (canBE S mm))) 0 0 (fun _ => False) := by
  refine Met.ofW (cc := cX6_canBeEaten) (maxL := 6) (ret := (some .boolean)) (by decide) rfl ?_
  intro p e s m args below meth c s₁ B hml hv
  obtain ⟨rfl, hP, hK⟩ := hv
  have hx := B.exec
  have hb := B.bytes
  have hr := B.returns
  have hts := atoms_spec (ws := wsX6_canBeEaten) B.pre
  have hown : s.vm.findClass RX6 = some m.cls := findClass_of_methodNamed B.named
  have hlocks := B.notSynchronized
  obtain ⟨Q, hQ⟩ : ∃ Q, Q = MQ below (vp_Si (fun r => r = bI (canBE S mm))) ([.ref (a 0), .int (nI mm)] : List Value).toArray s 0 0 (fun _ => False) := ⟨_, rfl⟩
  show W p l e rm_X6_canBeEaten s m _ below meth c s.heap [] 0 0 (MQ below _ _ _ _ _ _) _
  rw [← hQ]
  have i_X6 : ∀ w ∈ wsX60, w ∈ wsX6_canBeEaten := fun w h => List.mem_cons_of_mem _ (List.mem_append_right _ h)
  obtain ⟨⟨hday, hnp, hns, hnt, hnf, hnm, hnb, hme⟩, hpat, hage, hten, hcnt, hplc, heat, hned, hhld, hbad, hbad0, hbag⟩ := id hI
  have f_0 := hts (.fieldLink RX6 156 "CampBookModel" "eaten" "I") (by decide +kernel)
  have f_1 := hts (.fieldLink RX6 70 "CampBookModel" "foods" "I") (by decide +kernel)
  have f_2 := hts (.fieldLink RX6 44 "CampBookModel" "units" "[I") (by decide +kernel)
  have f_3 := hts (.fieldLink RX6 41 "CampBookModel" "stores" "[I") (by decide +kernel)
  have hl := lv_entry ([.ref (a 0), .int (nI mm)]) (n := 6) (Nat.le_of_ble_eq_true rfl)
  rw [lg_entry_eq]
  generalize (lg_sl ([.ref (a 0), .int (nI mm)]) ++ List.replicate (6 - (lg_sl ([.ref (a 0), .int (nI mm)])).length) Slot.unset).toArray = ls at hl ⊢
  have hl : lv_has ls 6 [(0, .ref (a 0)), (1, .int (nI mm))] := hl
  refine lv_aload_n hx hb dX6_canBeEaten_0 rfl (lv_at hl 0 rfl) ?_
  refine lv_iload_n hx hb dX6_canBeEaten_1 rfl (lv_at hl 1 rfl) ?_
  refine lv_iconst (v := nI 0) hx hb dX6_canBeEaten_2 (by decide) ?_
  refine cb_topi (z := bI false) rfl ?_
  refine vp_callSi (W.runV (As := [.int (nI mm), .int (bI false)]) (rest := []) ⟨hx, hb, hml, hown, hts⟩ (c_X6_eatersOf l dC dI a k S th mm false (by omega) hI) (cwV 2 hts gX6_canBeEaten_X6_eatersOf rfl rfl rfl (by decide +kernel) ⟨(Nat.le_of_ble_eq_true rfl), (Nat.le_of_ble_eq_true rfl)⟩) ⟨cR_blind, va_recv hK hP (ci := 6) (q0 := 0) rfl rfl, fun U hU hW => ⟨rfl, cR_of hK hP hU hW⟩⟩ rfl rfl hl.1 rfl (lv_room (Nat.le_of_ble_eq_true rfl)) dX6_canBeEaten_3 ⟨(Nat.le_of_ble_eq_true rfl), (Nat.le_of_ble_eq_true rfl)⟩) (fun r er => ?_)
  subst er
  refine cb_topi (z := nI (cntE S mm)) (congrArg nI eaF_f) ?_
  have hct : cntE S mm ≤ c_ns S := fb_ct_le _ _
  refine lv_istore_n (lv' := [(2, .int (nI (cntE S mm))), (0, .ref (a 0)), (1, .int (nI mm))]) hx hb dX6_canBeEaten_6 rfl hl (by decide) rfl (fun ls hl => ?_)
  refine lv_iconst (v := nI 0) hx hb dX6_canBeEaten_7 (by decide) ?_
  refine lv_istore_n (lv' := [(3, .int (nI 0)), (2, .int (nI (cntE S mm))), (0, .ref (a 0)), (1, .int (nI mm))]) hx hb dX6_canBeEaten_8 rfl hl (by decide) rfl (fun ls hl => ?_)
  refine lv_aload_n hx hb dX6_canBeEaten_9 rfl (lv_at hl 2 rfl) ?_
  refine va_get (D := (dC, dI)) (ci := 6) (v := .int (nI (c_me S))) (C := RX6) (T := TX6) (N := 23) hx hb hts i_X6 hown hK hP 0 rfl rfl 19 (by decide) f_0 (fun _ h9 => h9) rfl dX6_canBeEaten_10 ?_
  refine lv_iconst (v := nI 3) hx hb dX6_canBeEaten_13 (by decide) ?_
  refine lv_icmp_ge (tgt := 25) hx hb dX6_canBeEaten_14 (by decide) (fun c_14 => ?_) (fun c_14 => ?_)
  · have c_14 : 3 ≤ (c_me S) := cb_ge (by omega) (by omega) c_14
    refine lv_iconst (v := nI 0) hx hb dX6_canBeEaten_25 (by decide) ?_
    refine lv_istore (lv' := [(4, .int (nI 0)), (3, .int (nI 0)), (2, .int (nI (cntE S mm))), (0, .ref (a 0)), (1, .int (nI mm))]) hx hb dX6_canBeEaten_26 hl (by decide) rfl (fun ls hl => ?_)
    refine lv_iconst (v := nI 0) hx hb dX6_canBeEaten_28 (by decide) ?_
    refine lv_istore (lv' := [(5, .int (nI 0)), (4, .int (nI 0)), (3, .int (nI 0)), (2, .int (nI (cntE S mm))), (0, .ref (a 0)), (1, .int (nI mm))]) hx hb dX6_canBeEaten_29 hl (by decide) rfl (fun ls hl => ?_)
    have L_31 : ∀ (n i : Nat), i ≤ c_nf S → c_nf S + 1 ≤ i + n → ∀ (ls : Array Slot), lv_has ls 6 [(0, .ref (a 0)), (1, .int (nI mm)), (2, .int (nI (cntE S mm))), (3, .int (nI (fb_ct (inM S mm) i))), (4, .int (bI (beK S mm i))), (5, .int (nI i))] → W p l e rm_X6_canBeEaten s m ([.ref (a 0), .int (nI mm)] : List Value).toArray below meth c s.heap [] 0 0 Q (F0 m 31 ls []) := by
      intro n
      induction n with
      | zero => intro i h1 h2; exact absurd h2 (by omega)
      | succ n ih_31 =>
        intro i hle_31 hfu_31 ls hl
        refine lv_iload hx hb dX6_canBeEaten_31 (lv_at hl 5 rfl) ?_
        refine lv_aload_n hx hb dX6_canBeEaten_33 rfl (lv_at hl 0 rfl) ?_
        refine va_get (D := (dC, dI)) (ci := 6) (v := .int (nI (c_nf S))) (C := RX6) (T := TX6) (N := 23) hx hb hts i_X6 hown hK hP 0 rfl rfl 15 (by decide) f_1 (fun _ h9 => h9) rfl dX6_canBeEaten_34 ?_
        refine lv_icmp_ge (tgt := 105) hx hb dX6_canBeEaten_37 (by decide) (fun c_37 => ?_) (fun c_37 => ?_)
        · have c_37 : (c_nf S) ≤ i := cb_ge (by omega) (by omega) c_37
          have hix : i = c_nf S := by omega
          have hct2 : fb_ct (inM S mm) i ≤ i := fb_ct_le _ _
          refine lv_iload hx hb dX6_canBeEaten_105 (lv_at hl 4 rfl) ?_
          refine lv_if_eq (tgt := 118) hx hb dX6_canBeEaten_107 (by decide) (fun c_107 => ?_) (fun c_107 => ?_)
          · have c_107 : (beK S mm i) = false := bI_0 c_107
            refine lv_iconst (v := nI 0) hx hb dX6_canBeEaten_118 (by decide) ?_
            rw [hQ]
            exact W.zret (v := nI 0) hx hb hr rfl (fun t9 ht9 hW9 => ⟨nI 0, rfl, (bI_eq0 (by rw [← beK_n, ← hix, c_107]; rfl)), ht9⟩) (fun q h => absurd h List.not_mem_nil) dX6_canBeEaten_119
          · have c_107 : (beK S mm i) = true := bI_n c_107
            refine lv_iload_n hx hb dX6_canBeEaten_110 rfl (lv_at hl 3 rfl) ?_
            refine lv_if_le (tgt := 118) hx hb dX6_canBeEaten_111 (by decide) (fun c_111 => ?_) (fun c_111 => ?_)
            · have c_111 : (fb_ct (inM S mm) i) ≤ 0 := cb_le (by omega) (by omega) c_111
              refine lv_iconst (v := nI 0) hx hb dX6_canBeEaten_118 (by decide) ?_
              rw [hQ]
              exact W.zret (v := nI 0) hx hb hr rfl (fun t9 ht9 hW9 => ⟨nI 0, rfl, (bI_eq0 (by rw [← beK_n, ← hix, decide_eq_false (Nat.not_lt.mpr c_111), Bool.and_false])), ht9⟩) (fun q h => absurd h List.not_mem_nil) dX6_canBeEaten_119
            · have c_111 : 0 < (fb_ct (inM S mm) i) := cb_nle (by omega) (by omega) c_111
              refine lv_iconst (v := nI 1) hx hb dX6_canBeEaten_114 (by decide) ?_
              refine lv_goto (tgt := 119) hx hb dX6_canBeEaten_115 (by decide) ?_
              rw [hQ]
              exact W.zret (v := nI 1) hx hb hr rfl (fun t9 ht9 hW9 => ⟨nI 1, rfl, (bI_eq1 (by rw [← beK_n, ← hix, c_107, decide_eq_true c_111]; rfl)), ht9⟩) (fun q h => absurd h List.not_mem_nil) dX6_canBeEaten_119
        · have c_37 : i < (c_nf S) := cb_nge (by omega) (by omega) c_37
          refine lv_iload_n hx hb dX6_canBeEaten_40 rfl (lv_at hl 3 rfl) ?_
          refine lv_aload_n hx hb dX6_canBeEaten_41 rfl (lv_at hl 0 rfl) ?_
          refine va_get (D := (dC, dI)) (ci := 6) (v := .ref (a 12)) (C := RX6) (T := TX6) (N := 23) hx hb hts i_X6 hown hK hP 0 rfl rfl 18 (by decide) f_2 (fun _ h9 => h9) rfl dX6_canBeEaten_42 ?_
          refine lv_bipush (v := nI 12) hx hb dX6_canBeEaten_45 (by decide) ?_
          refine lv_iload_n hx hb dX6_canBeEaten_47 rfl (lv_at hl 1 rfl) ?_
          refine lv_imul hx hb dX6_canBeEaten_48 ?_
          refine cb_topi (pk_mul _ _) ?_
          refine lv_iload hx hb dX6_canBeEaten_49 (lv_at hl 5 rfl) ?_
          refine lv_iadd hx hb dX6_canBeEaten_51 ?_
          refine cb_topi (nI_add _ _) ?_
          refine cb_topi (z := nI (mm * 12 + i)) (congrArg nI (by omega)) ?_
          refine cb_iald hx hb hK hP 12 11 (f := c_ned S) rfl rfl (j := mm * 12 + i) (by omega) (Nat.le_of_ble_eq_true rfl) dX6_canBeEaten_52 ?_
          refine lv_if_le (tgt := 60) hx hb dX6_canBeEaten_53 (by decide) (fun c_53 => ?_) (fun c_53 => ?_)
          · skip
            refine lv_iconst (v := nI 0) hx hb dX6_canBeEaten_60 (by decide) ?_
            refine lv_iadd hx hb dX6_canBeEaten_61 ?_
            refine cb_topi (nI_add _ _) ?_
            refine lv_istore_n (lv' := [(3, .int (nI ((fb_ct (inM S mm) i) + 0))), (0, .ref (a 0)), (1, .int (nI mm)), (2, .int (nI (cntE S mm))), (4, .int (bI (beK S mm i))), (5, .int (nI i))]) hx hb dX6_canBeEaten_62 rfl hl (by decide) rfl (fun ls hl => ?_)
            refine lv_iload hx hb dX6_canBeEaten_63 (lv_at hl 4 rfl) ?_
            refine lv_if_eq (tgt := 96) hx hb dX6_canBeEaten_65 (by decide) (fun c_65 => ?_) (fun c_65 => ?_)
            · have c_65 : (beK S mm i) = false := bI_0 c_65
              refine lv_iconst (v := nI 0) hx hb dX6_canBeEaten_96 (by decide) ?_
              refine lv_istore (lv' := [(4, .int (nI 0)), (3, .int (nI ((fb_ct (inM S mm) i) + 0))), (0, .ref (a 0)), (1, .int (nI mm)), (2, .int (nI (cntE S mm))), (5, .int (nI i))]) hx hb dX6_canBeEaten_97 hl (by decide) rfl (fun ls hl => ?_)
              refine lv_iinc (v := nI (i + 1)) (lv' := [(5, .int (nI (i + 1))), (4, .int (nI 0)), (3, .int (nI ((fb_ct (inM S mm) i) + 0))), (0, .ref (a 0)), (1, .int (nI mm)), (2, .int (nI (cntE S mm)))]) hx hb dX6_canBeEaten_99 hl (k := 5) rfl (nI_1 _) (by decide) rfl (fun ls hl => ?_)
              refine lv_goto (tgt := 31) hx hb dX6_canBeEaten_102 (by decide) ?_
              have hl : lv_has ls 6 [(5, .int (nI (i + 1))), (4, .int (nI 0)), (3, .int (nI (fb_ct (inM S mm) (i + 1)))), (0, .ref (a 0)), (1, .int (nI mm)), (2, .int (nI (cntE S mm)))] := cb_loc hl (e := Value.int (nI (fb_ct (inM S mm) (i + 1)))) 2 rfl (congrArg Value.int (show nI ((fb_ct (inM S mm) i) + 0) = nI (fb_ct (inM S mm) (i + 1)) from (by rw [fb_ct_succ, show inM S mm i = false from decide_eq_false (Int32.not_lt.mpr c_53)]; rfl)))
              have hl : lv_has ls 6 [(5, .int (nI (i + 1))), (4, .int (bI (beK S mm (i + 1)))), (3, .int (nI (fb_ct (inM S mm) (i + 1)))), (0, .ref (a 0)), (1, .int (nI mm)), (2, .int (nI (cntE S mm)))] := cb_loc hl (e := Value.int (bI (beK S mm (i + 1)))) 1 rfl (congrArg Value.int (show nI 0 = bI (beK S mm (i + 1)) from (bI_eq0 (by rw [beK_s, c_65]; rfl))))
              exact ih_31 (i + 1) (by omega) (by omega) ls (lv_sub hl [3, 4, 5, 2, 1, 0] rfl)
            · have c_65 : (beK S mm i) = true := bI_n c_65
              refine lv_aload_n hx hb dX6_canBeEaten_68 rfl (lv_at hl 1 rfl) ?_
              refine va_get (D := (dC, dI)) (ci := 6) (v := .ref (a 12)) (C := RX6) (T := TX6) (N := 23) hx hb hts i_X6 hown hK hP 0 rfl rfl 18 (by decide) f_2 (fun _ h9 => h9) rfl dX6_canBeEaten_69 ?_
              refine lv_bipush (v := nI 12) hx hb dX6_canBeEaten_72 (by decide) ?_
              refine lv_iload_n hx hb dX6_canBeEaten_74 rfl (lv_at hl 2 rfl) ?_
              refine lv_imul hx hb dX6_canBeEaten_75 ?_
              refine cb_topi (pk_mul _ _) ?_
              refine lv_iload hx hb dX6_canBeEaten_76 (lv_at hl 5 rfl) ?_
              refine lv_iadd hx hb dX6_canBeEaten_78 ?_
              refine cb_topi (nI_add _ _) ?_
              refine cb_topi (z := nI (mm * 12 + i)) (congrArg nI (by omega)) ?_
              refine cb_iald hx hb hK hP 12 11 (f := c_ned S) rfl rfl (j := mm * 12 + i) (by omega) (Nat.le_of_ble_eq_true rfl) dX6_canBeEaten_79 ?_
              refine lv_iload_n hx hb dX6_canBeEaten_80 rfl (lv_at hl 3 rfl) ?_
              refine lv_imul hx hb dX6_canBeEaten_81 ?_
              refine lv_aload_n hx hb dX6_canBeEaten_82 rfl (lv_at hl 1 rfl) ?_
              refine va_get (D := (dC, dI)) (ci := 6) (v := .ref (a 11)) (C := RX6) (T := TX6) (N := 23) hx hb hts i_X6 hown hK hP 0 rfl rfl 16 (by decide) f_3 (fun _ h9 => h9) rfl dX6_canBeEaten_83 ?_
              refine lv_iload hx hb dX6_canBeEaten_86 (lv_at hl 5 rfl) ?_
              refine cb_iald hx hb hK hP 11 10 (f := c_sto S) rfl rfl (j := i) (by omega) (Nat.le_of_ble_eq_true rfl) dX6_canBeEaten_88 ?_
              refine lv_icmp_gt (tgt := 96) hx hb dX6_canBeEaten_89 (by decide) (fun c_89 => ?_) (fun c_89 => ?_)
              · skip
                refine lv_iconst (v := nI 0) hx hb dX6_canBeEaten_96 (by decide) ?_
                refine lv_istore (lv' := [(4, .int (nI 0)), (3, .int (nI ((fb_ct (inM S mm) i) + 0))), (0, .ref (a 0)), (1, .int (nI mm)), (2, .int (nI (cntE S mm))), (5, .int (nI i))]) hx hb dX6_canBeEaten_97 hl (by decide) rfl (fun ls hl => ?_)
                refine lv_iinc (v := nI (i + 1)) (lv' := [(5, .int (nI (i + 1))), (4, .int (nI 0)), (3, .int (nI ((fb_ct (inM S mm) i) + 0))), (0, .ref (a 0)), (1, .int (nI mm)), (2, .int (nI (cntE S mm)))]) hx hb dX6_canBeEaten_99 hl (k := 5) rfl (nI_1 _) (by decide) rfl (fun ls hl => ?_)
                refine lv_goto (tgt := 31) hx hb dX6_canBeEaten_102 (by decide) ?_
                have hl : lv_has ls 6 [(5, .int (nI (i + 1))), (4, .int (nI 0)), (3, .int (nI (fb_ct (inM S mm) (i + 1)))), (0, .ref (a 0)), (1, .int (nI mm)), (2, .int (nI (cntE S mm)))] := cb_loc hl (e := Value.int (nI (fb_ct (inM S mm) (i + 1)))) 2 rfl (congrArg Value.int (show nI ((fb_ct (inM S mm) i) + 0) = nI (fb_ct (inM S mm) (i + 1)) from (by rw [fb_ct_succ, show inM S mm i = false from decide_eq_false (Int32.not_lt.mpr c_53)]; rfl)))
                have hl : lv_has ls 6 [(5, .int (nI (i + 1))), (4, .int (bI (beK S mm (i + 1)))), (3, .int (nI (fb_ct (inM S mm) (i + 1)))), (0, .ref (a 0)), (1, .int (nI mm)), (2, .int (nI (cntE S mm)))] := cb_loc hl (e := Value.int (bI (beK S mm (i + 1)))) 1 rfl (congrArg Value.int (show nI 0 = bI (beK S mm (i + 1)) from (bI_eq0 (by rw [beK_s, show stkE S mm (cntE S mm) i = false from decide_eq_false (Int32.not_le.mpr c_89), Bool.and_false]))))
                exact ih_31 (i + 1) (by omega) (by omega) ls (lv_sub hl [3, 4, 5, 2, 1, 0] rfl)
              · skip
                refine lv_iconst (v := nI 1) hx hb dX6_canBeEaten_92 (by decide) ?_
                refine lv_goto (tgt := 97) hx hb dX6_canBeEaten_93 (by decide) ?_
                refine lv_istore (lv' := [(4, .int (nI 1)), (3, .int (nI ((fb_ct (inM S mm) i) + 0))), (0, .ref (a 0)), (1, .int (nI mm)), (2, .int (nI (cntE S mm))), (5, .int (nI i))]) hx hb dX6_canBeEaten_97 hl (by decide) rfl (fun ls hl => ?_)
                refine lv_iinc (v := nI (i + 1)) (lv' := [(5, .int (nI (i + 1))), (4, .int (nI 1)), (3, .int (nI ((fb_ct (inM S mm) i) + 0))), (0, .ref (a 0)), (1, .int (nI mm)), (2, .int (nI (cntE S mm)))]) hx hb dX6_canBeEaten_99 hl (k := 5) rfl (nI_1 _) (by decide) rfl (fun ls hl => ?_)
                refine lv_goto (tgt := 31) hx hb dX6_canBeEaten_102 (by decide) ?_
                have hl : lv_has ls 6 [(5, .int (nI (i + 1))), (4, .int (nI 1)), (3, .int (nI (fb_ct (inM S mm) (i + 1)))), (0, .ref (a 0)), (1, .int (nI mm)), (2, .int (nI (cntE S mm)))] := cb_loc hl (e := Value.int (nI (fb_ct (inM S mm) (i + 1)))) 2 rfl (congrArg Value.int (show nI ((fb_ct (inM S mm) i) + 0) = nI (fb_ct (inM S mm) (i + 1)) from (by rw [fb_ct_succ, show inM S mm i = false from decide_eq_false (Int32.not_lt.mpr c_53)]; rfl)))
                have hl : lv_has ls 6 [(5, .int (nI (i + 1))), (4, .int (bI (beK S mm (i + 1)))), (3, .int (nI (fb_ct (inM S mm) (i + 1)))), (0, .ref (a 0)), (1, .int (nI mm)), (2, .int (nI (cntE S mm)))] := cb_loc hl (e := Value.int (bI (beK S mm (i + 1)))) 1 rfl (congrArg Value.int (show nI 1 = bI (beK S mm (i + 1)) from (bI_eq1 (by rw [beK_s, c_65, show stkE S mm (cntE S mm) i = true from decide_eq_true (Int32.not_lt.mp c_89)]; rfl))))
                exact ih_31 (i + 1) (by omega) (by omega) ls (lv_sub hl [3, 4, 5, 2, 1, 0] rfl)
          · skip
            refine lv_iconst (v := nI 1) hx hb dX6_canBeEaten_56 (by decide) ?_
            refine lv_goto (tgt := 61) hx hb dX6_canBeEaten_57 (by decide) ?_
            refine lv_iadd hx hb dX6_canBeEaten_61 ?_
            refine cb_topi (nI_add _ _) ?_
            refine lv_istore_n (lv' := [(3, .int (nI ((fb_ct (inM S mm) i) + 1))), (0, .ref (a 0)), (1, .int (nI mm)), (2, .int (nI (cntE S mm))), (4, .int (bI (beK S mm i))), (5, .int (nI i))]) hx hb dX6_canBeEaten_62 rfl hl (by decide) rfl (fun ls hl => ?_)
            refine lv_iload hx hb dX6_canBeEaten_63 (lv_at hl 4 rfl) ?_
            refine lv_if_eq (tgt := 96) hx hb dX6_canBeEaten_65 (by decide) (fun c_65 => ?_) (fun c_65 => ?_)
            · have c_65 : (beK S mm i) = false := bI_0 c_65
              refine lv_iconst (v := nI 0) hx hb dX6_canBeEaten_96 (by decide) ?_
              refine lv_istore (lv' := [(4, .int (nI 0)), (3, .int (nI ((fb_ct (inM S mm) i) + 1))), (0, .ref (a 0)), (1, .int (nI mm)), (2, .int (nI (cntE S mm))), (5, .int (nI i))]) hx hb dX6_canBeEaten_97 hl (by decide) rfl (fun ls hl => ?_)
              refine lv_iinc (v := nI (i + 1)) (lv' := [(5, .int (nI (i + 1))), (4, .int (nI 0)), (3, .int (nI ((fb_ct (inM S mm) i) + 1))), (0, .ref (a 0)), (1, .int (nI mm)), (2, .int (nI (cntE S mm)))]) hx hb dX6_canBeEaten_99 hl (k := 5) rfl (nI_1 _) (by decide) rfl (fun ls hl => ?_)
              refine lv_goto (tgt := 31) hx hb dX6_canBeEaten_102 (by decide) ?_
              have hl : lv_has ls 6 [(5, .int (nI (i + 1))), (4, .int (nI 0)), (3, .int (nI (fb_ct (inM S mm) (i + 1)))), (0, .ref (a 0)), (1, .int (nI mm)), (2, .int (nI (cntE S mm)))] := cb_loc hl (e := Value.int (nI (fb_ct (inM S mm) (i + 1)))) 2 rfl (congrArg Value.int (show nI ((fb_ct (inM S mm) i) + 1) = nI (fb_ct (inM S mm) (i + 1)) from (by rw [fb_ct_succ, show inM S mm i = true from decide_eq_true (Int32.not_le.mp c_53)]; rfl)))
              have hl : lv_has ls 6 [(5, .int (nI (i + 1))), (4, .int (bI (beK S mm (i + 1)))), (3, .int (nI (fb_ct (inM S mm) (i + 1)))), (0, .ref (a 0)), (1, .int (nI mm)), (2, .int (nI (cntE S mm)))] := cb_loc hl (e := Value.int (bI (beK S mm (i + 1)))) 1 rfl (congrArg Value.int (show nI 0 = bI (beK S mm (i + 1)) from (bI_eq0 (by rw [beK_s, c_65]; rfl))))
              exact ih_31 (i + 1) (by omega) (by omega) ls (lv_sub hl [3, 4, 5, 2, 1, 0] rfl)
            · have c_65 : (beK S mm i) = true := bI_n c_65
              refine lv_aload_n hx hb dX6_canBeEaten_68 rfl (lv_at hl 1 rfl) ?_
              refine va_get (D := (dC, dI)) (ci := 6) (v := .ref (a 12)) (C := RX6) (T := TX6) (N := 23) hx hb hts i_X6 hown hK hP 0 rfl rfl 18 (by decide) f_2 (fun _ h9 => h9) rfl dX6_canBeEaten_69 ?_
              refine lv_bipush (v := nI 12) hx hb dX6_canBeEaten_72 (by decide) ?_
              refine lv_iload_n hx hb dX6_canBeEaten_74 rfl (lv_at hl 2 rfl) ?_
              refine lv_imul hx hb dX6_canBeEaten_75 ?_
              refine cb_topi (pk_mul _ _) ?_
              refine lv_iload hx hb dX6_canBeEaten_76 (lv_at hl 5 rfl) ?_
              refine lv_iadd hx hb dX6_canBeEaten_78 ?_
              refine cb_topi (nI_add _ _) ?_
              refine cb_topi (z := nI (mm * 12 + i)) (congrArg nI (by omega)) ?_
              refine cb_iald hx hb hK hP 12 11 (f := c_ned S) rfl rfl (j := mm * 12 + i) (by omega) (Nat.le_of_ble_eq_true rfl) dX6_canBeEaten_79 ?_
              refine lv_iload_n hx hb dX6_canBeEaten_80 rfl (lv_at hl 3 rfl) ?_
              refine lv_imul hx hb dX6_canBeEaten_81 ?_
              refine lv_aload_n hx hb dX6_canBeEaten_82 rfl (lv_at hl 1 rfl) ?_
              refine va_get (D := (dC, dI)) (ci := 6) (v := .ref (a 11)) (C := RX6) (T := TX6) (N := 23) hx hb hts i_X6 hown hK hP 0 rfl rfl 16 (by decide) f_3 (fun _ h9 => h9) rfl dX6_canBeEaten_83 ?_
              refine lv_iload hx hb dX6_canBeEaten_86 (lv_at hl 5 rfl) ?_
              refine cb_iald hx hb hK hP 11 10 (f := c_sto S) rfl rfl (j := i) (by omega) (Nat.le_of_ble_eq_true rfl) dX6_canBeEaten_88 ?_
              refine lv_icmp_gt (tgt := 96) hx hb dX6_canBeEaten_89 (by decide) (fun c_89 => ?_) (fun c_89 => ?_)
              · skip
                refine lv_iconst (v := nI 0) hx hb dX6_canBeEaten_96 (by decide) ?_
                refine lv_istore (lv' := [(4, .int (nI 0)), (3, .int (nI ((fb_ct (inM S mm) i) + 1))), (0, .ref (a 0)), (1, .int (nI mm)), (2, .int (nI (cntE S mm))), (5, .int (nI i))]) hx hb dX6_canBeEaten_97 hl (by decide) rfl (fun ls hl => ?_)
                refine lv_iinc (v := nI (i + 1)) (lv' := [(5, .int (nI (i + 1))), (4, .int (nI 0)), (3, .int (nI ((fb_ct (inM S mm) i) + 1))), (0, .ref (a 0)), (1, .int (nI mm)), (2, .int (nI (cntE S mm)))]) hx hb dX6_canBeEaten_99 hl (k := 5) rfl (nI_1 _) (by decide) rfl (fun ls hl => ?_)
                refine lv_goto (tgt := 31) hx hb dX6_canBeEaten_102 (by decide) ?_
                have hl : lv_has ls 6 [(5, .int (nI (i + 1))), (4, .int (nI 0)), (3, .int (nI (fb_ct (inM S mm) (i + 1)))), (0, .ref (a 0)), (1, .int (nI mm)), (2, .int (nI (cntE S mm)))] := cb_loc hl (e := Value.int (nI (fb_ct (inM S mm) (i + 1)))) 2 rfl (congrArg Value.int (show nI ((fb_ct (inM S mm) i) + 1) = nI (fb_ct (inM S mm) (i + 1)) from (by rw [fb_ct_succ, show inM S mm i = true from decide_eq_true (Int32.not_le.mp c_53)]; rfl)))
                have hl : lv_has ls 6 [(5, .int (nI (i + 1))), (4, .int (bI (beK S mm (i + 1)))), (3, .int (nI (fb_ct (inM S mm) (i + 1)))), (0, .ref (a 0)), (1, .int (nI mm)), (2, .int (nI (cntE S mm)))] := cb_loc hl (e := Value.int (bI (beK S mm (i + 1)))) 1 rfl (congrArg Value.int (show nI 0 = bI (beK S mm (i + 1)) from (bI_eq0 (by rw [beK_s, show stkE S mm (cntE S mm) i = false from decide_eq_false (Int32.not_le.mpr c_89), Bool.and_false]))))
                exact ih_31 (i + 1) (by omega) (by omega) ls (lv_sub hl [3, 4, 5, 2, 1, 0] rfl)
              · skip
                refine lv_iconst (v := nI 1) hx hb dX6_canBeEaten_92 (by decide) ?_
                refine lv_goto (tgt := 97) hx hb dX6_canBeEaten_93 (by decide) ?_
                refine lv_istore (lv' := [(4, .int (nI 1)), (3, .int (nI ((fb_ct (inM S mm) i) + 1))), (0, .ref (a 0)), (1, .int (nI mm)), (2, .int (nI (cntE S mm))), (5, .int (nI i))]) hx hb dX6_canBeEaten_97 hl (by decide) rfl (fun ls hl => ?_)
                refine lv_iinc (v := nI (i + 1)) (lv' := [(5, .int (nI (i + 1))), (4, .int (nI 1)), (3, .int (nI ((fb_ct (inM S mm) i) + 1))), (0, .ref (a 0)), (1, .int (nI mm)), (2, .int (nI (cntE S mm)))]) hx hb dX6_canBeEaten_99 hl (k := 5) rfl (nI_1 _) (by decide) rfl (fun ls hl => ?_)
                refine lv_goto (tgt := 31) hx hb dX6_canBeEaten_102 (by decide) ?_
                have hl : lv_has ls 6 [(5, .int (nI (i + 1))), (4, .int (nI 1)), (3, .int (nI (fb_ct (inM S mm) (i + 1)))), (0, .ref (a 0)), (1, .int (nI mm)), (2, .int (nI (cntE S mm)))] := cb_loc hl (e := Value.int (nI (fb_ct (inM S mm) (i + 1)))) 2 rfl (congrArg Value.int (show nI ((fb_ct (inM S mm) i) + 1) = nI (fb_ct (inM S mm) (i + 1)) from (by rw [fb_ct_succ, show inM S mm i = true from decide_eq_true (Int32.not_le.mp c_53)]; rfl)))
                have hl : lv_has ls 6 [(5, .int (nI (i + 1))), (4, .int (bI (beK S mm (i + 1)))), (3, .int (nI (fb_ct (inM S mm) (i + 1)))), (0, .ref (a 0)), (1, .int (nI mm)), (2, .int (nI (cntE S mm)))] := cb_loc hl (e := Value.int (bI (beK S mm (i + 1)))) 1 rfl (congrArg Value.int (show nI 1 = bI (beK S mm (i + 1)) from (bI_eq1 (by rw [beK_s, c_65, show stkE S mm (cntE S mm) i = true from decide_eq_true (Int32.not_lt.mp c_89)]; rfl))))
                exact ih_31 (i + 1) (by omega) (by omega) ls (lv_sub hl [3, 4, 5, 2, 1, 0] rfl)
    have hl : lv_has ls 6 [(5, .int (nI 0)), (4, .int (nI 0)), (3, .int (nI (fb_ct (inM S mm) 0))), (2, .int (nI (cntE S mm))), (0, .ref (a 0)), (1, .int (nI mm))] := cb_loc hl (e := Value.int (nI (fb_ct (inM S mm) 0))) 2 rfl (congrArg Value.int (show nI 0 = nI (fb_ct (inM S mm) 0) from rfl))
    have hl : lv_has ls 6 [(5, .int (nI 0)), (4, .int (bI (beK S mm 0))), (3, .int (nI (fb_ct (inM S mm) 0))), (2, .int (nI (cntE S mm))), (0, .ref (a 0)), (1, .int (nI mm))] := cb_loc hl (e := Value.int (bI (beK S mm 0))) 1 rfl (congrArg Value.int (show nI 0 = bI (beK S mm 0) from (bI_eq0 (by unfold beK; rw [decide_eq_false (Nat.not_lt.mpr c_14)]; rfl))))
    exact L_31 (c_nf S + 1) 0 (by omega) (by omega) ls (lv_sub hl [4, 5, 3, 2, 1, 0] rfl)
  · have c_14 : (c_me S) < 3 := cb_nge (by omega) (by omega) c_14
    refine lv_iload_n hx hb dX6_canBeEaten_17 rfl (lv_at hl 1 rfl) ?_
    refine lv_if_le (tgt := 25) hx hb dX6_canBeEaten_18 (by decide) (fun c_18 => ?_) (fun c_18 => ?_)
    · have c_18 : (cntE S mm) ≤ 0 := cb_le (by omega) (by omega) c_18
      refine lv_iconst (v := nI 0) hx hb dX6_canBeEaten_25 (by decide) ?_
      refine lv_istore (lv' := [(4, .int (nI 0)), (3, .int (nI 0)), (2, .int (nI (cntE S mm))), (0, .ref (a 0)), (1, .int (nI mm))]) hx hb dX6_canBeEaten_26 hl (by decide) rfl (fun ls hl => ?_)
      refine lv_iconst (v := nI 0) hx hb dX6_canBeEaten_28 (by decide) ?_
      refine lv_istore (lv' := [(5, .int (nI 0)), (4, .int (nI 0)), (3, .int (nI 0)), (2, .int (nI (cntE S mm))), (0, .ref (a 0)), (1, .int (nI mm))]) hx hb dX6_canBeEaten_29 hl (by decide) rfl (fun ls hl => ?_)
      have L_31 : ∀ (n i : Nat), i ≤ c_nf S → c_nf S + 1 ≤ i + n → ∀ (ls : Array Slot), lv_has ls 6 [(0, .ref (a 0)), (1, .int (nI mm)), (2, .int (nI (cntE S mm))), (3, .int (nI (fb_ct (inM S mm) i))), (4, .int (bI (beK S mm i))), (5, .int (nI i))] → W p l e rm_X6_canBeEaten s m ([.ref (a 0), .int (nI mm)] : List Value).toArray below meth c s.heap [] 0 0 Q (F0 m 31 ls []) := by
        intro n
        induction n with
        | zero => intro i h1 h2; exact absurd h2 (by omega)
        | succ n ih_31 =>
          intro i hle_31 hfu_31 ls hl
          refine lv_iload hx hb dX6_canBeEaten_31 (lv_at hl 5 rfl) ?_
          refine lv_aload_n hx hb dX6_canBeEaten_33 rfl (lv_at hl 0 rfl) ?_
          refine va_get (D := (dC, dI)) (ci := 6) (v := .int (nI (c_nf S))) (C := RX6) (T := TX6) (N := 23) hx hb hts i_X6 hown hK hP 0 rfl rfl 15 (by decide) f_1 (fun _ h9 => h9) rfl dX6_canBeEaten_34 ?_
          refine lv_icmp_ge (tgt := 105) hx hb dX6_canBeEaten_37 (by decide) (fun c_37 => ?_) (fun c_37 => ?_)
          · have c_37 : (c_nf S) ≤ i := cb_ge (by omega) (by omega) c_37
            have hix : i = c_nf S := by omega
            have hct2 : fb_ct (inM S mm) i ≤ i := fb_ct_le _ _
            refine lv_iload hx hb dX6_canBeEaten_105 (lv_at hl 4 rfl) ?_
            refine lv_if_eq (tgt := 118) hx hb dX6_canBeEaten_107 (by decide) (fun c_107 => ?_) (fun c_107 => ?_)
            · have c_107 : (beK S mm i) = false := bI_0 c_107
              refine lv_iconst (v := nI 0) hx hb dX6_canBeEaten_118 (by decide) ?_
              rw [hQ]
              exact W.zret (v := nI 0) hx hb hr rfl (fun t9 ht9 hW9 => ⟨nI 0, rfl, (bI_eq0 (by rw [← beK_n, ← hix, c_107]; rfl)), ht9⟩) (fun q h => absurd h List.not_mem_nil) dX6_canBeEaten_119
            · have c_107 : (beK S mm i) = true := bI_n c_107
              refine lv_iload_n hx hb dX6_canBeEaten_110 rfl (lv_at hl 3 rfl) ?_
              refine lv_if_le (tgt := 118) hx hb dX6_canBeEaten_111 (by decide) (fun c_111 => ?_) (fun c_111 => ?_)
              · have c_111 : (fb_ct (inM S mm) i) ≤ 0 := cb_le (by omega) (by omega) c_111
                refine lv_iconst (v := nI 0) hx hb dX6_canBeEaten_118 (by decide) ?_
                rw [hQ]
                exact W.zret (v := nI 0) hx hb hr rfl (fun t9 ht9 hW9 => ⟨nI 0, rfl, (bI_eq0 (by rw [← beK_n, ← hix, decide_eq_false (Nat.not_lt.mpr c_111), Bool.and_false])), ht9⟩) (fun q h => absurd h List.not_mem_nil) dX6_canBeEaten_119
              · have c_111 : 0 < (fb_ct (inM S mm) i) := cb_nle (by omega) (by omega) c_111
                refine lv_iconst (v := nI 1) hx hb dX6_canBeEaten_114 (by decide) ?_
                refine lv_goto (tgt := 119) hx hb dX6_canBeEaten_115 (by decide) ?_
                rw [hQ]
                exact W.zret (v := nI 1) hx hb hr rfl (fun t9 ht9 hW9 => ⟨nI 1, rfl, (bI_eq1 (by rw [← beK_n, ← hix, c_107, decide_eq_true c_111]; rfl)), ht9⟩) (fun q h => absurd h List.not_mem_nil) dX6_canBeEaten_119
          · have c_37 : i < (c_nf S) := cb_nge (by omega) (by omega) c_37
            refine lv_iload_n hx hb dX6_canBeEaten_40 rfl (lv_at hl 3 rfl) ?_
            refine lv_aload_n hx hb dX6_canBeEaten_41 rfl (lv_at hl 0 rfl) ?_
            refine va_get (D := (dC, dI)) (ci := 6) (v := .ref (a 12)) (C := RX6) (T := TX6) (N := 23) hx hb hts i_X6 hown hK hP 0 rfl rfl 18 (by decide) f_2 (fun _ h9 => h9) rfl dX6_canBeEaten_42 ?_
            refine lv_bipush (v := nI 12) hx hb dX6_canBeEaten_45 (by decide) ?_
            refine lv_iload_n hx hb dX6_canBeEaten_47 rfl (lv_at hl 1 rfl) ?_
            refine lv_imul hx hb dX6_canBeEaten_48 ?_
            refine cb_topi (pk_mul _ _) ?_
            refine lv_iload hx hb dX6_canBeEaten_49 (lv_at hl 5 rfl) ?_
            refine lv_iadd hx hb dX6_canBeEaten_51 ?_
            refine cb_topi (nI_add _ _) ?_
            refine cb_topi (z := nI (mm * 12 + i)) (congrArg nI (by omega)) ?_
            refine cb_iald hx hb hK hP 12 11 (f := c_ned S) rfl rfl (j := mm * 12 + i) (by omega) (Nat.le_of_ble_eq_true rfl) dX6_canBeEaten_52 ?_
            refine lv_if_le (tgt := 60) hx hb dX6_canBeEaten_53 (by decide) (fun c_53 => ?_) (fun c_53 => ?_)
            · skip
              refine lv_iconst (v := nI 0) hx hb dX6_canBeEaten_60 (by decide) ?_
              refine lv_iadd hx hb dX6_canBeEaten_61 ?_
              refine cb_topi (nI_add _ _) ?_
              refine lv_istore_n (lv' := [(3, .int (nI ((fb_ct (inM S mm) i) + 0))), (0, .ref (a 0)), (1, .int (nI mm)), (2, .int (nI (cntE S mm))), (4, .int (bI (beK S mm i))), (5, .int (nI i))]) hx hb dX6_canBeEaten_62 rfl hl (by decide) rfl (fun ls hl => ?_)
              refine lv_iload hx hb dX6_canBeEaten_63 (lv_at hl 4 rfl) ?_
              refine lv_if_eq (tgt := 96) hx hb dX6_canBeEaten_65 (by decide) (fun c_65 => ?_) (fun c_65 => ?_)
              · have c_65 : (beK S mm i) = false := bI_0 c_65
                refine lv_iconst (v := nI 0) hx hb dX6_canBeEaten_96 (by decide) ?_
                refine lv_istore (lv' := [(4, .int (nI 0)), (3, .int (nI ((fb_ct (inM S mm) i) + 0))), (0, .ref (a 0)), (1, .int (nI mm)), (2, .int (nI (cntE S mm))), (5, .int (nI i))]) hx hb dX6_canBeEaten_97 hl (by decide) rfl (fun ls hl => ?_)
                refine lv_iinc (v := nI (i + 1)) (lv' := [(5, .int (nI (i + 1))), (4, .int (nI 0)), (3, .int (nI ((fb_ct (inM S mm) i) + 0))), (0, .ref (a 0)), (1, .int (nI mm)), (2, .int (nI (cntE S mm)))]) hx hb dX6_canBeEaten_99 hl (k := 5) rfl (nI_1 _) (by decide) rfl (fun ls hl => ?_)
                refine lv_goto (tgt := 31) hx hb dX6_canBeEaten_102 (by decide) ?_
                have hl : lv_has ls 6 [(5, .int (nI (i + 1))), (4, .int (nI 0)), (3, .int (nI (fb_ct (inM S mm) (i + 1)))), (0, .ref (a 0)), (1, .int (nI mm)), (2, .int (nI (cntE S mm)))] := cb_loc hl (e := Value.int (nI (fb_ct (inM S mm) (i + 1)))) 2 rfl (congrArg Value.int (show nI ((fb_ct (inM S mm) i) + 0) = nI (fb_ct (inM S mm) (i + 1)) from (by rw [fb_ct_succ, show inM S mm i = false from decide_eq_false (Int32.not_lt.mpr c_53)]; rfl)))
                have hl : lv_has ls 6 [(5, .int (nI (i + 1))), (4, .int (bI (beK S mm (i + 1)))), (3, .int (nI (fb_ct (inM S mm) (i + 1)))), (0, .ref (a 0)), (1, .int (nI mm)), (2, .int (nI (cntE S mm)))] := cb_loc hl (e := Value.int (bI (beK S mm (i + 1)))) 1 rfl (congrArg Value.int (show nI 0 = bI (beK S mm (i + 1)) from (bI_eq0 (by rw [beK_s, c_65]; rfl))))
                exact ih_31 (i + 1) (by omega) (by omega) ls (lv_sub hl [3, 4, 5, 2, 1, 0] rfl)
              · have c_65 : (beK S mm i) = true := bI_n c_65
                refine lv_aload_n hx hb dX6_canBeEaten_68 rfl (lv_at hl 1 rfl) ?_
                refine va_get (D := (dC, dI)) (ci := 6) (v := .ref (a 12)) (C := RX6) (T := TX6) (N := 23) hx hb hts i_X6 hown hK hP 0 rfl rfl 18 (by decide) f_2 (fun _ h9 => h9) rfl dX6_canBeEaten_69 ?_
                refine lv_bipush (v := nI 12) hx hb dX6_canBeEaten_72 (by decide) ?_
                refine lv_iload_n hx hb dX6_canBeEaten_74 rfl (lv_at hl 2 rfl) ?_
                refine lv_imul hx hb dX6_canBeEaten_75 ?_
                refine cb_topi (pk_mul _ _) ?_
                refine lv_iload hx hb dX6_canBeEaten_76 (lv_at hl 5 rfl) ?_
                refine lv_iadd hx hb dX6_canBeEaten_78 ?_
                refine cb_topi (nI_add _ _) ?_
                refine cb_topi (z := nI (mm * 12 + i)) (congrArg nI (by omega)) ?_
                refine cb_iald hx hb hK hP 12 11 (f := c_ned S) rfl rfl (j := mm * 12 + i) (by omega) (Nat.le_of_ble_eq_true rfl) dX6_canBeEaten_79 ?_
                refine lv_iload_n hx hb dX6_canBeEaten_80 rfl (lv_at hl 3 rfl) ?_
                refine lv_imul hx hb dX6_canBeEaten_81 ?_
                refine lv_aload_n hx hb dX6_canBeEaten_82 rfl (lv_at hl 1 rfl) ?_
                refine va_get (D := (dC, dI)) (ci := 6) (v := .ref (a 11)) (C := RX6) (T := TX6) (N := 23) hx hb hts i_X6 hown hK hP 0 rfl rfl 16 (by decide) f_3 (fun _ h9 => h9) rfl dX6_canBeEaten_83 ?_
                refine lv_iload hx hb dX6_canBeEaten_86 (lv_at hl 5 rfl) ?_
                refine cb_iald hx hb hK hP 11 10 (f := c_sto S) rfl rfl (j := i) (by omega) (Nat.le_of_ble_eq_true rfl) dX6_canBeEaten_88 ?_
                refine lv_icmp_gt (tgt := 96) hx hb dX6_canBeEaten_89 (by decide) (fun c_89 => ?_) (fun c_89 => ?_)
                · skip
                  refine lv_iconst (v := nI 0) hx hb dX6_canBeEaten_96 (by decide) ?_
                  refine lv_istore (lv' := [(4, .int (nI 0)), (3, .int (nI ((fb_ct (inM S mm) i) + 0))), (0, .ref (a 0)), (1, .int (nI mm)), (2, .int (nI (cntE S mm))), (5, .int (nI i))]) hx hb dX6_canBeEaten_97 hl (by decide) rfl (fun ls hl => ?_)
                  refine lv_iinc (v := nI (i + 1)) (lv' := [(5, .int (nI (i + 1))), (4, .int (nI 0)), (3, .int (nI ((fb_ct (inM S mm) i) + 0))), (0, .ref (a 0)), (1, .int (nI mm)), (2, .int (nI (cntE S mm)))]) hx hb dX6_canBeEaten_99 hl (k := 5) rfl (nI_1 _) (by decide) rfl (fun ls hl => ?_)
                  refine lv_goto (tgt := 31) hx hb dX6_canBeEaten_102 (by decide) ?_
                  have hl : lv_has ls 6 [(5, .int (nI (i + 1))), (4, .int (nI 0)), (3, .int (nI (fb_ct (inM S mm) (i + 1)))), (0, .ref (a 0)), (1, .int (nI mm)), (2, .int (nI (cntE S mm)))] := cb_loc hl (e := Value.int (nI (fb_ct (inM S mm) (i + 1)))) 2 rfl (congrArg Value.int (show nI ((fb_ct (inM S mm) i) + 0) = nI (fb_ct (inM S mm) (i + 1)) from (by rw [fb_ct_succ, show inM S mm i = false from decide_eq_false (Int32.not_lt.mpr c_53)]; rfl)))
                  have hl : lv_has ls 6 [(5, .int (nI (i + 1))), (4, .int (bI (beK S mm (i + 1)))), (3, .int (nI (fb_ct (inM S mm) (i + 1)))), (0, .ref (a 0)), (1, .int (nI mm)), (2, .int (nI (cntE S mm)))] := cb_loc hl (e := Value.int (bI (beK S mm (i + 1)))) 1 rfl (congrArg Value.int (show nI 0 = bI (beK S mm (i + 1)) from (bI_eq0 (by rw [beK_s, show stkE S mm (cntE S mm) i = false from decide_eq_false (Int32.not_le.mpr c_89), Bool.and_false]))))
                  exact ih_31 (i + 1) (by omega) (by omega) ls (lv_sub hl [3, 4, 5, 2, 1, 0] rfl)
                · skip
                  refine lv_iconst (v := nI 1) hx hb dX6_canBeEaten_92 (by decide) ?_
                  refine lv_goto (tgt := 97) hx hb dX6_canBeEaten_93 (by decide) ?_
                  refine lv_istore (lv' := [(4, .int (nI 1)), (3, .int (nI ((fb_ct (inM S mm) i) + 0))), (0, .ref (a 0)), (1, .int (nI mm)), (2, .int (nI (cntE S mm))), (5, .int (nI i))]) hx hb dX6_canBeEaten_97 hl (by decide) rfl (fun ls hl => ?_)
                  refine lv_iinc (v := nI (i + 1)) (lv' := [(5, .int (nI (i + 1))), (4, .int (nI 1)), (3, .int (nI ((fb_ct (inM S mm) i) + 0))), (0, .ref (a 0)), (1, .int (nI mm)), (2, .int (nI (cntE S mm)))]) hx hb dX6_canBeEaten_99 hl (k := 5) rfl (nI_1 _) (by decide) rfl (fun ls hl => ?_)
                  refine lv_goto (tgt := 31) hx hb dX6_canBeEaten_102 (by decide) ?_
                  have hl : lv_has ls 6 [(5, .int (nI (i + 1))), (4, .int (nI 1)), (3, .int (nI (fb_ct (inM S mm) (i + 1)))), (0, .ref (a 0)), (1, .int (nI mm)), (2, .int (nI (cntE S mm)))] := cb_loc hl (e := Value.int (nI (fb_ct (inM S mm) (i + 1)))) 2 rfl (congrArg Value.int (show nI ((fb_ct (inM S mm) i) + 0) = nI (fb_ct (inM S mm) (i + 1)) from (by rw [fb_ct_succ, show inM S mm i = false from decide_eq_false (Int32.not_lt.mpr c_53)]; rfl)))
                  have hl : lv_has ls 6 [(5, .int (nI (i + 1))), (4, .int (bI (beK S mm (i + 1)))), (3, .int (nI (fb_ct (inM S mm) (i + 1)))), (0, .ref (a 0)), (1, .int (nI mm)), (2, .int (nI (cntE S mm)))] := cb_loc hl (e := Value.int (bI (beK S mm (i + 1)))) 1 rfl (congrArg Value.int (show nI 1 = bI (beK S mm (i + 1)) from (bI_eq1 (by rw [beK_s, c_65, show stkE S mm (cntE S mm) i = true from decide_eq_true (Int32.not_lt.mp c_89)]; rfl))))
                  exact ih_31 (i + 1) (by omega) (by omega) ls (lv_sub hl [3, 4, 5, 2, 1, 0] rfl)
            · skip
              refine lv_iconst (v := nI 1) hx hb dX6_canBeEaten_56 (by decide) ?_
              refine lv_goto (tgt := 61) hx hb dX6_canBeEaten_57 (by decide) ?_
              refine lv_iadd hx hb dX6_canBeEaten_61 ?_
              refine cb_topi (nI_add _ _) ?_
              refine lv_istore_n (lv' := [(3, .int (nI ((fb_ct (inM S mm) i) + 1))), (0, .ref (a 0)), (1, .int (nI mm)), (2, .int (nI (cntE S mm))), (4, .int (bI (beK S mm i))), (5, .int (nI i))]) hx hb dX6_canBeEaten_62 rfl hl (by decide) rfl (fun ls hl => ?_)
              refine lv_iload hx hb dX6_canBeEaten_63 (lv_at hl 4 rfl) ?_
              refine lv_if_eq (tgt := 96) hx hb dX6_canBeEaten_65 (by decide) (fun c_65 => ?_) (fun c_65 => ?_)
              · have c_65 : (beK S mm i) = false := bI_0 c_65
                refine lv_iconst (v := nI 0) hx hb dX6_canBeEaten_96 (by decide) ?_
                refine lv_istore (lv' := [(4, .int (nI 0)), (3, .int (nI ((fb_ct (inM S mm) i) + 1))), (0, .ref (a 0)), (1, .int (nI mm)), (2, .int (nI (cntE S mm))), (5, .int (nI i))]) hx hb dX6_canBeEaten_97 hl (by decide) rfl (fun ls hl => ?_)
                refine lv_iinc (v := nI (i + 1)) (lv' := [(5, .int (nI (i + 1))), (4, .int (nI 0)), (3, .int (nI ((fb_ct (inM S mm) i) + 1))), (0, .ref (a 0)), (1, .int (nI mm)), (2, .int (nI (cntE S mm)))]) hx hb dX6_canBeEaten_99 hl (k := 5) rfl (nI_1 _) (by decide) rfl (fun ls hl => ?_)
                refine lv_goto (tgt := 31) hx hb dX6_canBeEaten_102 (by decide) ?_
                have hl : lv_has ls 6 [(5, .int (nI (i + 1))), (4, .int (nI 0)), (3, .int (nI (fb_ct (inM S mm) (i + 1)))), (0, .ref (a 0)), (1, .int (nI mm)), (2, .int (nI (cntE S mm)))] := cb_loc hl (e := Value.int (nI (fb_ct (inM S mm) (i + 1)))) 2 rfl (congrArg Value.int (show nI ((fb_ct (inM S mm) i) + 1) = nI (fb_ct (inM S mm) (i + 1)) from (by rw [fb_ct_succ, show inM S mm i = true from decide_eq_true (Int32.not_le.mp c_53)]; rfl)))
                have hl : lv_has ls 6 [(5, .int (nI (i + 1))), (4, .int (bI (beK S mm (i + 1)))), (3, .int (nI (fb_ct (inM S mm) (i + 1)))), (0, .ref (a 0)), (1, .int (nI mm)), (2, .int (nI (cntE S mm)))] := cb_loc hl (e := Value.int (bI (beK S mm (i + 1)))) 1 rfl (congrArg Value.int (show nI 0 = bI (beK S mm (i + 1)) from (bI_eq0 (by rw [beK_s, c_65]; rfl))))
                exact ih_31 (i + 1) (by omega) (by omega) ls (lv_sub hl [3, 4, 5, 2, 1, 0] rfl)
              · have c_65 : (beK S mm i) = true := bI_n c_65
                refine lv_aload_n hx hb dX6_canBeEaten_68 rfl (lv_at hl 1 rfl) ?_
                refine va_get (D := (dC, dI)) (ci := 6) (v := .ref (a 12)) (C := RX6) (T := TX6) (N := 23) hx hb hts i_X6 hown hK hP 0 rfl rfl 18 (by decide) f_2 (fun _ h9 => h9) rfl dX6_canBeEaten_69 ?_
                refine lv_bipush (v := nI 12) hx hb dX6_canBeEaten_72 (by decide) ?_
                refine lv_iload_n hx hb dX6_canBeEaten_74 rfl (lv_at hl 2 rfl) ?_
                refine lv_imul hx hb dX6_canBeEaten_75 ?_
                refine cb_topi (pk_mul _ _) ?_
                refine lv_iload hx hb dX6_canBeEaten_76 (lv_at hl 5 rfl) ?_
                refine lv_iadd hx hb dX6_canBeEaten_78 ?_
                refine cb_topi (nI_add _ _) ?_
                refine cb_topi (z := nI (mm * 12 + i)) (congrArg nI (by omega)) ?_
                refine cb_iald hx hb hK hP 12 11 (f := c_ned S) rfl rfl (j := mm * 12 + i) (by omega) (Nat.le_of_ble_eq_true rfl) dX6_canBeEaten_79 ?_
                refine lv_iload_n hx hb dX6_canBeEaten_80 rfl (lv_at hl 3 rfl) ?_
                refine lv_imul hx hb dX6_canBeEaten_81 ?_
                refine lv_aload_n hx hb dX6_canBeEaten_82 rfl (lv_at hl 1 rfl) ?_
                refine va_get (D := (dC, dI)) (ci := 6) (v := .ref (a 11)) (C := RX6) (T := TX6) (N := 23) hx hb hts i_X6 hown hK hP 0 rfl rfl 16 (by decide) f_3 (fun _ h9 => h9) rfl dX6_canBeEaten_83 ?_
                refine lv_iload hx hb dX6_canBeEaten_86 (lv_at hl 5 rfl) ?_
                refine cb_iald hx hb hK hP 11 10 (f := c_sto S) rfl rfl (j := i) (by omega) (Nat.le_of_ble_eq_true rfl) dX6_canBeEaten_88 ?_
                refine lv_icmp_gt (tgt := 96) hx hb dX6_canBeEaten_89 (by decide) (fun c_89 => ?_) (fun c_89 => ?_)
                · skip
                  refine lv_iconst (v := nI 0) hx hb dX6_canBeEaten_96 (by decide) ?_
                  refine lv_istore (lv' := [(4, .int (nI 0)), (3, .int (nI ((fb_ct (inM S mm) i) + 1))), (0, .ref (a 0)), (1, .int (nI mm)), (2, .int (nI (cntE S mm))), (5, .int (nI i))]) hx hb dX6_canBeEaten_97 hl (by decide) rfl (fun ls hl => ?_)
                  refine lv_iinc (v := nI (i + 1)) (lv' := [(5, .int (nI (i + 1))), (4, .int (nI 0)), (3, .int (nI ((fb_ct (inM S mm) i) + 1))), (0, .ref (a 0)), (1, .int (nI mm)), (2, .int (nI (cntE S mm)))]) hx hb dX6_canBeEaten_99 hl (k := 5) rfl (nI_1 _) (by decide) rfl (fun ls hl => ?_)
                  refine lv_goto (tgt := 31) hx hb dX6_canBeEaten_102 (by decide) ?_
                  have hl : lv_has ls 6 [(5, .int (nI (i + 1))), (4, .int (nI 0)), (3, .int (nI (fb_ct (inM S mm) (i + 1)))), (0, .ref (a 0)), (1, .int (nI mm)), (2, .int (nI (cntE S mm)))] := cb_loc hl (e := Value.int (nI (fb_ct (inM S mm) (i + 1)))) 2 rfl (congrArg Value.int (show nI ((fb_ct (inM S mm) i) + 1) = nI (fb_ct (inM S mm) (i + 1)) from (by rw [fb_ct_succ, show inM S mm i = true from decide_eq_true (Int32.not_le.mp c_53)]; rfl)))
                  have hl : lv_has ls 6 [(5, .int (nI (i + 1))), (4, .int (bI (beK S mm (i + 1)))), (3, .int (nI (fb_ct (inM S mm) (i + 1)))), (0, .ref (a 0)), (1, .int (nI mm)), (2, .int (nI (cntE S mm)))] := cb_loc hl (e := Value.int (bI (beK S mm (i + 1)))) 1 rfl (congrArg Value.int (show nI 0 = bI (beK S mm (i + 1)) from (bI_eq0 (by rw [beK_s, show stkE S mm (cntE S mm) i = false from decide_eq_false (Int32.not_le.mpr c_89), Bool.and_false]))))
                  exact ih_31 (i + 1) (by omega) (by omega) ls (lv_sub hl [3, 4, 5, 2, 1, 0] rfl)
                · skip
                  refine lv_iconst (v := nI 1) hx hb dX6_canBeEaten_92 (by decide) ?_
                  refine lv_goto (tgt := 97) hx hb dX6_canBeEaten_93 (by decide) ?_
                  refine lv_istore (lv' := [(4, .int (nI 1)), (3, .int (nI ((fb_ct (inM S mm) i) + 1))), (0, .ref (a 0)), (1, .int (nI mm)), (2, .int (nI (cntE S mm))), (5, .int (nI i))]) hx hb dX6_canBeEaten_97 hl (by decide) rfl (fun ls hl => ?_)
                  refine lv_iinc (v := nI (i + 1)) (lv' := [(5, .int (nI (i + 1))), (4, .int (nI 1)), (3, .int (nI ((fb_ct (inM S mm) i) + 1))), (0, .ref (a 0)), (1, .int (nI mm)), (2, .int (nI (cntE S mm)))]) hx hb dX6_canBeEaten_99 hl (k := 5) rfl (nI_1 _) (by decide) rfl (fun ls hl => ?_)
                  refine lv_goto (tgt := 31) hx hb dX6_canBeEaten_102 (by decide) ?_
                  have hl : lv_has ls 6 [(5, .int (nI (i + 1))), (4, .int (nI 1)), (3, .int (nI (fb_ct (inM S mm) (i + 1)))), (0, .ref (a 0)), (1, .int (nI mm)), (2, .int (nI (cntE S mm)))] := cb_loc hl (e := Value.int (nI (fb_ct (inM S mm) (i + 1)))) 2 rfl (congrArg Value.int (show nI ((fb_ct (inM S mm) i) + 1) = nI (fb_ct (inM S mm) (i + 1)) from (by rw [fb_ct_succ, show inM S mm i = true from decide_eq_true (Int32.not_le.mp c_53)]; rfl)))
                  have hl : lv_has ls 6 [(5, .int (nI (i + 1))), (4, .int (bI (beK S mm (i + 1)))), (3, .int (nI (fb_ct (inM S mm) (i + 1)))), (0, .ref (a 0)), (1, .int (nI mm)), (2, .int (nI (cntE S mm)))] := cb_loc hl (e := Value.int (bI (beK S mm (i + 1)))) 1 rfl (congrArg Value.int (show nI 1 = bI (beK S mm (i + 1)) from (bI_eq1 (by rw [beK_s, c_65, show stkE S mm (cntE S mm) i = true from decide_eq_true (Int32.not_lt.mp c_89)]; rfl))))
                  exact ih_31 (i + 1) (by omega) (by omega) ls (lv_sub hl [3, 4, 5, 2, 1, 0] rfl)
      have hl : lv_has ls 6 [(5, .int (nI 0)), (4, .int (nI 0)), (3, .int (nI (fb_ct (inM S mm) 0))), (2, .int (nI (cntE S mm))), (0, .ref (a 0)), (1, .int (nI mm))] := cb_loc hl (e := Value.int (nI (fb_ct (inM S mm) 0))) 2 rfl (congrArg Value.int (show nI 0 = nI (fb_ct (inM S mm) 0) from rfl))
      have hl : lv_has ls 6 [(5, .int (nI 0)), (4, .int (bI (beK S mm 0))), (3, .int (nI (fb_ct (inM S mm) 0))), (2, .int (nI (cntE S mm))), (0, .ref (a 0)), (1, .int (nI mm))] := cb_loc hl (e := Value.int (bI (beK S mm 0))) 1 rfl (congrArg Value.int (show nI 0 = bI (beK S mm 0) from (bI_eq0 (by unfold beK; rw [decide_eq_false (Nat.not_lt.mpr c_18), Bool.and_false]; rfl))))
      exact L_31 (c_nf S + 1) 0 (by omega) (by omega) ls (lv_sub hl [4, 5, 3, 2, 1, 0] rfl)
    · have c_18 : 0 < (cntE S mm) := cb_nle (by omega) (by omega) c_18
      refine lv_iconst (v := nI 1) hx hb dX6_canBeEaten_21 (by decide) ?_
      refine lv_goto (tgt := 26) hx hb dX6_canBeEaten_22 (by decide) ?_
      refine lv_istore (lv' := [(4, .int (nI 1)), (3, .int (nI 0)), (2, .int (nI (cntE S mm))), (0, .ref (a 0)), (1, .int (nI mm))]) hx hb dX6_canBeEaten_26 hl (by decide) rfl (fun ls hl => ?_)
      refine lv_iconst (v := nI 0) hx hb dX6_canBeEaten_28 (by decide) ?_
      refine lv_istore (lv' := [(5, .int (nI 0)), (4, .int (nI 1)), (3, .int (nI 0)), (2, .int (nI (cntE S mm))), (0, .ref (a 0)), (1, .int (nI mm))]) hx hb dX6_canBeEaten_29 hl (by decide) rfl (fun ls hl => ?_)
      have L_31 : ∀ (n i : Nat), i ≤ c_nf S → c_nf S + 1 ≤ i + n → ∀ (ls : Array Slot), lv_has ls 6 [(0, .ref (a 0)), (1, .int (nI mm)), (2, .int (nI (cntE S mm))), (3, .int (nI (fb_ct (inM S mm) i))), (4, .int (bI (beK S mm i))), (5, .int (nI i))] → W p l e rm_X6_canBeEaten s m ([.ref (a 0), .int (nI mm)] : List Value).toArray below meth c s.heap [] 0 0 Q (F0 m 31 ls []) := by
        intro n
        induction n with
        | zero => intro i h1 h2; exact absurd h2 (by omega)
        | succ n ih_31 =>
          intro i hle_31 hfu_31 ls hl
          refine lv_iload hx hb dX6_canBeEaten_31 (lv_at hl 5 rfl) ?_
          refine lv_aload_n hx hb dX6_canBeEaten_33 rfl (lv_at hl 0 rfl) ?_
          refine va_get (D := (dC, dI)) (ci := 6) (v := .int (nI (c_nf S))) (C := RX6) (T := TX6) (N := 23) hx hb hts i_X6 hown hK hP 0 rfl rfl 15 (by decide) f_1 (fun _ h9 => h9) rfl dX6_canBeEaten_34 ?_
          refine lv_icmp_ge (tgt := 105) hx hb dX6_canBeEaten_37 (by decide) (fun c_37 => ?_) (fun c_37 => ?_)
          · have c_37 : (c_nf S) ≤ i := cb_ge (by omega) (by omega) c_37
            have hix : i = c_nf S := by omega
            have hct2 : fb_ct (inM S mm) i ≤ i := fb_ct_le _ _
            refine lv_iload hx hb dX6_canBeEaten_105 (lv_at hl 4 rfl) ?_
            refine lv_if_eq (tgt := 118) hx hb dX6_canBeEaten_107 (by decide) (fun c_107 => ?_) (fun c_107 => ?_)
            · have c_107 : (beK S mm i) = false := bI_0 c_107
              refine lv_iconst (v := nI 0) hx hb dX6_canBeEaten_118 (by decide) ?_
              rw [hQ]
              exact W.zret (v := nI 0) hx hb hr rfl (fun t9 ht9 hW9 => ⟨nI 0, rfl, (bI_eq0 (by rw [← beK_n, ← hix, c_107]; rfl)), ht9⟩) (fun q h => absurd h List.not_mem_nil) dX6_canBeEaten_119
            · have c_107 : (beK S mm i) = true := bI_n c_107
              refine lv_iload_n hx hb dX6_canBeEaten_110 rfl (lv_at hl 3 rfl) ?_
              refine lv_if_le (tgt := 118) hx hb dX6_canBeEaten_111 (by decide) (fun c_111 => ?_) (fun c_111 => ?_)
              · have c_111 : (fb_ct (inM S mm) i) ≤ 0 := cb_le (by omega) (by omega) c_111
                refine lv_iconst (v := nI 0) hx hb dX6_canBeEaten_118 (by decide) ?_
                rw [hQ]
                exact W.zret (v := nI 0) hx hb hr rfl (fun t9 ht9 hW9 => ⟨nI 0, rfl, (bI_eq0 (by rw [← beK_n, ← hix, decide_eq_false (Nat.not_lt.mpr c_111), Bool.and_false])), ht9⟩) (fun q h => absurd h List.not_mem_nil) dX6_canBeEaten_119
              · have c_111 : 0 < (fb_ct (inM S mm) i) := cb_nle (by omega) (by omega) c_111
                refine lv_iconst (v := nI 1) hx hb dX6_canBeEaten_114 (by decide) ?_
                refine lv_goto (tgt := 119) hx hb dX6_canBeEaten_115 (by decide) ?_
                rw [hQ]
                exact W.zret (v := nI 1) hx hb hr rfl (fun t9 ht9 hW9 => ⟨nI 1, rfl, (bI_eq1 (by rw [← beK_n, ← hix, c_107, decide_eq_true c_111]; rfl)), ht9⟩) (fun q h => absurd h List.not_mem_nil) dX6_canBeEaten_119
          · have c_37 : i < (c_nf S) := cb_nge (by omega) (by omega) c_37
            refine lv_iload_n hx hb dX6_canBeEaten_40 rfl (lv_at hl 3 rfl) ?_
            refine lv_aload_n hx hb dX6_canBeEaten_41 rfl (lv_at hl 0 rfl) ?_
            refine va_get (D := (dC, dI)) (ci := 6) (v := .ref (a 12)) (C := RX6) (T := TX6) (N := 23) hx hb hts i_X6 hown hK hP 0 rfl rfl 18 (by decide) f_2 (fun _ h9 => h9) rfl dX6_canBeEaten_42 ?_
            refine lv_bipush (v := nI 12) hx hb dX6_canBeEaten_45 (by decide) ?_
            refine lv_iload_n hx hb dX6_canBeEaten_47 rfl (lv_at hl 1 rfl) ?_
            refine lv_imul hx hb dX6_canBeEaten_48 ?_
            refine cb_topi (pk_mul _ _) ?_
            refine lv_iload hx hb dX6_canBeEaten_49 (lv_at hl 5 rfl) ?_
            refine lv_iadd hx hb dX6_canBeEaten_51 ?_
            refine cb_topi (nI_add _ _) ?_
            refine cb_topi (z := nI (mm * 12 + i)) (congrArg nI (by omega)) ?_
            refine cb_iald hx hb hK hP 12 11 (f := c_ned S) rfl rfl (j := mm * 12 + i) (by omega) (Nat.le_of_ble_eq_true rfl) dX6_canBeEaten_52 ?_
            refine lv_if_le (tgt := 60) hx hb dX6_canBeEaten_53 (by decide) (fun c_53 => ?_) (fun c_53 => ?_)
            · skip
              refine lv_iconst (v := nI 0) hx hb dX6_canBeEaten_60 (by decide) ?_
              refine lv_iadd hx hb dX6_canBeEaten_61 ?_
              refine cb_topi (nI_add _ _) ?_
              refine lv_istore_n (lv' := [(3, .int (nI ((fb_ct (inM S mm) i) + 0))), (0, .ref (a 0)), (1, .int (nI mm)), (2, .int (nI (cntE S mm))), (4, .int (bI (beK S mm i))), (5, .int (nI i))]) hx hb dX6_canBeEaten_62 rfl hl (by decide) rfl (fun ls hl => ?_)
              refine lv_iload hx hb dX6_canBeEaten_63 (lv_at hl 4 rfl) ?_
              refine lv_if_eq (tgt := 96) hx hb dX6_canBeEaten_65 (by decide) (fun c_65 => ?_) (fun c_65 => ?_)
              · have c_65 : (beK S mm i) = false := bI_0 c_65
                refine lv_iconst (v := nI 0) hx hb dX6_canBeEaten_96 (by decide) ?_
                refine lv_istore (lv' := [(4, .int (nI 0)), (3, .int (nI ((fb_ct (inM S mm) i) + 0))), (0, .ref (a 0)), (1, .int (nI mm)), (2, .int (nI (cntE S mm))), (5, .int (nI i))]) hx hb dX6_canBeEaten_97 hl (by decide) rfl (fun ls hl => ?_)
                refine lv_iinc (v := nI (i + 1)) (lv' := [(5, .int (nI (i + 1))), (4, .int (nI 0)), (3, .int (nI ((fb_ct (inM S mm) i) + 0))), (0, .ref (a 0)), (1, .int (nI mm)), (2, .int (nI (cntE S mm)))]) hx hb dX6_canBeEaten_99 hl (k := 5) rfl (nI_1 _) (by decide) rfl (fun ls hl => ?_)
                refine lv_goto (tgt := 31) hx hb dX6_canBeEaten_102 (by decide) ?_
                have hl : lv_has ls 6 [(5, .int (nI (i + 1))), (4, .int (nI 0)), (3, .int (nI (fb_ct (inM S mm) (i + 1)))), (0, .ref (a 0)), (1, .int (nI mm)), (2, .int (nI (cntE S mm)))] := cb_loc hl (e := Value.int (nI (fb_ct (inM S mm) (i + 1)))) 2 rfl (congrArg Value.int (show nI ((fb_ct (inM S mm) i) + 0) = nI (fb_ct (inM S mm) (i + 1)) from (by rw [fb_ct_succ, show inM S mm i = false from decide_eq_false (Int32.not_lt.mpr c_53)]; rfl)))
                have hl : lv_has ls 6 [(5, .int (nI (i + 1))), (4, .int (bI (beK S mm (i + 1)))), (3, .int (nI (fb_ct (inM S mm) (i + 1)))), (0, .ref (a 0)), (1, .int (nI mm)), (2, .int (nI (cntE S mm)))] := cb_loc hl (e := Value.int (bI (beK S mm (i + 1)))) 1 rfl (congrArg Value.int (show nI 0 = bI (beK S mm (i + 1)) from (bI_eq0 (by rw [beK_s, c_65]; rfl))))
                exact ih_31 (i + 1) (by omega) (by omega) ls (lv_sub hl [3, 4, 5, 2, 1, 0] rfl)
              · have c_65 : (beK S mm i) = true := bI_n c_65
                refine lv_aload_n hx hb dX6_canBeEaten_68 rfl (lv_at hl 1 rfl) ?_
                refine va_get (D := (dC, dI)) (ci := 6) (v := .ref (a 12)) (C := RX6) (T := TX6) (N := 23) hx hb hts i_X6 hown hK hP 0 rfl rfl 18 (by decide) f_2 (fun _ h9 => h9) rfl dX6_canBeEaten_69 ?_
                refine lv_bipush (v := nI 12) hx hb dX6_canBeEaten_72 (by decide) ?_
                refine lv_iload_n hx hb dX6_canBeEaten_74 rfl (lv_at hl 2 rfl) ?_
                refine lv_imul hx hb dX6_canBeEaten_75 ?_
                refine cb_topi (pk_mul _ _) ?_
                refine lv_iload hx hb dX6_canBeEaten_76 (lv_at hl 5 rfl) ?_
                refine lv_iadd hx hb dX6_canBeEaten_78 ?_
                refine cb_topi (nI_add _ _) ?_
                refine cb_topi (z := nI (mm * 12 + i)) (congrArg nI (by omega)) ?_
                refine cb_iald hx hb hK hP 12 11 (f := c_ned S) rfl rfl (j := mm * 12 + i) (by omega) (Nat.le_of_ble_eq_true rfl) dX6_canBeEaten_79 ?_
                refine lv_iload_n hx hb dX6_canBeEaten_80 rfl (lv_at hl 3 rfl) ?_
                refine lv_imul hx hb dX6_canBeEaten_81 ?_
                refine lv_aload_n hx hb dX6_canBeEaten_82 rfl (lv_at hl 1 rfl) ?_
                refine va_get (D := (dC, dI)) (ci := 6) (v := .ref (a 11)) (C := RX6) (T := TX6) (N := 23) hx hb hts i_X6 hown hK hP 0 rfl rfl 16 (by decide) f_3 (fun _ h9 => h9) rfl dX6_canBeEaten_83 ?_
                refine lv_iload hx hb dX6_canBeEaten_86 (lv_at hl 5 rfl) ?_
                refine cb_iald hx hb hK hP 11 10 (f := c_sto S) rfl rfl (j := i) (by omega) (Nat.le_of_ble_eq_true rfl) dX6_canBeEaten_88 ?_
                refine lv_icmp_gt (tgt := 96) hx hb dX6_canBeEaten_89 (by decide) (fun c_89 => ?_) (fun c_89 => ?_)
                · skip
                  refine lv_iconst (v := nI 0) hx hb dX6_canBeEaten_96 (by decide) ?_
                  refine lv_istore (lv' := [(4, .int (nI 0)), (3, .int (nI ((fb_ct (inM S mm) i) + 0))), (0, .ref (a 0)), (1, .int (nI mm)), (2, .int (nI (cntE S mm))), (5, .int (nI i))]) hx hb dX6_canBeEaten_97 hl (by decide) rfl (fun ls hl => ?_)
                  refine lv_iinc (v := nI (i + 1)) (lv' := [(5, .int (nI (i + 1))), (4, .int (nI 0)), (3, .int (nI ((fb_ct (inM S mm) i) + 0))), (0, .ref (a 0)), (1, .int (nI mm)), (2, .int (nI (cntE S mm)))]) hx hb dX6_canBeEaten_99 hl (k := 5) rfl (nI_1 _) (by decide) rfl (fun ls hl => ?_)
                  refine lv_goto (tgt := 31) hx hb dX6_canBeEaten_102 (by decide) ?_
                  have hl : lv_has ls 6 [(5, .int (nI (i + 1))), (4, .int (nI 0)), (3, .int (nI (fb_ct (inM S mm) (i + 1)))), (0, .ref (a 0)), (1, .int (nI mm)), (2, .int (nI (cntE S mm)))] := cb_loc hl (e := Value.int (nI (fb_ct (inM S mm) (i + 1)))) 2 rfl (congrArg Value.int (show nI ((fb_ct (inM S mm) i) + 0) = nI (fb_ct (inM S mm) (i + 1)) from (by rw [fb_ct_succ, show inM S mm i = false from decide_eq_false (Int32.not_lt.mpr c_53)]; rfl)))
                  have hl : lv_has ls 6 [(5, .int (nI (i + 1))), (4, .int (bI (beK S mm (i + 1)))), (3, .int (nI (fb_ct (inM S mm) (i + 1)))), (0, .ref (a 0)), (1, .int (nI mm)), (2, .int (nI (cntE S mm)))] := cb_loc hl (e := Value.int (bI (beK S mm (i + 1)))) 1 rfl (congrArg Value.int (show nI 0 = bI (beK S mm (i + 1)) from (bI_eq0 (by rw [beK_s, show stkE S mm (cntE S mm) i = false from decide_eq_false (Int32.not_le.mpr c_89), Bool.and_false]))))
                  exact ih_31 (i + 1) (by omega) (by omega) ls (lv_sub hl [3, 4, 5, 2, 1, 0] rfl)
                · skip
                  refine lv_iconst (v := nI 1) hx hb dX6_canBeEaten_92 (by decide) ?_
                  refine lv_goto (tgt := 97) hx hb dX6_canBeEaten_93 (by decide) ?_
                  refine lv_istore (lv' := [(4, .int (nI 1)), (3, .int (nI ((fb_ct (inM S mm) i) + 0))), (0, .ref (a 0)), (1, .int (nI mm)), (2, .int (nI (cntE S mm))), (5, .int (nI i))]) hx hb dX6_canBeEaten_97 hl (by decide) rfl (fun ls hl => ?_)
                  refine lv_iinc (v := nI (i + 1)) (lv' := [(5, .int (nI (i + 1))), (4, .int (nI 1)), (3, .int (nI ((fb_ct (inM S mm) i) + 0))), (0, .ref (a 0)), (1, .int (nI mm)), (2, .int (nI (cntE S mm)))]) hx hb dX6_canBeEaten_99 hl (k := 5) rfl (nI_1 _) (by decide) rfl (fun ls hl => ?_)
                  refine lv_goto (tgt := 31) hx hb dX6_canBeEaten_102 (by decide) ?_
                  have hl : lv_has ls 6 [(5, .int (nI (i + 1))), (4, .int (nI 1)), (3, .int (nI (fb_ct (inM S mm) (i + 1)))), (0, .ref (a 0)), (1, .int (nI mm)), (2, .int (nI (cntE S mm)))] := cb_loc hl (e := Value.int (nI (fb_ct (inM S mm) (i + 1)))) 2 rfl (congrArg Value.int (show nI ((fb_ct (inM S mm) i) + 0) = nI (fb_ct (inM S mm) (i + 1)) from (by rw [fb_ct_succ, show inM S mm i = false from decide_eq_false (Int32.not_lt.mpr c_53)]; rfl)))
                  have hl : lv_has ls 6 [(5, .int (nI (i + 1))), (4, .int (bI (beK S mm (i + 1)))), (3, .int (nI (fb_ct (inM S mm) (i + 1)))), (0, .ref (a 0)), (1, .int (nI mm)), (2, .int (nI (cntE S mm)))] := cb_loc hl (e := Value.int (bI (beK S mm (i + 1)))) 1 rfl (congrArg Value.int (show nI 1 = bI (beK S mm (i + 1)) from (bI_eq1 (by rw [beK_s, c_65, show stkE S mm (cntE S mm) i = true from decide_eq_true (Int32.not_lt.mp c_89)]; rfl))))
                  exact ih_31 (i + 1) (by omega) (by omega) ls (lv_sub hl [3, 4, 5, 2, 1, 0] rfl)
            · skip
              refine lv_iconst (v := nI 1) hx hb dX6_canBeEaten_56 (by decide) ?_
              refine lv_goto (tgt := 61) hx hb dX6_canBeEaten_57 (by decide) ?_
              refine lv_iadd hx hb dX6_canBeEaten_61 ?_
              refine cb_topi (nI_add _ _) ?_
              refine lv_istore_n (lv' := [(3, .int (nI ((fb_ct (inM S mm) i) + 1))), (0, .ref (a 0)), (1, .int (nI mm)), (2, .int (nI (cntE S mm))), (4, .int (bI (beK S mm i))), (5, .int (nI i))]) hx hb dX6_canBeEaten_62 rfl hl (by decide) rfl (fun ls hl => ?_)
              refine lv_iload hx hb dX6_canBeEaten_63 (lv_at hl 4 rfl) ?_
              refine lv_if_eq (tgt := 96) hx hb dX6_canBeEaten_65 (by decide) (fun c_65 => ?_) (fun c_65 => ?_)
              · have c_65 : (beK S mm i) = false := bI_0 c_65
                refine lv_iconst (v := nI 0) hx hb dX6_canBeEaten_96 (by decide) ?_
                refine lv_istore (lv' := [(4, .int (nI 0)), (3, .int (nI ((fb_ct (inM S mm) i) + 1))), (0, .ref (a 0)), (1, .int (nI mm)), (2, .int (nI (cntE S mm))), (5, .int (nI i))]) hx hb dX6_canBeEaten_97 hl (by decide) rfl (fun ls hl => ?_)
                refine lv_iinc (v := nI (i + 1)) (lv' := [(5, .int (nI (i + 1))), (4, .int (nI 0)), (3, .int (nI ((fb_ct (inM S mm) i) + 1))), (0, .ref (a 0)), (1, .int (nI mm)), (2, .int (nI (cntE S mm)))]) hx hb dX6_canBeEaten_99 hl (k := 5) rfl (nI_1 _) (by decide) rfl (fun ls hl => ?_)
                refine lv_goto (tgt := 31) hx hb dX6_canBeEaten_102 (by decide) ?_
                have hl : lv_has ls 6 [(5, .int (nI (i + 1))), (4, .int (nI 0)), (3, .int (nI (fb_ct (inM S mm) (i + 1)))), (0, .ref (a 0)), (1, .int (nI mm)), (2, .int (nI (cntE S mm)))] := cb_loc hl (e := Value.int (nI (fb_ct (inM S mm) (i + 1)))) 2 rfl (congrArg Value.int (show nI ((fb_ct (inM S mm) i) + 1) = nI (fb_ct (inM S mm) (i + 1)) from (by rw [fb_ct_succ, show inM S mm i = true from decide_eq_true (Int32.not_le.mp c_53)]; rfl)))
                have hl : lv_has ls 6 [(5, .int (nI (i + 1))), (4, .int (bI (beK S mm (i + 1)))), (3, .int (nI (fb_ct (inM S mm) (i + 1)))), (0, .ref (a 0)), (1, .int (nI mm)), (2, .int (nI (cntE S mm)))] := cb_loc hl (e := Value.int (bI (beK S mm (i + 1)))) 1 rfl (congrArg Value.int (show nI 0 = bI (beK S mm (i + 1)) from (bI_eq0 (by rw [beK_s, c_65]; rfl))))
                exact ih_31 (i + 1) (by omega) (by omega) ls (lv_sub hl [3, 4, 5, 2, 1, 0] rfl)
              · have c_65 : (beK S mm i) = true := bI_n c_65
                refine lv_aload_n hx hb dX6_canBeEaten_68 rfl (lv_at hl 1 rfl) ?_
                refine va_get (D := (dC, dI)) (ci := 6) (v := .ref (a 12)) (C := RX6) (T := TX6) (N := 23) hx hb hts i_X6 hown hK hP 0 rfl rfl 18 (by decide) f_2 (fun _ h9 => h9) rfl dX6_canBeEaten_69 ?_
                refine lv_bipush (v := nI 12) hx hb dX6_canBeEaten_72 (by decide) ?_
                refine lv_iload_n hx hb dX6_canBeEaten_74 rfl (lv_at hl 2 rfl) ?_
                refine lv_imul hx hb dX6_canBeEaten_75 ?_
                refine cb_topi (pk_mul _ _) ?_
                refine lv_iload hx hb dX6_canBeEaten_76 (lv_at hl 5 rfl) ?_
                refine lv_iadd hx hb dX6_canBeEaten_78 ?_
                refine cb_topi (nI_add _ _) ?_
                refine cb_topi (z := nI (mm * 12 + i)) (congrArg nI (by omega)) ?_
                refine cb_iald hx hb hK hP 12 11 (f := c_ned S) rfl rfl (j := mm * 12 + i) (by omega) (Nat.le_of_ble_eq_true rfl) dX6_canBeEaten_79 ?_
                refine lv_iload_n hx hb dX6_canBeEaten_80 rfl (lv_at hl 3 rfl) ?_
                refine lv_imul hx hb dX6_canBeEaten_81 ?_
                refine lv_aload_n hx hb dX6_canBeEaten_82 rfl (lv_at hl 1 rfl) ?_
                refine va_get (D := (dC, dI)) (ci := 6) (v := .ref (a 11)) (C := RX6) (T := TX6) (N := 23) hx hb hts i_X6 hown hK hP 0 rfl rfl 16 (by decide) f_3 (fun _ h9 => h9) rfl dX6_canBeEaten_83 ?_
                refine lv_iload hx hb dX6_canBeEaten_86 (lv_at hl 5 rfl) ?_
                refine cb_iald hx hb hK hP 11 10 (f := c_sto S) rfl rfl (j := i) (by omega) (Nat.le_of_ble_eq_true rfl) dX6_canBeEaten_88 ?_
                refine lv_icmp_gt (tgt := 96) hx hb dX6_canBeEaten_89 (by decide) (fun c_89 => ?_) (fun c_89 => ?_)
                · skip
                  refine lv_iconst (v := nI 0) hx hb dX6_canBeEaten_96 (by decide) ?_
                  refine lv_istore (lv' := [(4, .int (nI 0)), (3, .int (nI ((fb_ct (inM S mm) i) + 1))), (0, .ref (a 0)), (1, .int (nI mm)), (2, .int (nI (cntE S mm))), (5, .int (nI i))]) hx hb dX6_canBeEaten_97 hl (by decide) rfl (fun ls hl => ?_)
                  refine lv_iinc (v := nI (i + 1)) (lv' := [(5, .int (nI (i + 1))), (4, .int (nI 0)), (3, .int (nI ((fb_ct (inM S mm) i) + 1))), (0, .ref (a 0)), (1, .int (nI mm)), (2, .int (nI (cntE S mm)))]) hx hb dX6_canBeEaten_99 hl (k := 5) rfl (nI_1 _) (by decide) rfl (fun ls hl => ?_)
                  refine lv_goto (tgt := 31) hx hb dX6_canBeEaten_102 (by decide) ?_
                  have hl : lv_has ls 6 [(5, .int (nI (i + 1))), (4, .int (nI 0)), (3, .int (nI (fb_ct (inM S mm) (i + 1)))), (0, .ref (a 0)), (1, .int (nI mm)), (2, .int (nI (cntE S mm)))] := cb_loc hl (e := Value.int (nI (fb_ct (inM S mm) (i + 1)))) 2 rfl (congrArg Value.int (show nI ((fb_ct (inM S mm) i) + 1) = nI (fb_ct (inM S mm) (i + 1)) from (by rw [fb_ct_succ, show inM S mm i = true from decide_eq_true (Int32.not_le.mp c_53)]; rfl)))
                  have hl : lv_has ls 6 [(5, .int (nI (i + 1))), (4, .int (bI (beK S mm (i + 1)))), (3, .int (nI (fb_ct (inM S mm) (i + 1)))), (0, .ref (a 0)), (1, .int (nI mm)), (2, .int (nI (cntE S mm)))] := cb_loc hl (e := Value.int (bI (beK S mm (i + 1)))) 1 rfl (congrArg Value.int (show nI 0 = bI (beK S mm (i + 1)) from (bI_eq0 (by rw [beK_s, show stkE S mm (cntE S mm) i = false from decide_eq_false (Int32.not_le.mpr c_89), Bool.and_false]))))
                  exact ih_31 (i + 1) (by omega) (by omega) ls (lv_sub hl [3, 4, 5, 2, 1, 0] rfl)
                · skip
                  refine lv_iconst (v := nI 1) hx hb dX6_canBeEaten_92 (by decide) ?_
                  refine lv_goto (tgt := 97) hx hb dX6_canBeEaten_93 (by decide) ?_
                  refine lv_istore (lv' := [(4, .int (nI 1)), (3, .int (nI ((fb_ct (inM S mm) i) + 1))), (0, .ref (a 0)), (1, .int (nI mm)), (2, .int (nI (cntE S mm))), (5, .int (nI i))]) hx hb dX6_canBeEaten_97 hl (by decide) rfl (fun ls hl => ?_)
                  refine lv_iinc (v := nI (i + 1)) (lv' := [(5, .int (nI (i + 1))), (4, .int (nI 1)), (3, .int (nI ((fb_ct (inM S mm) i) + 1))), (0, .ref (a 0)), (1, .int (nI mm)), (2, .int (nI (cntE S mm)))]) hx hb dX6_canBeEaten_99 hl (k := 5) rfl (nI_1 _) (by decide) rfl (fun ls hl => ?_)
                  refine lv_goto (tgt := 31) hx hb dX6_canBeEaten_102 (by decide) ?_
                  have hl : lv_has ls 6 [(5, .int (nI (i + 1))), (4, .int (nI 1)), (3, .int (nI (fb_ct (inM S mm) (i + 1)))), (0, .ref (a 0)), (1, .int (nI mm)), (2, .int (nI (cntE S mm)))] := cb_loc hl (e := Value.int (nI (fb_ct (inM S mm) (i + 1)))) 2 rfl (congrArg Value.int (show nI ((fb_ct (inM S mm) i) + 1) = nI (fb_ct (inM S mm) (i + 1)) from (by rw [fb_ct_succ, show inM S mm i = true from decide_eq_true (Int32.not_le.mp c_53)]; rfl)))
                  have hl : lv_has ls 6 [(5, .int (nI (i + 1))), (4, .int (bI (beK S mm (i + 1)))), (3, .int (nI (fb_ct (inM S mm) (i + 1)))), (0, .ref (a 0)), (1, .int (nI mm)), (2, .int (nI (cntE S mm)))] := cb_loc hl (e := Value.int (bI (beK S mm (i + 1)))) 1 rfl (congrArg Value.int (show nI 1 = bI (beK S mm (i + 1)) from (bI_eq1 (by rw [beK_s, c_65, show stkE S mm (cntE S mm) i = true from decide_eq_true (Int32.not_lt.mp c_89)]; rfl))))
                  exact ih_31 (i + 1) (by omega) (by omega) ls (lv_sub hl [3, 4, 5, 2, 1, 0] rfl)
      have hl : lv_has ls 6 [(5, .int (nI 0)), (4, .int (nI 1)), (3, .int (nI (fb_ct (inM S mm) 0))), (2, .int (nI (cntE S mm))), (0, .ref (a 0)), (1, .int (nI mm))] := cb_loc hl (e := Value.int (nI (fb_ct (inM S mm) 0))) 2 rfl (congrArg Value.int (show nI 0 = nI (fb_ct (inM S mm) 0) from rfl))
      have hl : lv_has ls 6 [(5, .int (nI 0)), (4, .int (bI (beK S mm 0))), (3, .int (nI (fb_ct (inM S mm) 0))), (2, .int (nI (cntE S mm))), (0, .ref (a 0)), (1, .int (nI mm))] := cb_loc hl (e := Value.int (bI (beK S mm 0))) 1 rfl (congrArg Value.int (show nI 1 = bI (beK S mm 0) from (bI_eq1 (by unfold beK; rw [decide_eq_true c_14, decide_eq_true c_18]; rfl))))
      exact L_31 (c_nf S + 1) 0 (by omega) (by omega) ls (lv_sub hl [4, 5, 3, 2, 1, 0] rfl)
abbrev rm_X6_tableOf : Room := { frames := 3, cells := 0, slots := 0, locals := 73 }
set_option maxHeartbeats 4000000 in
set_option maxRecDepth 100000 in
theorem c_X6_tableOf (l : Launch) (dC : Nat → ClassId) (dI : Nat → Nat → Nat) (a : Nat → Nat) (k : Nat → ClassId) (S : cs_S) (th : Nat) (w9 : Nat) (hw9 : w9 < 3) (hI : Inv S) : Met l yX6_tableOf wsX6_tableOf rm_X6_tableOf (va_Pc [.ref (a 0), .int (nI w9)] (cR dC dI (mb_w a k S th) (mb_ty k))) (vp_Si (fun r => r = tabl S w9)) 0 0 (fun _ => False) := by
  refine Met.ofW (cc := cX6_tableOf) (maxL := 4) (ret := (some .int)) (by decide) rfl ?_
  intro p e s m args below meth c s₁ B hml hv
  obtain ⟨rfl, hP, hK⟩ := hv
  have hx := B.exec
  have hb := B.bytes
  have hr := B.returns
  have hts := atoms_spec (ws := wsX6_tableOf) B.pre
  have hown : s.vm.findClass RX6 = some m.cls := findClass_of_methodNamed B.named
  have hlocks := B.notSynchronized
  obtain ⟨Q, hQ⟩ : ∃ Q, Q = MQ below (vp_Si (fun r => r = tabl S w9)) ([.ref (a 0), .int (nI w9)] : List Value).toArray s 0 0 (fun _ => False) := ⟨_, rfl⟩
  show W p l e rm_X6_tableOf s m _ below meth c s.heap [] 0 0 (MQ below _ _ _ _ _ _) _
  rw [← hQ]
  have i_X6 : ∀ w ∈ wsX60, w ∈ wsX6_tableOf := fun w h => List.mem_cons_of_mem _ (List.mem_append_right _ h)
  obtain ⟨⟨hday, hnp, hns, hnt, hnf, hnm, hnb, hme⟩, hpat, hage, hten, hcnt, hplc, heat, hned, hhld, hbad, hbad0, hbag⟩ := id hI
  have f_0 := hts (.fieldLink RX6 73 "CampBookModel" "meals" "I") (by decide +kernel)
  have f_1 := hts (.fieldLink RX6 64 "CampBookModel" "scouts" "I") (by decide +kernel)
  have f_2 := hts (.fieldLink RX6 31 "CampBookModel" "hasEaten" "[Z") (by decide +kernel)
  have f_3 := hts (.fieldLink RX6 156 "CampBookModel" "eaten" "I") (by decide +kernel)
  have hl := lv_entry ([.ref (a 0), .int (nI w9)]) (n := 4) (Nat.le_of_ble_eq_true rfl)
  rw [lg_entry_eq]
  generalize (lg_sl ([.ref (a 0), .int (nI w9)]) ++ List.replicate (4 - (lg_sl ([.ref (a 0), .int (nI w9)])).length) Slot.unset).toArray = ls at hl ⊢
  have hl : lv_has ls 4 [(0, .ref (a 0)), (1, .int (nI w9))] := hl
  refine lv_iload_n hx hb dX6_tableOf_0 rfl (lv_at hl 1 rfl) ?_
  refine lv_iconst (v := nI 1) hx hb dX6_tableOf_1 (by decide) ?_
  refine lv_icmp_ne (tgt := 10) hx hb dX6_tableOf_2 (by decide) (fun c_2 => ?_) (fun c_2 => ?_)
  · have c_2 : w9 ≠ 1 := cb_ne (by omega) (by omega) c_2
    refine lv_iload_n hx hb dX6_tableOf_10 rfl (lv_at hl 1 rfl) ?_
    refine lv_if_ne (tgt := 51) hx hb dX6_tableOf_11 (by decide) (fun c_11 => ?_) (fun c_11 => ?_)
    · have c_11 : w9 ≠ 0 := cb_ne (by omega) (by omega) c_11
      refine lv_iconst (v := (-1)) hx hb dX6_tableOf_51 (by decide) ?_
      refine lv_istore_n (lv' := [(2, .int (-1)), (0, .ref (a 0)), (1, .int (nI w9))]) hx hb dX6_tableOf_52 rfl hl (by decide) rfl (fun ls hl => ?_)
      refine lv_iconst (v := nI 0) hx hb dX6_tableOf_53 (by decide) ?_
      refine lv_istore_n (lv' := [(3, .int (nI 0)), (2, .int (-1)), (0, .ref (a 0)), (1, .int (nI w9))]) hx hb dX6_tableOf_54 rfl hl (by decide) rfl (fun ls hl => ?_)
      have L_55 : ∀ (n i : Nat), i ≤ c_nm S → c_nm S + 1 ≤ i + n → ∀ (ls : Array Slot), lv_has ls 4 [(0, .ref (a 0)), (1, .int (nI w9)), (2, .int (oI (bM S i))), (3, .int (nI i))] → W p l e rm_X6_tableOf s m ([.ref (a 0), .int (nI w9)] : List Value).toArray below meth c s.heap [] 0 0 Q (F0 m 55 ls []) := by
        intro n
        induction n with
        | zero => intro i h1 h2; exact absurd h2 (by omega)
        | succ n ih_55 =>
          intro i hle_55 hfu_55 ls hl
          refine lv_iload_n hx hb dX6_tableOf_55 rfl (lv_at hl 3 rfl) ?_
          refine lv_aload_n hx hb dX6_tableOf_56 rfl (lv_at hl 0 rfl) ?_
          refine va_get (D := (dC, dI)) (ci := 6) (v := .int (nI (c_nm S))) (C := RX6) (T := TX6) (N := 23) hx hb hts i_X6 hown hK hP 0 rfl rfl 17 (by decide) f_0 (fun _ h9 => h9) rfl dX6_tableOf_57 ?_
          refine lv_icmp_ge (tgt := 99) hx hb dX6_tableOf_60 (by decide) (fun c_60 => ?_) (fun c_60 => ?_)
          · have c_60 : (c_nm S) ≤ i := cb_ge (by omega) (by omega) c_60
            refine lv_iload_n hx hb dX6_tableOf_99 rfl (lv_at hl 2 rfl) ?_
            rw [hQ]
            exact W.iret (v := oI (bM S i)) hx hb hr (fun t9 ht9 hW9 => ⟨oI (bM S i), rfl, (by rw [show w9 = 2 by omega, show i = c_nm S by omega]; rfl), ht9⟩) (fun q h => absurd h List.not_mem_nil) dX6_tableOf_100
          · have c_60 : i < (c_nm S) := cb_nge (by omega) (by omega) c_60
            refine lv_aload_n hx hb dX6_tableOf_63 rfl (lv_at hl 0 rfl) ?_
            refine lv_iload_n hx hb dX6_tableOf_64 rfl (lv_at hl 3 rfl) ?_
            refine vp_callSi (W.runV (As := [.int (nI i)]) (rest := []) ⟨hx, hb, hml, hown, hts⟩ (c_X6_canBeEaten l dC dI a k S th i (by omega) hI) (cwV 1 hts gX6_tableOf_X6_canBeEaten rfl rfl rfl (by decide +kernel) ⟨(Nat.le_of_ble_eq_true rfl), (Nat.le_of_ble_eq_true rfl)⟩) ⟨cR_blind, va_recv hK hP (ci := 6) (q0 := 0) rfl rfl, fun U hU hW => ⟨rfl, cR_of hK hP hU hW⟩⟩ rfl rfl hl.1 rfl (lv_room (Nat.le_of_ble_eq_true rfl)) dX6_tableOf_65 ⟨(Nat.le_of_ble_eq_true rfl), (Nat.le_of_ble_eq_true rfl)⟩) (fun r er => ?_)
            subst er
            refine lv_if_eq (tgt := 93) hx hb dX6_tableOf_68 (by decide) (fun c_68 => ?_) (fun c_68 => ?_)
            · have c_68 : (canBE S i) = false := bI_0 c_68
              refine lv_iinc (v := nI (i + 1)) (lv' := [(3, .int (nI (i + 1))), (0, .ref (a 0)), (1, .int (nI w9)), (2, .int (oI (bM S i)))]) hx hb dX6_tableOf_93 hl (k := 3) rfl (nI_1 _) (by decide) rfl (fun ls hl => ?_)
              refine lv_goto (tgt := 55) hx hb dX6_tableOf_96 (by decide) ?_
              have hl : lv_has ls 4 [(3, .int (nI (i + 1))), (0, .ref (a 0)), (1, .int (nI w9)), (2, .int (oI (bM S (i + 1))))] := cb_loc hl (e := Value.int (oI (bM S (i + 1)))) 3 rfl (congrArg Value.int (show oI (bM S i) = oI (bM S (i + 1)) from (bM_no1 c_68)))
              exact ih_55 (i + 1) (by omega) (by omega) ls (lv_sub hl [1, 2, 3, 0] rfl)
            · have c_68 : (canBE S i) = true := bI_n c_68
              refine lv_iload_n hx hb dX6_tableOf_71 rfl (lv_at hl 2 rfl) ?_
              refine lv_iconst (v := (-1)) hx hb dX6_tableOf_72 (by decide) ?_
              refine lv_icmp_eq (tgt := 91) hx hb dX6_tableOf_73 (by decide) (fun c_73 => ?_) (fun c_73 => ?_)
              · skip
                have eb9 := oI_none c_73 (fun b hb => Nat.lt_trans (bM_lt hb) (by omega))
                refine lv_iload_n hx hb dX6_tableOf_91 rfl (lv_at hl 3 rfl) ?_
                refine lv_istore_n (lv' := [(2, .int (nI i)), (0, .ref (a 0)), (1, .int (nI w9)), (3, .int (nI i))]) hx hb dX6_tableOf_92 rfl hl (by decide) rfl (fun ls hl => ?_)
                refine lv_iinc (v := nI (i + 1)) (lv' := [(3, .int (nI (i + 1))), (2, .int (nI i)), (0, .ref (a 0)), (1, .int (nI w9))]) hx hb dX6_tableOf_93 hl (k := 3) rfl (nI_1 _) (by decide) rfl (fun ls hl => ?_)
                refine lv_goto (tgt := 55) hx hb dX6_tableOf_96 (by decide) ?_
                have hl : lv_has ls 4 [(3, .int (nI (i + 1))), (2, .int (oI (bM S (i + 1)))), (0, .ref (a 0)), (1, .int (nI w9))] := cb_loc hl (e := Value.int (oI (bM S (i + 1)))) 1 rfl (congrArg Value.int (show nI i = oI (bM S (i + 1)) from (bM_yes (hu_none hns eb9) c_68)))
                exact ih_55 (i + 1) (by omega) (by omega) ls (lv_sub hl [2, 3, 1, 0] rfl)
              · skip
                obtain ⟨b9, eb9⟩ := oI_some c_73
                have hb9 := bM_lt eb9
                have eo9 : oI (bM S i) = nI b9 := by rw [eb9]; rfl
                rw [eo9] at hl
                refine lv_aload_n hx hb dX6_tableOf_76 rfl (lv_at hl 0 rfl) ?_
                refine lv_iload_n hx hb dX6_tableOf_77 rfl (lv_at hl 3 rfl) ?_
                refine lv_iconst (v := nI 1) hx hb dX6_tableOf_78 (by decide) ?_
                refine cb_topi (z := bI true) rfl ?_
                refine vp_callSi (W.runV (As := [.int (nI i), .int (bI true)]) (rest := []) ⟨hx, hb, hml, hown, hts⟩ (c_X6_eatersOf l dC dI a k S th i true (by omega) hI) (cwV 2 hts gX6_tableOf_X6_eatersOf rfl rfl rfl (by decide +kernel) ⟨(Nat.le_of_ble_eq_true rfl), (Nat.le_of_ble_eq_true rfl)⟩) ⟨cR_blind, va_recv hK hP (ci := 6) (q0 := 0) rfl rfl, fun U hU hW => ⟨rfl, cR_of hK hP hU hW⟩⟩ rfl rfl hl.1 rfl (lv_room (Nat.le_of_ble_eq_true rfl)) dX6_tableOf_79 ⟨(Nat.le_of_ble_eq_true rfl), (Nat.le_of_ble_eq_true rfl)⟩) (fun r er => ?_)
                subst er
                refine cb_topi (z := nI (hun S i)) (congrArg nI eaF_t) ?_
                refine lv_aload_n hx hb dX6_tableOf_82 rfl (lv_at hl 0 rfl) ?_
                refine lv_iload_n hx hb dX6_tableOf_83 rfl (lv_at hl 2 rfl) ?_
                refine lv_iconst (v := nI 1) hx hb dX6_tableOf_84 (by decide) ?_
                refine cb_topi (z := bI true) rfl ?_
                refine vp_callSi (W.runV (As := [.int (nI b9), .int (bI true)]) (rest := [.int (nI (hun S i))]) ⟨hx, hb, hml, hown, hts⟩ (c_X6_eatersOf l dC dI a k S th b9 true (by omega) hI) (cwV 2 hts gX6_tableOf_X6_eatersOf rfl rfl rfl (by decide +kernel) ⟨(Nat.le_of_ble_eq_true rfl), (Nat.le_of_ble_eq_true rfl)⟩) ⟨cR_blind, va_recv hK hP (ci := 6) (q0 := 0) rfl rfl, fun U hU hW => ⟨rfl, cR_of hK hP hU hW⟩⟩ rfl rfl hl.1 rfl (lv_room (Nat.le_of_ble_eq_true rfl)) dX6_tableOf_85 ⟨(Nat.le_of_ble_eq_true rfl), (Nat.le_of_ble_eq_true rfl)⟩) (fun r er => ?_)
                subst er
                refine cb_topi (z := nI (hun S b9)) (congrArg nI eaF_t) ?_
                have hh1 := hun_le (S := S) (mm := i)
                have hh2 := hun_le (S := S) (mm := b9)
                refine lv_icmp_le (tgt := 93) hx hb dX6_tableOf_88 (by decide) (fun c_88 => ?_) (fun c_88 => ?_)
                · have c_88 : (hun S i) ≤ (hun S b9) := cb_le (by omega) (by omega) c_88
                  refine lv_iinc (v := nI (i + 1)) (lv' := [(3, .int (nI (i + 1))), (0, .ref (a 0)), (1, .int (nI w9)), (2, .int (nI b9))]) hx hb dX6_tableOf_93 hl (k := 3) rfl (nI_1 _) (by decide) rfl (fun ls hl => ?_)
                  refine lv_goto (tgt := 55) hx hb dX6_tableOf_96 (by decide) ?_
                  have hl : lv_has ls 4 [(3, .int (nI (i + 1))), (0, .ref (a 0)), (1, .int (nI w9)), (2, .int (oI (bM S (i + 1))))] := cb_loc hl (e := Value.int (oI (bM S (i + 1)))) 3 rfl (congrArg Value.int (show nI b9 = oI (bM S (i + 1)) from (eo9.symm.trans (bM_no2 ((hu_some hns eb9).mpr c_88)))))
                  exact ih_55 (i + 1) (by omega) (by omega) ls (lv_sub hl [1, 2, 3, 0] rfl)
                · have c_88 : (hun S b9) < (hun S i) := cb_nle (by omega) (by omega) c_88
                  refine lv_iload_n hx hb dX6_tableOf_91 rfl (lv_at hl 3 rfl) ?_
                  refine lv_istore_n (lv' := [(2, .int (nI i)), (0, .ref (a 0)), (1, .int (nI w9)), (3, .int (nI i))]) hx hb dX6_tableOf_92 rfl hl (by decide) rfl (fun ls hl => ?_)
                  refine lv_iinc (v := nI (i + 1)) (lv' := [(3, .int (nI (i + 1))), (2, .int (nI i)), (0, .ref (a 0)), (1, .int (nI w9))]) hx hb dX6_tableOf_93 hl (k := 3) rfl (nI_1 _) (by decide) rfl (fun ls hl => ?_)
                  refine lv_goto (tgt := 55) hx hb dX6_tableOf_96 (by decide) ?_
                  have hl : lv_has ls 4 [(3, .int (nI (i + 1))), (2, .int (oI (bM S (i + 1)))), (0, .ref (a 0)), (1, .int (nI w9))] := cb_loc hl (e := Value.int (oI (bM S (i + 1)))) 1 rfl (congrArg Value.int (show nI i = oI (bM S (i + 1)) from (bM_yes (fun q9 => absurd ((hu_some hns eb9).mp q9) (by omega)) c_68)))
                  exact ih_55 (i + 1) (by omega) (by omega) ls (lv_sub hl [2, 3, 1, 0] rfl)
      have hl : lv_has ls 4 [(3, .int (nI 0)), (2, .int (oI (bM S 0))), (0, .ref (a 0)), (1, .int (nI w9))] := cb_loc hl (e := Value.int (oI (bM S 0))) 1 rfl (congrArg Value.int (show (-1) = oI (bM S 0) from rfl))
      exact L_55 (c_nm S + 1) 0 (by omega) (by omega) ls (lv_sub hl [2, 3, 1, 0] rfl)
    · have c_11 : w9 = 0 := cb_nne (by omega) (by omega) c_11
      refine lv_iconst (v := nI 0) hx hb dX6_tableOf_14 (by decide) ?_
      refine lv_istore_n (lv' := [(2, .int (nI 0)), (0, .ref (a 0)), (1, .int (nI w9))]) hx hb dX6_tableOf_15 rfl hl (by decide) rfl (fun ls hl => ?_)
      refine lv_iconst (v := nI 0) hx hb dX6_tableOf_16 (by decide) ?_
      refine lv_istore_n (lv' := [(3, .int (nI 0)), (2, .int (nI 0)), (0, .ref (a 0)), (1, .int (nI w9))]) hx hb dX6_tableOf_17 rfl hl (by decide) rfl (fun ls hl => ?_)
      have L_18 : ∀ (n i : Nat), i ≤ c_ns S → c_ns S + 1 ≤ i + n → ∀ (ls : Array Slot), lv_has ls 4 [(0, .ref (a 0)), (1, .int (nI w9)), (2, .int (nI (fb_ct (fun s => !c_eat S s) i))), (3, .int (nI i))] → W p l e rm_X6_tableOf s m ([.ref (a 0), .int (nI w9)] : List Value).toArray below meth c s.heap [] 0 0 Q (F0 m 18 ls []) := by
        intro n
        induction n with
        | zero => intro i h1 h2; exact absurd h2 (by omega)
        | succ n ih_18 =>
          intro i hle_18 hfu_18 ls hl
          refine lv_iload_n hx hb dX6_tableOf_18 rfl (lv_at hl 3 rfl) ?_
          refine lv_aload_n hx hb dX6_tableOf_19 rfl (lv_at hl 0 rfl) ?_
          refine va_get (D := (dC, dI)) (ci := 6) (v := .int (nI (c_ns S))) (C := RX6) (T := TX6) (N := 23) hx hb hts i_X6 hown hK hP 0 rfl rfl 3 (by decide) f_1 (fun _ h9 => h9) rfl dX6_tableOf_20 ?_
          refine lv_icmp_ge (tgt := 49) hx hb dX6_tableOf_23 (by decide) (fun c_23 => ?_) (fun c_23 => ?_)
          · have c_23 : (c_ns S) ≤ i := cb_ge (by omega) (by omega) c_23
            refine lv_iload_n hx hb dX6_tableOf_49 rfl (lv_at hl 2 rfl) ?_
            rw [hQ]
            exact W.iret (v := nI (fb_ct (fun s => !c_eat S s) i)) hx hb hr (fun t9 ht9 hW9 => ⟨nI (fb_ct (fun s => !c_eat S s) i), rfl, (by rw [c_11, show i = c_ns S by omega]; rfl), ht9⟩) (fun q h => absurd h List.not_mem_nil) dX6_tableOf_50
          · have c_23 : i < (c_ns S) := cb_nge (by omega) (by omega) c_23
            refine lv_iload_n hx hb dX6_tableOf_26 rfl (lv_at hl 2 rfl) ?_
            refine lv_aload_n hx hb dX6_tableOf_27 rfl (lv_at hl 0 rfl) ?_
            refine va_get (D := (dC, dI)) (ci := 6) (v := .ref (a 8)) (C := RX6) (T := TX6) (N := 23) hx hb hts i_X6 hown hK hP 0 rfl rfl 11 (by decide) f_2 (fun _ h9 => h9) rfl dX6_tableOf_28 ?_
            refine lv_iload_n hx hb dX6_tableOf_31 rfl (lv_at hl 3 rfl) ?_
            refine cb_zald hx hb hK hP 8 7 (f := fun j => bI ((c_eat S) j)) rfl rfl (j := i) (by omega) (Nat.le_of_ble_eq_true rfl) dX6_tableOf_32 ?_
            show W p l e _ _ m _ below meth c _ _ _ _ _ (F0 m _ ls (.int (bI ((c_eat S) i)) :: _))
            refine lv_if_eq (tgt := 40) hx hb dX6_tableOf_33 (by decide) (fun c_33 => ?_) (fun c_33 => ?_)
            · have c_33 : ((c_eat S) i) = false := bI_0 c_33
              refine lv_iconst (v := nI 1) hx hb dX6_tableOf_40 (by decide) ?_
              refine lv_iadd hx hb dX6_tableOf_41 ?_
              refine cb_topi (nI_add _ _) ?_
              refine lv_istore_n (lv' := [(2, .int (nI ((fb_ct (fun s => !c_eat S s) i) + 1))), (0, .ref (a 0)), (1, .int (nI w9)), (3, .int (nI i))]) hx hb dX6_tableOf_42 rfl hl (by decide) rfl (fun ls hl => ?_)
              refine lv_iinc (v := nI (i + 1)) (lv' := [(3, .int (nI (i + 1))), (2, .int (nI ((fb_ct (fun s => !c_eat S s) i) + 1))), (0, .ref (a 0)), (1, .int (nI w9))]) hx hb dX6_tableOf_43 hl (k := 3) rfl (nI_1 _) (by decide) rfl (fun ls hl => ?_)
              refine lv_goto (tgt := 18) hx hb dX6_tableOf_46 (by decide) ?_
              have hl : lv_has ls 4 [(3, .int (nI (i + 1))), (2, .int (nI (fb_ct (fun s => !c_eat S s) (i + 1)))), (0, .ref (a 0)), (1, .int (nI w9))] := cb_loc hl (e := Value.int (nI (fb_ct (fun s => !c_eat S s) (i + 1)))) 1 rfl (congrArg Value.int (show nI ((fb_ct (fun s => !c_eat S s) i) + 1) = nI (fb_ct (fun s => !c_eat S s) (i + 1)) from (by rw [fb_ct_succ]; simp [c_33])))
              exact ih_18 (i + 1) (by omega) (by omega) ls (lv_sub hl [2, 3, 1, 0] rfl)
            · have c_33 : ((c_eat S) i) = true := bI_n c_33
              refine lv_iconst (v := nI 0) hx hb dX6_tableOf_36 (by decide) ?_
              refine lv_goto (tgt := 41) hx hb dX6_tableOf_37 (by decide) ?_
              refine lv_iadd hx hb dX6_tableOf_41 ?_
              refine cb_topi (nI_add _ _) ?_
              refine lv_istore_n (lv' := [(2, .int (nI ((fb_ct (fun s => !c_eat S s) i) + 0))), (0, .ref (a 0)), (1, .int (nI w9)), (3, .int (nI i))]) hx hb dX6_tableOf_42 rfl hl (by decide) rfl (fun ls hl => ?_)
              refine lv_iinc (v := nI (i + 1)) (lv' := [(3, .int (nI (i + 1))), (2, .int (nI ((fb_ct (fun s => !c_eat S s) i) + 0))), (0, .ref (a 0)), (1, .int (nI w9))]) hx hb dX6_tableOf_43 hl (k := 3) rfl (nI_1 _) (by decide) rfl (fun ls hl => ?_)
              refine lv_goto (tgt := 18) hx hb dX6_tableOf_46 (by decide) ?_
              have hl : lv_has ls 4 [(3, .int (nI (i + 1))), (2, .int (nI (fb_ct (fun s => !c_eat S s) (i + 1)))), (0, .ref (a 0)), (1, .int (nI w9))] := cb_loc hl (e := Value.int (nI (fb_ct (fun s => !c_eat S s) (i + 1)))) 1 rfl (congrArg Value.int (show nI ((fb_ct (fun s => !c_eat S s) i) + 0) = nI (fb_ct (fun s => !c_eat S s) (i + 1)) from (by rw [fb_ct_succ]; simp [c_33])))
              exact ih_18 (i + 1) (by omega) (by omega) ls (lv_sub hl [2, 3, 1, 0] rfl)
      have hl : lv_has ls 4 [(3, .int (nI 0)), (2, .int (nI (fb_ct (fun s => !c_eat S s) 0))), (0, .ref (a 0)), (1, .int (nI w9))] := cb_loc hl (e := Value.int (nI (fb_ct (fun s => !c_eat S s) 0))) 1 rfl (congrArg Value.int (show nI 0 = nI (fb_ct (fun s => !c_eat S s) 0) from rfl))
      exact L_18 (c_ns S + 1) 0 (by omega) (by omega) ls (lv_sub hl [2, 3, 1, 0] rfl)
  · have c_2 : w9 = 1 := cb_nne (by omega) (by omega) c_2
    refine lv_aload_n hx hb dX6_tableOf_5 rfl (lv_at hl 0 rfl) ?_
    refine va_get (D := (dC, dI)) (ci := 6) (v := .int (nI (c_me S))) (C := RX6) (T := TX6) (N := 23) hx hb hts i_X6 hown hK hP 0 rfl rfl 19 (by decide) f_3 (fun _ h9 => h9) rfl dX6_tableOf_6 ?_
    rw [hQ]
    exact W.iret (v := nI (c_me S)) hx hb hr (fun t9 ht9 hW9 => ⟨nI (c_me S), rfl, (by rw [c_2]; rfl), ht9⟩) (fun q h => absurd h List.not_mem_nil) dX6_tableOf_9
abbrev rm_X6_awayFrom : Room := { frames := 1, cells := 0, slots := 0, locals := 21 }
set_option maxHeartbeats 4000000 in
set_option maxRecDepth 100000 in
theorem c_X6_awayFrom (l : Launch) (dC : Nat → ClassId) (dI : Nat → Nat → Nat) (a : Nat → Nat) (k : Nat → ClassId) (S : cs_S) (th : Nat) (u : Nat) (bb : Nat) (hu : u < c_ns S) (hbb : bb < c_nb S) (hI : Inv S) : Met l yX6_awayFrom wsX6_awayFrom rm_X6_awayFrom (va_Pc [.ref (a 0), .int (nI u), .int (nI bb)] (cR dC dI (mb_w a k S th) (mb_ty k))) (vp_Si (fun r => r = dist S u bb)) 0 0 (fun _ => False) := by
  refine Met.ofW (cc := cX6_awayFrom) (maxL := 5) (ret := (some .int)) (by decide) rfl ?_
  intro p e s m args below meth c s₁ B hml hv
  obtain ⟨rfl, hP, hK⟩ := hv
  have hx := B.exec
  have hb := B.bytes
  have hr := B.returns
  have hts := atoms_spec (ws := wsX6_awayFrom) B.pre
  have hown : s.vm.findClass RX6 = some m.cls := findClass_of_methodNamed B.named
  have hlocks := B.notSynchronized
  obtain ⟨Q, hQ⟩ : ∃ Q, Q = MQ below (vp_Si (fun r => r = dist S u bb)) ([.ref (a 0), .int (nI u), .int (nI bb)] : List Value).toArray s 0 0 (fun _ => False) := ⟨_, rfl⟩
  show W p l e rm_X6_awayFrom s m _ below meth c s.heap [] 0 0 (MQ below _ _ _ _ _ _) _
  rw [← hQ]
  have i_X6 : ∀ w ∈ wsX60, w ∈ wsX6_awayFrom := fun w h => List.mem_cons_of_mem _ (List.mem_append_right _ h)
  obtain ⟨⟨hday, hnp, hns, hnt, hnf, hnm, hnb, hme⟩, hpat, hage, hten, hcnt, hplc, heat, hned, hhld, hbad, hbad0, hbag⟩ := id hI
  have f_0 := hts (.fieldLink RX6 25 "CampBookModel" "badgesOf" "[I") (by decide +kernel)
  have f_1 := hts (.fieldLink RX6 13 "CampBookModel" "ages" "[I") (by decide +kernel)
  have f_2 := hts (.fieldLink RX6 47 "CampBookModel" "badgeAges" "[I") (by decide +kernel)
  have f_3 := hts (.fieldLink RX6 50 "CampBookModel" "wants" "[I") (by decide +kernel)
  have f_4 := hts (.fieldLink RX6 28 "CampBookModel" "hours" "[I") (by decide +kernel)
  have f_5 := hts (.methodLink RX6 153 Lib.Math.max.name) (by decide +kernel)
  have f_6 := hts (.static Lib.Math.max.name) (by decide +kernel)
  have f_7 := hts (.initialized "java/lang/Math") (by decide +kernel)
  have f_8 := hts (.code Lib.Math.max.name Lib.Math.max.code 2 (some .int)) (by decide +kernel)
  have hl := lv_entry ([.ref (a 0), .int (nI u), .int (nI bb)]) (n := 5) (Nat.le_of_ble_eq_true rfl)
  rw [lg_entry_eq]
  generalize (lg_sl ([.ref (a 0), .int (nI u), .int (nI bb)]) ++ List.replicate (5 - (lg_sl ([.ref (a 0), .int (nI u), .int (nI bb)])).length) Slot.unset).toArray = ls at hl ⊢
  have hl : lv_has ls 5 [(0, .ref (a 0)), (1, .int (nI u)), (2, .int (nI bb))] := hl
  refine lv_aload_n hx hb dX6_awayFrom_0 rfl (lv_at hl 0 rfl) ?_
  refine va_get (D := (dC, dI)) (ci := 6) (v := .ref (a 6)) (C := RX6) (T := TX6) (N := 23) hx hb hts i_X6 hown hK hP 0 rfl rfl 9 (by decide) f_0 (fun _ h9 => h9) rfl dX6_awayFrom_1 ?_
  refine lv_iload_n hx hb dX6_awayFrom_4 rfl (lv_at hl 1 rfl) ?_
  refine cb_iald hx hb hK hP 6 5 (f := c_bad S) rfl rfl (j := u) (by omega) (Nat.le_of_ble_eq_true rfl) dX6_awayFrom_5 ?_
  refine lv_iload_n hx hb dX6_awayFrom_6 rfl (lv_at hl 2 rfl) ?_
  refine lv_ishr hx hb dX6_awayFrom_7 ?_
  refine lv_iconst (v := nI 1) hx hb dX6_awayFrom_8 (by decide) ?_
  refine lv_iand hx hb dX6_awayFrom_9 ?_
  refine lv_iconst (v := nI 1) hx hb dX6_awayFrom_10 (by decide) ?_
  refine lv_icmp_ne (tgt := 17) hx hb dX6_awayFrom_11 (by decide) (fun c_11 => ?_) (fun c_11 => ?_)
  · skip
    refine lv_aload_n hx hb dX6_awayFrom_17 rfl (lv_at hl 0 rfl) ?_
    refine va_get (D := (dC, dI)) (ci := 6) (v := .ref (a 2)) (C := RX6) (T := TX6) (N := 23) hx hb hts i_X6 hown hK hP 0 rfl rfl 5 (by decide) f_1 (fun _ h9 => h9) rfl dX6_awayFrom_18 ?_
    refine lv_iload_n hx hb dX6_awayFrom_21 rfl (lv_at hl 1 rfl) ?_
    refine cb_iald hx hb hK hP 2 1 (f := c_age S) rfl rfl (j := u) (by omega) (Nat.le_of_ble_eq_true rfl) dX6_awayFrom_22 ?_
    refine lv_aload_n hx hb dX6_awayFrom_23 rfl (lv_at hl 0 rfl) ?_
    refine va_get (D := (dC, dI)) (ci := 6) (v := .ref (a 13)) (C := RX6) (T := TX6) (N := 23) hx hb hts i_X6 hown hK hP 0 rfl rfl 21 (by decide) f_2 (fun _ h9 => h9) rfl dX6_awayFrom_24 ?_
    refine lv_iload_n hx hb dX6_awayFrom_27 rfl (lv_at hl 2 rfl) ?_
    refine cb_iald hx hb hK hP 13 12 (f := c_lag S) rfl rfl (j := bb) (by omega) (Nat.le_of_ble_eq_true rfl) dX6_awayFrom_28 ?_
    refine lv_icmp_ge (tgt := 34) hx hb dX6_awayFrom_29 (by decide) (fun c_29 => ?_) (fun c_29 => ?_)
    · skip
      refine lv_iconst (v := nI 0) hx hb dX6_awayFrom_34 (by decide) ?_
      refine lv_istore_n (lv' := [(3, .int (nI 0)), (0, .ref (a 0)), (1, .int (nI u)), (2, .int (nI bb))]) hx hb dX6_awayFrom_35 rfl hl (by decide) rfl (fun ls hl => ?_)
      refine lv_iconst (v := nI 0) hx hb dX6_awayFrom_36 (by decide) ?_
      refine lv_istore (lv' := [(4, .int (nI 0)), (3, .int (nI 0)), (0, .ref (a 0)), (1, .int (nI u)), (2, .int (nI bb))]) hx hb dX6_awayFrom_37 hl (by decide) rfl (fun ls hl => ?_)
      have L_39 : ∀ (n i : Nat), i ≤ 10 → 10 + 1 ≤ i + n → ∀ (ls : Array Slot), lv_has ls 5 [(0, .ref (a 0)), (1, .int (nI u)), (2, .int (nI bb)), (3, .int (sm (lackF S u bb) i)), (4, .int (nI i))] → W p l e rm_X6_awayFrom s m ([.ref (a 0), .int (nI u), .int (nI bb)] : List Value).toArray below meth c s.heap [] 0 0 Q (F0 m 39 ls []) := by
        intro n
        induction n with
        | zero => intro i h1 h2; exact absurd h2 (by omega)
        | succ n ih_39 =>
          intro i hle_39 hfu_39 ls hl
          refine lv_iload hx hb dX6_awayFrom_39 (lv_at hl 4 rfl) ?_
          refine lv_bipush (v := nI 10) hx hb dX6_awayFrom_41 (by decide) ?_
          refine lv_icmp_ge (tgt := 84) hx hb dX6_awayFrom_43 (by decide) (fun c_43 => ?_) (fun c_43 => ?_)
          · have c_43 : 10 ≤ i := cb_ge (by omega) (by omega) c_43
            refine lv_iload_n hx hb dX6_awayFrom_84 rfl (lv_at hl 3 rfl) ?_
            rw [hQ]
            exact W.iret (v := sm (lackF S u bb) i) hx hb hr (fun t9 ht9 hW9 => ⟨sm (lackF S u bb) i, rfl, (by rw [dist_n (Int32.not_lt.mpr c_29) (fun z => c_11 ((sar1 (by omega)).mpr z)), show i = 10 by omega]; rfl), ht9⟩) (fun q h => absurd h List.not_mem_nil) dX6_awayFrom_85
          · have c_43 : i < 10 := cb_nge (by omega) (by omega) c_43
            refine lv_iload_n hx hb dX6_awayFrom_46 rfl (lv_at hl 3 rfl) ?_
            refine lv_iconst (v := nI 0) hx hb dX6_awayFrom_47 (by decide) ?_
            refine lv_aload_n hx hb dX6_awayFrom_48 rfl (lv_at hl 0 rfl) ?_
            refine va_get (D := (dC, dI)) (ci := 6) (v := .ref (a 14)) (C := RX6) (T := TX6) (N := 23) hx hb hts i_X6 hown hK hP 0 rfl rfl 22 (by decide) f_3 (fun _ h9 => h9) rfl dX6_awayFrom_49 ?_
            refine lv_bipush (v := nI 10) hx hb dX6_awayFrom_52 (by decide) ?_
            refine lv_iload_n hx hb dX6_awayFrom_54 rfl (lv_at hl 2 rfl) ?_
            refine lv_imul hx hb dX6_awayFrom_55 ?_
            refine cb_topi (pk_mul _ _) ?_
            refine lv_iload hx hb dX6_awayFrom_56 (lv_at hl 4 rfl) ?_
            refine lv_iadd hx hb dX6_awayFrom_58 ?_
            refine cb_topi (nI_add _ _) ?_
            refine cb_topi (z := nI (bb * 10 + i)) (congrArg nI (by omega)) ?_
            refine cb_iald hx hb hK hP 14 13 (f := c_wnt S) rfl rfl (j := bb * 10 + i) (by omega) (Nat.le_of_ble_eq_true rfl) dX6_awayFrom_59 ?_
            refine lv_aload_n hx hb dX6_awayFrom_60 rfl (lv_at hl 0 rfl) ?_
            refine va_get (D := (dC, dI)) (ci := 6) (v := .ref (a 7)) (C := RX6) (T := TX6) (N := 23) hx hb hts i_X6 hown hK hP 0 rfl rfl 10 (by decide) f_4 (fun _ h9 => h9) rfl dX6_awayFrom_61 ?_
            refine lv_bipush (v := nI 10) hx hb dX6_awayFrom_64 (by decide) ?_
            refine lv_iload_n hx hb dX6_awayFrom_66 rfl (lv_at hl 1 rfl) ?_
            refine lv_imul hx hb dX6_awayFrom_67 ?_
            refine cb_topi (pk_mul _ _) ?_
            refine lv_iload hx hb dX6_awayFrom_68 (lv_at hl 4 rfl) ?_
            refine lv_iadd hx hb dX6_awayFrom_70 ?_
            refine cb_topi (nI_add _ _) ?_
            refine cb_topi (z := nI (u * 10 + i)) (congrArg nI (by omega)) ?_
            refine cb_iald hx hb hK hP 7 6 (f := c_hrs S) rfl rfl (j := u * 10 + i) (by omega) (Nat.le_of_ble_eq_true rfl) dX6_awayFrom_71 ?_
            refine lv_isub hx hb dX6_awayFrom_72 ?_
            refine va_mmax hx hb (hml.trans hl.1.symm) hown f_5 f_6 f_7 f_8 (Nat.le_of_ble_eq_true rfl) (Nat.le_of_ble_eq_true rfl) (Nat.le_of_ble_eq_true rfl) (Nat.le_of_ble_eq_true rfl) dX6_awayFrom_73 ?_
            refine cb_topi (z := cMax (nI 0) ((c_wnt S (bb * 10 + i)) - (c_hrs S (u * 10 + i)))) rfl ?_
            refine lv_iadd hx hb dX6_awayFrom_76 ?_
            refine lv_istore_n (lv' := [(3, .int ((sm (lackF S u bb) i) + (cMax (nI 0) ((c_wnt S (bb * 10 + i)) - (c_hrs S (u * 10 + i)))))), (0, .ref (a 0)), (1, .int (nI u)), (2, .int (nI bb)), (4, .int (nI i))]) hx hb dX6_awayFrom_77 rfl hl (by decide) rfl (fun ls hl => ?_)
            refine lv_iinc (v := nI (i + 1)) (lv' := [(4, .int (nI (i + 1))), (3, .int ((sm (lackF S u bb) i) + (cMax (nI 0) ((c_wnt S (bb * 10 + i)) - (c_hrs S (u * 10 + i)))))), (0, .ref (a 0)), (1, .int (nI u)), (2, .int (nI bb))]) hx hb dX6_awayFrom_78 hl (k := 4) rfl (nI_1 _) (by decide) rfl (fun ls hl => ?_)
            refine lv_goto (tgt := 39) hx hb dX6_awayFrom_81 (by decide) ?_
            have hl : lv_has ls 5 [(4, .int (nI (i + 1))), (3, .int (sm (lackF S u bb) (i + 1))), (0, .ref (a 0)), (1, .int (nI u)), (2, .int (nI bb))] := cb_loc hl (e := Value.int (sm (lackF S u bb) (i + 1))) 1 rfl (congrArg Value.int (show (sm (lackF S u bb) i) + (cMax (nI 0) ((c_wnt S (bb * 10 + i)) - (c_hrs S (u * 10 + i)))) = sm (lackF S u bb) (i + 1) from rfl))
            exact ih_39 (i + 1) (by omega) (by omega) ls (lv_sub hl [2, 3, 4, 1, 0] rfl)
      have hl : lv_has ls 5 [(4, .int (nI 0)), (3, .int (sm (lackF S u bb) 0)), (0, .ref (a 0)), (1, .int (nI u)), (2, .int (nI bb))] := cb_loc hl (e := Value.int (sm (lackF S u bb) 0)) 1 rfl (congrArg Value.int (show nI 0 = sm (lackF S u bb) 0 from rfl))
      exact L_39 (10 + 1) 0 (by omega) (by omega) ls (lv_sub hl [2, 3, 4, 1, 0] rfl)
    · skip
      refine lv_iconst (v := (-1)) hx hb dX6_awayFrom_32 (by decide) ?_
      rw [hQ]
      exact W.iret (v := (-1)) hx hb hr (fun t9 ht9 hW9 => ⟨(-1), rfl, (dist_y (Int32.not_le.mp c_29)).symm, ht9⟩) (fun q h => absurd h List.not_mem_nil) dX6_awayFrom_33
  · skip
    refine lv_bipush (v := (-2)) hx hb dX6_awayFrom_14 (by decide) ?_
    rw [hQ]
    exact W.iret (v := (-2)) hx hb hr (fun t9 ht9 hW9 => ⟨(-2), rfl, (dist_b hI hu hbb ((sar1 (by omega)).mp c_11)).symm, ht9⟩) (fun q h => absurd h List.not_mem_nil) dX6_awayFrom_16
end CBM
