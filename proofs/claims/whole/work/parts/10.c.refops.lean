section CBM
abbrev rm_X6_diet : Room := { frames := 2, cells := 0, slots := 0, locals := 43 }
set_option maxHeartbeats 4000000 in
set_option maxRecDepth 100000 in
theorem c_X6_diet (l : Launch) (dC : Nat → ClassId) (dI : Nat → Nat → Nat) (a : Nat → Nat) (k : Nat → ClassId) (S : cs_S) (th : Nat) (sz : Nat) (x0 : Int32) (x1 : Int32) (b9 : Bool) (hI : Inv S) : Met l yX6_diet wsX6_diet rm_X6_diet (va_Pc [.ref (a 0), .int x0, .int x1, .int (bI b9)] (cT dC dI sz (mb_w a k S th) (mb_ty k))) (va_Qi (fun (r : Int32) (_ : Unit) => (k_diet S x0 x1 = 0 → r = bI (r_diet S x0 x1))) (fun _ t => cB dC dI (va_A (mb_w a k S th) sz) (mb_w a k (kS (k_diet S x0 x1) (S_diet S x0 x1 b9) S) (k_diet S x0 x1)) (mb_ty k) t) (va_A (mb_w a k S th) sz)) 0 0 (va_A (mb_w a k S th) sz) := by
  refine Met.ofW (cc := cX6_diet) (maxL := 5) (ret := (some .boolean)) (by decide) rfl ?_
  intro p e s m args below meth c s₁ B hml hv
  obtain ⟨rfl, hsz, hP, hK, hD0⟩ := hv
  have hx := B.exec
  have hb := B.bytes
  have hr := B.returns
  have hts := atoms_spec (ws := wsX6_diet) B.pre
  have hown : s.vm.findClass RX6 = some m.cls := findClass_of_methodNamed B.named
  have hlocks := B.notSynchronized
  subst hsz
  have hD := hD0.self (sz := s.heap.size)
  generalize hAe : va_A (mb_w a k S th) s.heap.size = A at hD ⊢
  have hA : ∀ q : Nat, s.heap.size ≤ q → A q := fun q h => by rw [← hAe]; exact Or.inr h
  have hS : va_S A s.heap s.heap [] := va_S.rf
  obtain ⟨Q, hQ⟩ : ∃ Q, Q = MQ below (va_Qi (fun (r : Int32) (_ : Unit) => (k_diet S x0 x1 = 0 → r = bI (r_diet S x0 x1))) (fun _ t => cB dC dI A (mb_w a k (kS (k_diet S x0 x1) (S_diet S x0 x1 b9) S) (k_diet S x0 x1)) (mb_ty k) t) A) ([.ref (a 0), .int x0, .int x1, .int (bI b9)] : List Value).toArray s 0 0 A := ⟨_, rfl⟩
  show W p l e rm_X6_diet s m _ below meth c s.heap [] 0 0 (MQ below _ _ _ _ _ _) _
  rw [← hQ]
  have i_X6 : ∀ w ∈ wsX60, w ∈ wsX6_diet := fun w h => List.mem_cons_of_mem _ (List.mem_append_right _ h)
  obtain ⟨⟨hday, hnp, hns, hnt, hnf, hnm, hnb, hme⟩, hpat, hage, hten, hcnt, hplc, heat, hned, hhld, hbad, hbad0, hbag⟩ := id hI
  have f_0 := hts (.fieldLink RX6 53 "CampBookModel" "thrown" "I") (by decide +kernel)
  have f_1 := hts (.fieldLink RX6 19 "CampBookModel" "avoids" "[I") (by decide +kernel)
  have hl := lv_entry ([.ref (a 0), .int x0, .int x1, .int (bI b9)]) (n := 5) (Nat.le_of_ble_eq_true rfl)
  rw [lg_entry_eq]
  generalize (lg_sl ([.ref (a 0), .int x0, .int x1, .int (bI b9)]) ++ List.replicate (5 - (lg_sl ([.ref (a 0), .int x0, .int x1, .int (bI b9)])).length) Slot.unset).toArray = ls at hl ⊢
  have hl : lv_has ls 5 [(0, .ref (a 0)), (1, .int x0), (2, .int x1), (3, .int (bI b9))] := hl
  refine lv_aload_n hx hb dX6_diet_0 rfl (lv_at hl 0 rfl) ?_
  refine lv_aload_n hx hb dX6_diet_1 rfl (lv_at hl 0 rfl) ?_
  refine lv_iload_n hx hb dX6_diet_2 rfl (lv_at hl 1 rfl) ?_
  refine vp_callSi (W.runV (As := [.int x0]) (rest := [.ref (a 0)]) ⟨hx, hb, hml, hown, hts⟩ (c_X6_isScout l dC dI a k S th x0 hI) (cwV 1 hts gX6_diet_X6_isScout rfl rfl rfl (by decide +kernel) ⟨(Nat.le_of_ble_eq_true rfl), (Nat.le_of_ble_eq_true rfl)⟩) ⟨cR_blind, va_recv hK hP (ci := 6) (q0 := 0) rfl rfl, fun U hU hW => ⟨rfl, cR_of hK hP hU hW⟩⟩ rfl rfl hl.1 rfl (lv_room (Nat.le_of_ble_eq_true rfl)) dX6_diet_3 ⟨(by show 0 + 0 ≤ 0; omega), (by show 0 + 0 ≤ 0; omega)⟩) (fun r er => ?_)
  subst er
  refine lv_if_eq (tgt := 21) hx hb dX6_diet_6 (by decide) (fun c_6 => ?_) (fun c_6 => ?_)
  · have c_6 : (ix x0 (c_ns S)) = false := bI_0 c_6
    refine lv_iconst (v := nI 1) hx hb dX6_diet_21 (by decide) ?_
    refine va_put (D := (dC, dI)) (ci := 6) (v := .int (nI 1)) (ty := .int) (C := RX6) (T := TX6) (N := 23) hx hb hts i_X6 tyX6 tyX6_ok nmX6 hown hK hP hD hS 0 rfl rfl 0 (by decide) f_0 (fun _ h9 => h9) rfl (by decide +kernel) rfl rfl (Nat.le_of_ble_eq_true rfl) dX6_diet_22 (fun H locs hP hD hS => ?_)
    rw [wsM_TH] at hP hD
    have hP : va_P (dC, dI) vwCl (mb_w a k S 1) H := hP
    have hD : va_D A (mb_w a k S 1) := hD
    refine lv_aload_n hx hb dX6_diet_25 rfl (lv_at hl 0 rfl) ?_
    refine va_get (D := (dC, dI)) (ci := 6) (v := .int (nI 1)) (C := RX6) (T := TX6) (N := 23) hx hb hts i_X6 hown hK hP 0 rfl rfl 0 (by decide) f_0 (fun _ h9 => h9) rfl dX6_diet_26 ?_
    refine lv_if_eq (tgt := 34) hx hb dX6_diet_29 (by decide) (fun c_29 => ?_) (fun c_29 => ?_)
    · exact absurd c_29 (by decide)
    · skip
      refine lv_iconst (v := nI 0) hx hb dX6_diet_32 (by decide) ?_
      have hk9 : k_diet S x0 x1 = 1 := by simp only [k_diet, c_6, if_true, if_false, Bool.false_eq_true, true_or, or_true, false_or, or_false, reduceCtorEq]
      have ew : (mb_w a k S 1) = (mb_w a k (kS (k_diet S x0 x1) (S_diet S x0 x1 b9) S) (k_diet S x0 x1)) := (by rw [hk9]; first | done | rfl)
      have hP : va_P (dC, dI) vwCl (mb_w a k (kS (k_diet S x0 x1) (S_diet S x0 x1 b9) S) (k_diet S x0 x1)) H := by rw [← ew]; exact hP
      have hD : va_D A (mb_w a k (kS (k_diet S x0 x1) (S_diet S x0 x1 b9) S) (k_diet S x0 x1)) := by rw [← ew]; exact hD
      rw [hQ]
      refine W.widen (k := 0) (n := 0) (by omega) (by omega) ?_
      exact W.zret (v := nI 0) hx hb hr rfl (fun t9 ht9 hW9 => ⟨⟨nI 0, (), rfl, (fun h => absurd (hk9.symm.trans h) (by decide)), cB_of hP hK hD ht9 hW9⟩, hS.F ht9⟩) hS.2.2 dX6_diet_33
  · have c_6 : (ix x0 (c_ns S)) = true := bI_n c_6
    obtain ⟨u, hu, eu⟩ := ix_t c_6 (by omega)
    rw [eu] at hl
    have tu : toN x0 = u := by rw [eu]; exact tn (by omega)
    refine lv_aload_n hx hb dX6_diet_9 rfl (lv_at hl 0 rfl) ?_
    refine lv_iload_n hx hb dX6_diet_10 rfl (lv_at hl 2 rfl) ?_
    refine vp_callSi (W.runV (As := [.int x1]) (rest := [.ref (a 0)]) ⟨hx, hb, hml, hown, hts⟩ (c_X6_isFood l dC dI a k S th x1 hI) (cwV 1 hts gX6_diet_X6_isFood rfl rfl rfl (by decide +kernel) ⟨(Nat.le_of_ble_eq_true rfl), (Nat.le_of_ble_eq_true rfl)⟩) ⟨cR_blind, va_recv hK hP (ci := 6) (q0 := 0) rfl rfl, fun U hU hW => ⟨rfl, cR_of hK hP hU hW⟩⟩ rfl rfl hl.1 rfl (lv_room (Nat.le_of_ble_eq_true rfl)) dX6_diet_11 ⟨(by show 0 + 0 ≤ 0; omega), (by show 0 + 0 ≤ 0; omega)⟩) (fun r er => ?_)
    subst er
    refine lv_if_eq (tgt := 21) hx hb dX6_diet_14 (by decide) (fun c_14 => ?_) (fun c_14 => ?_)
    · have c_14 : (ix x1 (c_nf S)) = false := bI_0 c_14
      refine lv_iconst (v := nI 1) hx hb dX6_diet_21 (by decide) ?_
      refine va_put (D := (dC, dI)) (ci := 6) (v := .int (nI 1)) (ty := .int) (C := RX6) (T := TX6) (N := 23) hx hb hts i_X6 tyX6 tyX6_ok nmX6 hown hK hP hD hS 0 rfl rfl 0 (by decide) f_0 (fun _ h9 => h9) rfl (by decide +kernel) rfl rfl (Nat.le_of_ble_eq_true rfl) dX6_diet_22 (fun H locs hP hD hS => ?_)
      rw [wsM_TH] at hP hD
      have hP : va_P (dC, dI) vwCl (mb_w a k S 1) H := hP
      have hD : va_D A (mb_w a k S 1) := hD
      refine lv_aload_n hx hb dX6_diet_25 rfl (lv_at hl 0 rfl) ?_
      refine va_get (D := (dC, dI)) (ci := 6) (v := .int (nI 1)) (C := RX6) (T := TX6) (N := 23) hx hb hts i_X6 hown hK hP 0 rfl rfl 0 (by decide) f_0 (fun _ h9 => h9) rfl dX6_diet_26 ?_
      refine lv_if_eq (tgt := 34) hx hb dX6_diet_29 (by decide) (fun c_29 => ?_) (fun c_29 => ?_)
      · exact absurd c_29 (by decide)
      · skip
        refine lv_iconst (v := nI 0) hx hb dX6_diet_32 (by decide) ?_
        have hk9 : k_diet S x0 x1 = 1 := by simp only [k_diet, c_6, c_14, tu, if_true, if_false, Bool.false_eq_true, true_or, or_true, false_or, or_false, reduceCtorEq]
        have ew : (mb_w a k S 1) = (mb_w a k (kS (k_diet S x0 x1) (S_diet S x0 x1 b9) S) (k_diet S x0 x1)) := (by rw [hk9]; first | done | rfl)
        have hP : va_P (dC, dI) vwCl (mb_w a k (kS (k_diet S x0 x1) (S_diet S x0 x1 b9) S) (k_diet S x0 x1)) H := by rw [← ew]; exact hP
        have hD : va_D A (mb_w a k (kS (k_diet S x0 x1) (S_diet S x0 x1 b9) S) (k_diet S x0 x1)) := by rw [← ew]; exact hD
        rw [hQ]
        refine W.widen (k := 0) (n := 0) (by omega) (by omega) ?_
        exact W.zret (v := nI 0) hx hb hr rfl (fun t9 ht9 hW9 => ⟨⟨nI 0, (), rfl, (fun h => absurd (hk9.symm.trans h) (by decide)), cB_of hP hK hD ht9 hW9⟩, hS.F ht9⟩) hS.2.2 dX6_diet_33
    · have c_14 : (ix x1 (c_nf S)) = true := bI_n c_14
      obtain ⟨f, hf, ef⟩ := ix_t c_14 (by omega)
      rw [ef] at hl
      have tf : toN x1 = f := by rw [ef]; exact tn (by omega)
      refine lv_iconst (v := nI 0) hx hb dX6_diet_17 (by decide) ?_
      refine lv_goto (tgt := 22) hx hb dX6_diet_18 (by decide) ?_
      refine va_put (D := (dC, dI)) (ci := 6) (v := .int (nI 0)) (ty := .int) (C := RX6) (T := TX6) (N := 23) hx hb hts i_X6 tyX6 tyX6_ok nmX6 hown hK hP hD hS 0 rfl rfl 0 (by decide) f_0 (fun _ h9 => h9) rfl (by decide +kernel) rfl rfl (Nat.le_of_ble_eq_true rfl) dX6_diet_22 (fun H locs hP hD hS => ?_)
      rw [wsM_TH] at hP hD
      have hP : va_P (dC, dI) vwCl (mb_w a k S 0) H := hP
      have hD : va_D A (mb_w a k S 0) := hD
      refine lv_aload_n hx hb dX6_diet_25 rfl (lv_at hl 0 rfl) ?_
      refine va_get (D := (dC, dI)) (ci := 6) (v := .int (nI 0)) (C := RX6) (T := TX6) (N := 23) hx hb hts i_X6 hown hK hP 0 rfl rfl 0 (by decide) f_0 (fun _ h9 => h9) rfl dX6_diet_26 ?_
      refine lv_if_eq (tgt := 34) hx hb dX6_diet_29 (by decide) (fun c_29 => ?_) (fun c_29 => ?_)
      · skip
        refine lv_aload_n hx hb dX6_diet_34 rfl (lv_at hl 0 rfl) ?_
        refine va_get (D := (dC, dI)) (ci := 6) (v := .ref (a 4)) (C := RX6) (T := TX6) (N := 23) hx hb hts i_X6 hown hK hP 0 rfl rfl 7 (by decide) f_1 (fun _ h9 => h9) rfl dX6_diet_35 ?_
        refine lv_iload_n hx hb dX6_diet_38 rfl (lv_at hl 1 rfl) ?_
        refine cb_iald hx hb hK hP 4 3 (f := c_ref S) rfl rfl (j := u) (by omega) (Nat.le_of_ble_eq_true rfl) dX6_diet_39 ?_
        refine lv_iload_n hx hb dX6_diet_40 rfl (lv_at hl 2 rfl) ?_
        refine lv_ishr hx hb dX6_diet_41 ?_
        refine lv_iconst (v := nI 1) hx hb dX6_diet_42 (by decide) ?_
        refine lv_iand hx hb dX6_diet_43 ?_
        refine lv_if_ne (tgt := 51) hx hb dX6_diet_44 (by decide) (fun c_44 => ?_) (fun c_44 => ?_)
        · skip
          refine lv_iconst (v := nI 0) hx hb dX6_diet_51 (by decide) ?_
          refine lv_istore (lv' := [(4, .int (nI 0)), (0, .ref (a 0)), (1, .int (nI u)), (2, .int (nI f)), (3, .int (bI b9))]) hx hb dX6_diet_52 hl (by decide) rfl (fun ls hl => ?_)
          refine lv_aload_n hx hb dX6_diet_54 rfl (lv_at hl 1 rfl) ?_
          refine va_get (D := (dC, dI)) (ci := 6) (v := .ref (a 4)) (C := RX6) (T := TX6) (N := 23) hx hb hts i_X6 hown hK hP 0 rfl rfl 7 (by decide) f_1 (fun _ h9 => h9) rfl dX6_diet_55 ?_
          refine lv_iload_n hx hb dX6_diet_58 rfl (lv_at hl 2 rfl) ?_
          refine lv_iload_n hx hb dX6_diet_59 rfl (lv_at hl 4 rfl) ?_
          refine lv_if_eq (tgt := 78) hx hb dX6_diet_60 (by decide) (fun c_60 => ?_) (fun c_60 => ?_)
          · have c_60 : b9 = false := bI_0 c_60
            refine lv_aload_n hx hb dX6_diet_78 rfl (lv_at hl 1 rfl) ?_
            refine va_get (D := (dC, dI)) (ci := 6) (v := .ref (a 4)) (C := RX6) (T := TX6) (N := 23) hx hb hts i_X6 hown hK hP 0 rfl rfl 7 (by decide) f_1 (fun _ h9 => h9) rfl dX6_diet_79 ?_
            refine lv_iload_n hx hb dX6_diet_82 rfl (lv_at hl 2 rfl) ?_
            refine cb_iald hx hb hK hP 4 3 (f := c_ref S) rfl rfl (j := u) (by omega) (Nat.le_of_ble_eq_true rfl) dX6_diet_83 ?_
            refine lv_iconst (v := nI 1) hx hb dX6_diet_84 (by decide) ?_
            refine lv_iload_n hx hb dX6_diet_85 rfl (lv_at hl 3 rfl) ?_
            refine lv_ishl hx hb dX6_diet_86 ?_
            refine lv_ior hx hb dX6_diet_87 ?_
            refine cb_iast hx hb hK hP hD hS 4 3 (f := c_ref S) rfl rfl (j := u) (by omega) (Nat.le_of_ble_eq_true rfl) dX6_diet_88 (fun H locs hP hD hS => ?_)
            rw [wsM_ref] at hP hD
            have hP : va_P (dC, dI) vwCl (mb_w a k (s_ref S (upd (c_ref S) u ((c_ref S u) ||| ((nI 1) <<< (nI f &&& 31))))) 0) H := hP
            have hD : va_D A (mb_w a k (s_ref S (upd (c_ref S) u ((c_ref S u) ||| ((nI 1) <<< (nI f &&& 31))))) 0) := hD
            refine lv_iload hx hb dX6_diet_89 (lv_at hl 0 rfl) ?_
            have hk9 : k_diet S x0 x1 = 0 := by simp only [k_diet, c_6, c_14, tu, tf, if_true, if_false, Bool.false_eq_true, true_or, or_true, false_or, or_false, reduceCtorEq]
            have ew : (mb_w a k (s_ref S (upd (c_ref S) u ((c_ref S u) ||| ((nI 1) <<< (nI f &&& 31))))) 0) = (mb_w a k (kS (k_diet S x0 x1) (S_diet S x0 x1 b9) S) (k_diet S x0 x1)) := (by rw [hk9, kS_0, S_diet, tu, if_neg (by rw [c_60]; decide), ef]; first | done | rfl)
            have hP : va_P (dC, dI) vwCl (mb_w a k (kS (k_diet S x0 x1) (S_diet S x0 x1 b9) S) (k_diet S x0 x1)) H := by rw [← ew]; exact hP
            have hD : va_D A (mb_w a k (kS (k_diet S x0 x1) (S_diet S x0 x1 b9) S) (k_diet S x0 x1)) := by rw [← ew]; exact hD
            rw [hQ]
            refine W.widen (k := 0) (n := 0) (by omega) (by omega) ?_
            exact W.zret (v := nI 0) hx hb hr rfl (fun t9 ht9 hW9 => ⟨⟨nI 0, (), rfl, (fun _ => bI_eq0 (by rw [r_diet, tu, tf, ts_nf (fun z => c_44 ((sar0 (by omega)).mpr z))]; rfl)), cB_of hP hK hD ht9 hW9⟩, hS.F ht9⟩) hS.2.2 dX6_diet_91
          · have c_60 : b9 = true := bI_n c_60
            refine lv_aload_n hx hb dX6_diet_63 rfl (lv_at hl 1 rfl) ?_
            refine va_get (D := (dC, dI)) (ci := 6) (v := .ref (a 4)) (C := RX6) (T := TX6) (N := 23) hx hb hts i_X6 hown hK hP 0 rfl rfl 7 (by decide) f_1 (fun _ h9 => h9) rfl dX6_diet_64 ?_
            refine lv_iload_n hx hb dX6_diet_67 rfl (lv_at hl 2 rfl) ?_
            refine cb_iald hx hb hK hP 4 3 (f := c_ref S) rfl rfl (j := u) (by omega) (Nat.le_of_ble_eq_true rfl) dX6_diet_68 ?_
            refine lv_iconst (v := nI 1) hx hb dX6_diet_69 (by decide) ?_
            refine lv_iload_n hx hb dX6_diet_70 rfl (lv_at hl 3 rfl) ?_
            refine lv_ishl hx hb dX6_diet_71 ?_
            refine lv_iconst (v := (-1)) hx hb dX6_diet_72 (by decide) ?_
            refine lv_ixor hx hb dX6_diet_73 ?_
            refine lv_iand hx hb dX6_diet_74 ?_
            refine lv_goto (tgt := 88) hx hb dX6_diet_75 (by decide) ?_
            refine cb_iast hx hb hK hP hD hS 4 3 (f := c_ref S) rfl rfl (j := u) (by omega) (Nat.le_of_ble_eq_true rfl) dX6_diet_88 (fun H locs hP hD hS => ?_)
            rw [wsM_ref] at hP hD
            have hP : va_P (dC, dI) vwCl (mb_w a k (s_ref S (upd (c_ref S) u ((c_ref S u) &&& (((nI 1) <<< (nI f &&& 31)) ^^^ (-1))))) 0) H := hP
            have hD : va_D A (mb_w a k (s_ref S (upd (c_ref S) u ((c_ref S u) &&& (((nI 1) <<< (nI f &&& 31)) ^^^ (-1))))) 0) := hD
            refine lv_iload hx hb dX6_diet_89 (lv_at hl 0 rfl) ?_
            have hk9 : k_diet S x0 x1 = 0 := by simp only [k_diet, c_6, c_14, tu, tf, if_true, if_false, Bool.false_eq_true, true_or, or_true, false_or, or_false, reduceCtorEq]
            have ew : (mb_w a k (s_ref S (upd (c_ref S) u ((c_ref S u) &&& (((nI 1) <<< (nI f &&& 31)) ^^^ (-1))))) 0) = (mb_w a k (kS (k_diet S x0 x1) (S_diet S x0 x1 b9) S) (k_diet S x0 x1)) := (by rw [hk9, kS_0, S_diet, tu, if_pos c_60, ef]; first | done | rfl)
            have hP : va_P (dC, dI) vwCl (mb_w a k (kS (k_diet S x0 x1) (S_diet S x0 x1 b9) S) (k_diet S x0 x1)) H := by rw [← ew]; exact hP
            have hD : va_D A (mb_w a k (kS (k_diet S x0 x1) (S_diet S x0 x1 b9) S) (k_diet S x0 x1)) := by rw [← ew]; exact hD
            rw [hQ]
            refine W.widen (k := 0) (n := 0) (by omega) (by omega) ?_
            exact W.zret (v := nI 0) hx hb hr rfl (fun t9 ht9 hW9 => ⟨⟨nI 0, (), rfl, (fun _ => bI_eq0 (by rw [r_diet, tu, tf, ts_nf (fun z => c_44 ((sar0 (by omega)).mpr z))]; rfl)), cB_of hP hK hD ht9 hW9⟩, hS.F ht9⟩) hS.2.2 dX6_diet_91
        · skip
          refine lv_iconst (v := nI 1) hx hb dX6_diet_47 (by decide) ?_
          refine lv_goto (tgt := 52) hx hb dX6_diet_48 (by decide) ?_
          refine lv_istore (lv' := [(4, .int (nI 1)), (0, .ref (a 0)), (1, .int (nI u)), (2, .int (nI f)), (3, .int (bI b9))]) hx hb dX6_diet_52 hl (by decide) rfl (fun ls hl => ?_)
          refine lv_aload_n hx hb dX6_diet_54 rfl (lv_at hl 1 rfl) ?_
          refine va_get (D := (dC, dI)) (ci := 6) (v := .ref (a 4)) (C := RX6) (T := TX6) (N := 23) hx hb hts i_X6 hown hK hP 0 rfl rfl 7 (by decide) f_1 (fun _ h9 => h9) rfl dX6_diet_55 ?_
          refine lv_iload_n hx hb dX6_diet_58 rfl (lv_at hl 2 rfl) ?_
          refine lv_iload_n hx hb dX6_diet_59 rfl (lv_at hl 4 rfl) ?_
          refine lv_if_eq (tgt := 78) hx hb dX6_diet_60 (by decide) (fun c_60 => ?_) (fun c_60 => ?_)
          · have c_60 : b9 = false := bI_0 c_60
            refine lv_aload_n hx hb dX6_diet_78 rfl (lv_at hl 1 rfl) ?_
            refine va_get (D := (dC, dI)) (ci := 6) (v := .ref (a 4)) (C := RX6) (T := TX6) (N := 23) hx hb hts i_X6 hown hK hP 0 rfl rfl 7 (by decide) f_1 (fun _ h9 => h9) rfl dX6_diet_79 ?_
            refine lv_iload_n hx hb dX6_diet_82 rfl (lv_at hl 2 rfl) ?_
            refine cb_iald hx hb hK hP 4 3 (f := c_ref S) rfl rfl (j := u) (by omega) (Nat.le_of_ble_eq_true rfl) dX6_diet_83 ?_
            refine lv_iconst (v := nI 1) hx hb dX6_diet_84 (by decide) ?_
            refine lv_iload_n hx hb dX6_diet_85 rfl (lv_at hl 3 rfl) ?_
            refine lv_ishl hx hb dX6_diet_86 ?_
            refine lv_ior hx hb dX6_diet_87 ?_
            refine cb_iast hx hb hK hP hD hS 4 3 (f := c_ref S) rfl rfl (j := u) (by omega) (Nat.le_of_ble_eq_true rfl) dX6_diet_88 (fun H locs hP hD hS => ?_)
            rw [wsM_ref] at hP hD
            have hP : va_P (dC, dI) vwCl (mb_w a k (s_ref S (upd (c_ref S) u ((c_ref S u) ||| ((nI 1) <<< (nI f &&& 31))))) 0) H := hP
            have hD : va_D A (mb_w a k (s_ref S (upd (c_ref S) u ((c_ref S u) ||| ((nI 1) <<< (nI f &&& 31))))) 0) := hD
            refine lv_iload hx hb dX6_diet_89 (lv_at hl 0 rfl) ?_
            have hk9 : k_diet S x0 x1 = 0 := by simp only [k_diet, c_6, c_14, tu, tf, if_true, if_false, Bool.false_eq_true, true_or, or_true, false_or, or_false, reduceCtorEq]
            have ew : (mb_w a k (s_ref S (upd (c_ref S) u ((c_ref S u) ||| ((nI 1) <<< (nI f &&& 31))))) 0) = (mb_w a k (kS (k_diet S x0 x1) (S_diet S x0 x1 b9) S) (k_diet S x0 x1)) := (by rw [hk9, kS_0, S_diet, tu, if_neg (by rw [c_60]; decide), ef]; first | done | rfl)
            have hP : va_P (dC, dI) vwCl (mb_w a k (kS (k_diet S x0 x1) (S_diet S x0 x1 b9) S) (k_diet S x0 x1)) H := by rw [← ew]; exact hP
            have hD : va_D A (mb_w a k (kS (k_diet S x0 x1) (S_diet S x0 x1 b9) S) (k_diet S x0 x1)) := by rw [← ew]; exact hD
            rw [hQ]
            refine W.widen (k := 0) (n := 0) (by omega) (by omega) ?_
            exact W.zret (v := nI 1) hx hb hr rfl (fun t9 ht9 hW9 => ⟨⟨nI 1, (), rfl, (fun _ => bI_eq1 (by rw [r_diet, tu, tf, (sar0 (by omega)).mp c_44]; rfl)), cB_of hP hK hD ht9 hW9⟩, hS.F ht9⟩) hS.2.2 dX6_diet_91
          · have c_60 : b9 = true := bI_n c_60
            refine lv_aload_n hx hb dX6_diet_63 rfl (lv_at hl 1 rfl) ?_
            refine va_get (D := (dC, dI)) (ci := 6) (v := .ref (a 4)) (C := RX6) (T := TX6) (N := 23) hx hb hts i_X6 hown hK hP 0 rfl rfl 7 (by decide) f_1 (fun _ h9 => h9) rfl dX6_diet_64 ?_
            refine lv_iload_n hx hb dX6_diet_67 rfl (lv_at hl 2 rfl) ?_
            refine cb_iald hx hb hK hP 4 3 (f := c_ref S) rfl rfl (j := u) (by omega) (Nat.le_of_ble_eq_true rfl) dX6_diet_68 ?_
            refine lv_iconst (v := nI 1) hx hb dX6_diet_69 (by decide) ?_
            refine lv_iload_n hx hb dX6_diet_70 rfl (lv_at hl 3 rfl) ?_
            refine lv_ishl hx hb dX6_diet_71 ?_
            refine lv_iconst (v := (-1)) hx hb dX6_diet_72 (by decide) ?_
            refine lv_ixor hx hb dX6_diet_73 ?_
            refine lv_iand hx hb dX6_diet_74 ?_
            refine lv_goto (tgt := 88) hx hb dX6_diet_75 (by decide) ?_
            refine cb_iast hx hb hK hP hD hS 4 3 (f := c_ref S) rfl rfl (j := u) (by omega) (Nat.le_of_ble_eq_true rfl) dX6_diet_88 (fun H locs hP hD hS => ?_)
            rw [wsM_ref] at hP hD
            have hP : va_P (dC, dI) vwCl (mb_w a k (s_ref S (upd (c_ref S) u ((c_ref S u) &&& (((nI 1) <<< (nI f &&& 31)) ^^^ (-1))))) 0) H := hP
            have hD : va_D A (mb_w a k (s_ref S (upd (c_ref S) u ((c_ref S u) &&& (((nI 1) <<< (nI f &&& 31)) ^^^ (-1))))) 0) := hD
            refine lv_iload hx hb dX6_diet_89 (lv_at hl 0 rfl) ?_
            have hk9 : k_diet S x0 x1 = 0 := by simp only [k_diet, c_6, c_14, tu, tf, if_true, if_false, Bool.false_eq_true, true_or, or_true, false_or, or_false, reduceCtorEq]
            have ew : (mb_w a k (s_ref S (upd (c_ref S) u ((c_ref S u) &&& (((nI 1) <<< (nI f &&& 31)) ^^^ (-1))))) 0) = (mb_w a k (kS (k_diet S x0 x1) (S_diet S x0 x1 b9) S) (k_diet S x0 x1)) := (by rw [hk9, kS_0, S_diet, tu, if_pos c_60, ef]; first | done | rfl)
            have hP : va_P (dC, dI) vwCl (mb_w a k (kS (k_diet S x0 x1) (S_diet S x0 x1 b9) S) (k_diet S x0 x1)) H := by rw [← ew]; exact hP
            have hD : va_D A (mb_w a k (kS (k_diet S x0 x1) (S_diet S x0 x1 b9) S) (k_diet S x0 x1)) := by rw [← ew]; exact hD
            rw [hQ]
            refine W.widen (k := 0) (n := 0) (by omega) (by omega) ?_
            exact W.zret (v := nI 1) hx hb hr rfl (fun t9 ht9 hW9 => ⟨⟨nI 1, (), rfl, (fun _ => bI_eq1 (by rw [r_diet, tu, tf, (sar0 (by omega)).mp c_44]; rfl)), cB_of hP hK hD ht9 hW9⟩, hS.F ht9⟩) hS.2.2 dX6_diet_91
      · exact absurd c_29 (by decide)
abbrev rm_X6_addMeal : Room := { frames := 1, cells := 0, slots := 0, locals := 21 }
set_option maxHeartbeats 4000000 in
set_option maxRecDepth 100000 in
theorem c_X6_addMeal (l : Launch) (dC : Nat → ClassId) (dI : Nat → Nat → Nat) (a : Nat → Nat) (k : Nat → ClassId) (S : cs_S) (th : Nat) (sz : Nat) (hI : Inv S) : Met l yX6_addMeal wsX6_addMeal rm_X6_addMeal (va_Pc [.ref (a 0)] (cT dC dI sz (mb_w a k S th) (mb_ty k))) (va_Qi (fun (r : Int32) (_ : Unit) => (k_addMeal S = 0 → r = nI (c_nm S))) (fun _ t => cB dC dI (va_A (mb_w a k S th) sz) (mb_w a k (kS (k_addMeal S) (S_addMeal S) S) (k_addMeal S)) (mb_ty k) t) (va_A (mb_w a k S th) sz)) 0 0 (va_A (mb_w a k S th) sz) := by
  refine Met.ofW (cc := cX6_addMeal) (maxL := 1) (ret := (some .int)) (by decide) rfl ?_
  intro p e s m args below meth c s₁ B hml hv
  obtain ⟨rfl, hsz, hP, hK, hD0⟩ := hv
  have hx := B.exec
  have hb := B.bytes
  have hr := B.returns
  have hts := atoms_spec (ws := wsX6_addMeal) B.pre
  have hown : s.vm.findClass RX6 = some m.cls := findClass_of_methodNamed B.named
  have hlocks := B.notSynchronized
  subst hsz
  have hD := hD0.self (sz := s.heap.size)
  generalize hAe : va_A (mb_w a k S th) s.heap.size = A at hD ⊢
  have hA : ∀ q : Nat, s.heap.size ≤ q → A q := fun q h => by rw [← hAe]; exact Or.inr h
  have hS : va_S A s.heap s.heap [] := va_S.rf
  obtain ⟨Q, hQ⟩ : ∃ Q, Q = MQ below (va_Qi (fun (r : Int32) (_ : Unit) => (k_addMeal S = 0 → r = nI (c_nm S))) (fun _ t => cB dC dI A (mb_w a k (kS (k_addMeal S) (S_addMeal S) S) (k_addMeal S)) (mb_ty k) t) A) ([.ref (a 0)] : List Value).toArray s 0 0 A := ⟨_, rfl⟩
  show W p l e rm_X6_addMeal s m _ below meth c s.heap [] 0 0 (MQ below _ _ _ _ _ _) _
  rw [← hQ]
  have i_X6 : ∀ w ∈ wsX60, w ∈ wsX6_addMeal := fun w h => List.mem_cons_of_mem _ (List.mem_append_right _ h)
  obtain ⟨⟨hday, hnp, hns, hnt, hnf, hnm, hnb, hme⟩, hpat, hage, hten, hcnt, hplc, heat, hned, hhld, hbad, hbad0, hbag⟩ := id hI
  have f_0 := hts (.fieldLink RX6 53 "CampBookModel" "thrown" "I") (by decide +kernel)
  have f_1 := hts (.fieldLink RX6 73 "CampBookModel" "meals" "I") (by decide +kernel)
  have hl := lv_entry ([.ref (a 0)]) (n := 1) (Nat.le_of_ble_eq_true rfl)
  rw [lg_entry_eq]
  generalize (lg_sl ([.ref (a 0)]) ++ List.replicate (1 - (lg_sl ([.ref (a 0)])).length) Slot.unset).toArray = ls at hl ⊢
  have hl : lv_has ls 1 [(0, .ref (a 0))] := hl
  refine lv_aload_n hx hb dX6_addMeal_0 rfl (lv_at hl 0 rfl) ?_
  refine lv_iconst (v := nI 0) hx hb dX6_addMeal_1 (by decide) ?_
  refine va_put (D := (dC, dI)) (ci := 6) (v := .int (nI 0)) (ty := .int) (C := RX6) (T := TX6) (N := 23) hx hb hts i_X6 tyX6 tyX6_ok nmX6 hown hK hP hD hS 0 rfl rfl 0 (by decide) f_0 (fun _ h9 => h9) rfl (by decide +kernel) rfl rfl (Nat.le_of_ble_eq_true rfl) dX6_addMeal_2 (fun H locs hP hD hS => ?_)
  rw [wsM_TH] at hP hD
  have hP : va_P (dC, dI) vwCl (mb_w a k S 0) H := hP
  have hD : va_D A (mb_w a k S 0) := hD
  refine lv_aload_n hx hb dX6_addMeal_5 rfl (lv_at hl 0 rfl) ?_
  refine va_get (D := (dC, dI)) (ci := 6) (v := .int (nI (c_nm S))) (C := RX6) (T := TX6) (N := 23) hx hb hts i_X6 hown hK hP 0 rfl rfl 17 (by decide) f_1 (fun _ h9 => h9) rfl dX6_addMeal_6 ?_
  refine lv_bipush (v := nI 10) hx hb dX6_addMeal_9 (by decide) ?_
  refine lv_icmp_ne (tgt := 20) hx hb dX6_addMeal_11 (by decide) (fun c_11 => ?_) (fun c_11 => ?_)
  · have c_11 : (c_nm S) ≠ 10 := cb_ne (by omega) (by omega) c_11
    have hq : c_nm S < 10 := by omega
    refine lv_aload_n hx hb dX6_addMeal_20 rfl (lv_at hl 0 rfl) ?_
    refine lv_dup hx hb dX6_addMeal_21 rfl ?_
    refine va_get (D := (dC, dI)) (ci := 6) (v := .int (nI (c_nm S))) (C := RX6) (T := TX6) (N := 23) hx hb hts i_X6 hown hK hP 0 rfl rfl 17 (by decide) f_1 (fun _ h9 => h9) rfl dX6_addMeal_22 ?_
    refine lv_iconst (v := nI 1) hx hb dX6_addMeal_25 (by decide) ?_
    refine lv_iadd hx hb dX6_addMeal_26 ?_
    refine cb_topi (nI_add _ _) ?_
    refine va_put (D := (dC, dI)) (ci := 6) (v := .int (nI ((c_nm S) + 1))) (ty := .int) (C := RX6) (T := TX6) (N := 23) hx hb hts i_X6 tyX6 tyX6_ok nmX6 hown hK hP hD hS 0 rfl rfl 17 (by decide) f_1 (fun _ h9 => h9) rfl (by decide +kernel) rfl rfl (Nat.le_of_ble_eq_true rfl) dX6_addMeal_27 (fun H locs hP hD hS => ?_)
    rw [wsM_nm] at hP hD
    have hP : va_P (dC, dI) vwCl (mb_w a k (s_nm S ((c_nm S) + 1)) 0) H := hP
    have hD : va_D A (mb_w a k (s_nm S ((c_nm S) + 1)) 0) := hD
    refine lv_aload_n hx hb dX6_addMeal_30 rfl (lv_at hl 0 rfl) ?_
    refine va_get (D := (dC, dI)) (ci := 6) (v := .int (nI ((c_nm S) + 1))) (C := RX6) (T := TX6) (N := 23) hx hb hts i_X6 hown hK hP 0 rfl rfl 17 (by decide) f_1 (fun _ h9 => h9) rfl dX6_addMeal_31 ?_
    refine lv_iconst (v := nI 1) hx hb dX6_addMeal_34 (by decide) ?_
    refine lv_isub hx hb dX6_addMeal_35 ?_
    have hk9 : k_addMeal S = 0 := by simp only [k_addMeal, hq, if_true, if_false, Bool.false_eq_true, true_or, or_true, false_or, or_false, reduceCtorEq]
    have ew : (mb_w a k (s_nm S ((c_nm S) + 1)) 0) = (mb_w a k (kS (k_addMeal S) (S_addMeal S) S) (k_addMeal S)) := (by rw [hk9, kS_0, S_addMeal]; first | done | rfl)
    have hP : va_P (dC, dI) vwCl (mb_w a k (kS (k_addMeal S) (S_addMeal S) S) (k_addMeal S)) H := by rw [← ew]; exact hP
    have hD : va_D A (mb_w a k (kS (k_addMeal S) (S_addMeal S) S) (k_addMeal S)) := by rw [← ew]; exact hD
    rw [hQ]
    refine W.widen (k := 0) (n := 0) (by omega) (by omega) ?_
    exact W.iret (v := (nI ((c_nm S) + 1)) - (nI 1)) hx hb hr (fun t9 ht9 hW9 => ⟨⟨(nI ((c_nm S) + 1)) - (nI 1), (), rfl, (fun _ => by rw [pk_sub (by omega)]; rfl), cB_of hP hK hD ht9 hW9⟩, hS.F ht9⟩) hS.2.2 dX6_addMeal_36
  · have c_11 : (c_nm S) = 10 := cb_nne (by omega) (by omega) c_11
    have hq : ¬ c_nm S < 10 := by omega
    refine lv_aload_n hx hb dX6_addMeal_14 rfl (lv_at hl 0 rfl) ?_
    refine lv_iconst (v := nI 1) hx hb dX6_addMeal_15 (by decide) ?_
    have hF_16 : ∀ q, va_A (mb_w a k S 0) H.size q → A q := va_free hD hS hA [0, 1, 2, 3, 4, 5, 6, 7, 8, 9, 10, 11, 12, 13, 14] rfl
    refine va_calli (va_runV (As := [.int (nI 1)]) (rest := []) ⟨hx, hb, hml, hown, hts⟩ (c_X6_no l dC dI a k S 0 H.size 1) (cwV 1 hts gX6_addMeal_X6_no rfl rfl rfl (by decide +kernel) ⟨(Nat.le_of_ble_eq_true rfl), (Nat.le_of_ble_eq_true rfl)⟩) ⟨cT_blind, va_recv hK hP (ci := 6) (q0 := 0) rfl rfl, fun U hU hW => ⟨rfl, cT_of hK hP hD hU hW⟩⟩ rfl rfl hl.1 rfl (lv_room (Nat.le_of_ble_eq_true rfl)) dX6_addMeal_16 ⟨(by show 0 + 0 ≤ 0; omega), (by show 0 + 0 ≤ 0; omega)⟩) hS (fun q _ h => hF_16 q h) hF_16 (fun r_16 u8 t8 H_16 L_16_ ht hvm hw hB hz1 hk1 hS => ?_)
    obtain ⟨hP, -, hD9⟩ := hB
    rw [ht] at hP
    have hD := hD9.weaken (B := A) (fun _ q _ h => hF_16 q.1 h)
    have hP : va_P (dC, dI) vwCl (mb_w a k S 1) H_16 := hP
    have hD : va_D A (mb_w a k S 1) := hD
    subst hw
    have hk9 : k_addMeal S = 1 := by simp only [k_addMeal, hq, if_true, if_false, Bool.false_eq_true, true_or, or_true, false_or, or_false, reduceCtorEq]
    have ew : (mb_w a k S 1) = (mb_w a k (kS (k_addMeal S) (S_addMeal S) S) (k_addMeal S)) := (by rw [hk9]; first | done | rfl)
    have hP : va_P (dC, dI) vwCl (mb_w a k (kS (k_addMeal S) (S_addMeal S) S) (k_addMeal S)) H_16 := by rw [← ew]; exact hP
    have hD : va_D A (mb_w a k (kS (k_addMeal S) (S_addMeal S) S) (k_addMeal S)) := by rw [← ew]; exact hD
    rw [hQ]
    refine W.widen (k := 0) (n := 0) (by omega) (by omega) ?_
    exact W.iret (v := nI 0) hx hb hr (fun t9 ht9 hW9 => ⟨⟨nI 0, (), rfl, (fun h => absurd (hk9.symm.trans h) (by decide)), cB_of hP hK hD ht9 hW9⟩, hS.F ht9⟩) hS.2.2 dX6_addMeal_19
abbrev rm_X6_need : Room := { frames := 2, cells := 0, slots := 0, locals := 43 }
set_option maxHeartbeats 4000000 in
set_option maxRecDepth 100000 in
theorem c_X6_need (l : Launch) (dC : Nat → ClassId) (dI : Nat → Nat → Nat) (a : Nat → Nat) (k : Nat → ClassId) (S : cs_S) (th : Nat) (sz : Nat) (x0 : Int32) (x1 : Int32) (x2 : Int32) (hI : Inv S) : Met l yX6_need wsX6_need rm_X6_need (va_Pc [.ref (a 0), .int x0, .int x1, .int x2] (cT dC dI sz (mb_w a k S th) (mb_ty k))) (va_Qi (fun (r : Int32) (_ : Unit) => (k_need S x0 x1 x2 = 0 → r = r_need S x0 x1)) (fun _ t => cB dC dI (va_A (mb_w a k S th) sz) (mb_w a k (kS (k_need S x0 x1 x2) (S_need S x0 x1 x2) S) (k_need S x0 x1 x2)) (mb_ty k) t) (va_A (mb_w a k S th) sz)) 0 0 (va_A (mb_w a k S th) sz) := by
  refine Met.ofW (cc := cX6_need) (maxL := 5) (ret := (some .int)) (by decide) rfl ?_
  intro p e s m args below meth c s₁ B hml hv
  obtain ⟨rfl, hsz, hP, hK, hD0⟩ := hv
  have hx := B.exec
  have hb := B.bytes
  have hr := B.returns
  have hts := atoms_spec (ws := wsX6_need) B.pre
  have hown : s.vm.findClass RX6 = some m.cls := findClass_of_methodNamed B.named
  have hlocks := B.notSynchronized
  subst hsz
  have hD := hD0.self (sz := s.heap.size)
  generalize hAe : va_A (mb_w a k S th) s.heap.size = A at hD ⊢
  have hA : ∀ q : Nat, s.heap.size ≤ q → A q := fun q h => by rw [← hAe]; exact Or.inr h
  have hS : va_S A s.heap s.heap [] := va_S.rf
  obtain ⟨Q, hQ⟩ : ∃ Q, Q = MQ below (va_Qi (fun (r : Int32) (_ : Unit) => (k_need S x0 x1 x2 = 0 → r = r_need S x0 x1)) (fun _ t => cB dC dI A (mb_w a k (kS (k_need S x0 x1 x2) (S_need S x0 x1 x2) S) (k_need S x0 x1 x2)) (mb_ty k) t) A) ([.ref (a 0), .int x0, .int x1, .int x2] : List Value).toArray s 0 0 A := ⟨_, rfl⟩
  show W p l e rm_X6_need s m _ below meth c s.heap [] 0 0 (MQ below _ _ _ _ _ _) _
  rw [← hQ]
  have i_X6 : ∀ w ∈ wsX60, w ∈ wsX6_need := fun w h => List.mem_cons_of_mem _ (List.mem_append_right _ h)
  obtain ⟨⟨hday, hnp, hns, hnt, hnf, hnm, hnb, hme⟩, hpat, hage, hten, hcnt, hplc, heat, hned, hhld, hbad, hbad0, hbag⟩ := id hI
  have f_0 := hts (.fieldLink RX6 53 "CampBookModel" "thrown" "I") (by decide +kernel)
  have f_1 := hts (.fieldLink RX6 44 "CampBookModel" "units" "[I") (by decide +kernel)
  have hl := lv_entry ([.ref (a 0), .int x0, .int x1, .int x2]) (n := 5) (Nat.le_of_ble_eq_true rfl)
  rw [lg_entry_eq]
  generalize (lg_sl ([.ref (a 0), .int x0, .int x1, .int x2]) ++ List.replicate (5 - (lg_sl ([.ref (a 0), .int x0, .int x1, .int x2])).length) Slot.unset).toArray = ls at hl ⊢
  have hl : lv_has ls 5 [(0, .ref (a 0)), (1, .int x0), (2, .int x1), (3, .int x2)] := hl
  refine lv_aload_n hx hb dX6_need_0 rfl (lv_at hl 0 rfl) ?_
  refine lv_iconst (v := nI 0) hx hb dX6_need_1 (by decide) ?_
  refine va_put (D := (dC, dI)) (ci := 6) (v := .int (nI 0)) (ty := .int) (C := RX6) (T := TX6) (N := 23) hx hb hts i_X6 tyX6 tyX6_ok nmX6 hown hK hP hD hS 0 rfl rfl 0 (by decide) f_0 (fun _ h9 => h9) rfl (by decide +kernel) rfl rfl (Nat.le_of_ble_eq_true rfl) dX6_need_2 (fun H locs hP hD hS => ?_)
  rw [wsM_TH] at hP hD
  have hP : va_P (dC, dI) vwCl (mb_w a k S 0) H := hP
  have hD : va_D A (mb_w a k S 0) := hD
  refine lv_aload_n hx hb dX6_need_5 rfl (lv_at hl 0 rfl) ?_
  refine lv_iload_n hx hb dX6_need_6 rfl (lv_at hl 1 rfl) ?_
  refine vp_callSi (W.runV (As := [.int x0]) (rest := []) ⟨hx, hb, hml, hown, hts⟩ (c_X6_isMeal l dC dI a k S 0 x0 hI) (cwV 1 hts gX6_need_X6_isMeal rfl rfl rfl (by decide +kernel) ⟨(Nat.le_of_ble_eq_true rfl), (Nat.le_of_ble_eq_true rfl)⟩) ⟨cR_blind, va_recv hK hP (ci := 6) (q0 := 0) rfl rfl, fun U hU hW => ⟨rfl, cR_of hK hP hU hW⟩⟩ rfl rfl hl.1 rfl (lv_room (Nat.le_of_ble_eq_true rfl)) dX6_need_7 ⟨(by show 0 + 0 ≤ 0; omega), (by show 0 + 0 ≤ 0; omega)⟩) (fun r er => ?_)
  subst er
  refine lv_if_eq (tgt := 21) hx hb dX6_need_10 (by decide) (fun c_10 => ?_) (fun c_10 => ?_)
  · have c_10 : (ix x0 (c_nm S)) = false := bI_0 c_10
    refine lv_aload_n hx hb dX6_need_21 rfl (lv_at hl 0 rfl) ?_
    refine lv_iconst (v := nI 1) hx hb dX6_need_22 (by decide) ?_
    have hF_23 : ∀ q, va_A (mb_w a k S 0) H.size q → A q := va_free hD hS hA [0, 1, 2, 3, 4, 5, 6, 7, 8, 9, 10, 11, 12, 13, 14] rfl
    refine va_calli (va_runV (As := [.int (nI 1)]) (rest := []) ⟨hx, hb, hml, hown, hts⟩ (c_X6_no l dC dI a k S 0 H.size 1) (cwV 1 hts gX6_need_X6_no rfl rfl rfl (by decide +kernel) ⟨(Nat.le_of_ble_eq_true rfl), (Nat.le_of_ble_eq_true rfl)⟩) ⟨cT_blind, va_recv hK hP (ci := 6) (q0 := 0) rfl rfl, fun U hU hW => ⟨rfl, cT_of hK hP hD hU hW⟩⟩ rfl rfl hl.1 rfl (lv_room (Nat.le_of_ble_eq_true rfl)) dX6_need_23 ⟨(by show 0 + 0 ≤ 0; omega), (by show 0 + 0 ≤ 0; omega)⟩) hS (fun q _ h => hF_23 q h) hF_23 (fun r_23 u8 t8 H_23 L_23_ ht hvm hw hB hz1 hk1 hS => ?_)
    obtain ⟨hP, -, hD9⟩ := hB
    rw [ht] at hP
    have hD := hD9.weaken (B := A) (fun _ q _ h => hF_23 q.1 h)
    have hP : va_P (dC, dI) vwCl (mb_w a k S 1) H_23 := hP
    have hD : va_D A (mb_w a k S 1) := hD
    subst hw
    have hk9 : k_need S x0 x1 x2 = 1 := by simp only [k_need, c_10, if_true, if_false, Bool.false_eq_true, true_or, or_true, false_or, or_false, reduceCtorEq]
    have ew : (mb_w a k S 1) = (mb_w a k (kS (k_need S x0 x1 x2) (S_need S x0 x1 x2) S) (k_need S x0 x1 x2)) := (by rw [hk9]; first | done | rfl)
    have hP : va_P (dC, dI) vwCl (mb_w a k (kS (k_need S x0 x1 x2) (S_need S x0 x1 x2) S) (k_need S x0 x1 x2)) H_23 := by rw [← ew]; exact hP
    have hD : va_D A (mb_w a k (kS (k_need S x0 x1 x2) (S_need S x0 x1 x2) S) (k_need S x0 x1 x2)) := by rw [← ew]; exact hD
    rw [hQ]
    refine W.widen (k := 0) (n := 0) (by omega) (by omega) ?_
    exact W.iret (v := nI 0) hx hb hr (fun t9 ht9 hW9 => ⟨⟨nI 0, (), rfl, (fun h => absurd (hk9.symm.trans h) (by decide)), cB_of hP hK hD ht9 hW9⟩, hS.F ht9⟩) hS.2.2 dX6_need_26
  · have c_10 : (ix x0 (c_nm S)) = true := bI_n c_10
    obtain ⟨mm, hmm, emm⟩ := ix_t c_10 (by omega)
    rw [emm] at hl
    have tmm : toN x0 = mm := by rw [emm]; exact tn (by omega)
    refine lv_aload_n hx hb dX6_need_13 rfl (lv_at hl 0 rfl) ?_
    refine lv_iload_n hx hb dX6_need_14 rfl (lv_at hl 2 rfl) ?_
    refine vp_callSi (W.runV (As := [.int x1]) (rest := []) ⟨hx, hb, hml, hown, hts⟩ (c_X6_isFood l dC dI a k S 0 x1 hI) (cwV 1 hts gX6_need_X6_isFood rfl rfl rfl (by decide +kernel) ⟨(Nat.le_of_ble_eq_true rfl), (Nat.le_of_ble_eq_true rfl)⟩) ⟨cR_blind, va_recv hK hP (ci := 6) (q0 := 0) rfl rfl, fun U hU hW => ⟨rfl, cR_of hK hP hU hW⟩⟩ rfl rfl hl.1 rfl (lv_room (Nat.le_of_ble_eq_true rfl)) dX6_need_15 ⟨(by show 0 + 0 ≤ 0; omega), (by show 0 + 0 ≤ 0; omega)⟩) (fun r er => ?_)
    subst er
    refine lv_if_ne (tgt := 27) hx hb dX6_need_18 (by decide) (fun c_18 => ?_) (fun c_18 => ?_)
    · have c_18 : (ix x1 (c_nf S)) = true := bI_n c_18
      obtain ⟨f, hf, ef⟩ := ix_t c_18 (by omega)
      rw [ef] at hl
      have tf : toN x1 = f := by rw [ef]; exact tn (by omega)
      refine lv_iload_n hx hb dX6_need_27 rfl (lv_at hl 3 rfl) ?_
      refine lv_iconst (v := nI 0) hx hb dX6_need_28 (by decide) ?_
      refine lv_bipush (v := nI 50) hx hb dX6_need_29 (by decide) ?_
      refine vp_callSi (W.runS (As := [.int x2, .int (nI 0), .int (nI 50)]) (rest := []) ⟨hx, hb, hml, hown, hts⟩ (c_X6_isIn l x2 (nI 0) (nI 50)) (va_cwS 3 hts gX6_need_X6_isIn rfl rfl rfl (by decide +kernel) ⟨(Nat.le_of_ble_eq_true rfl), (Nat.le_of_ble_eq_true rfl)⟩) ⟨cN_blind, fun U hU hW => ⟨rfl, trivial⟩⟩ rfl rfl hl.1 rfl (lv_room (Nat.le_of_ble_eq_true rfl)) dX6_need_31 ⟨(by show 0 + 0 ≤ 0; omega), (by show 0 + 0 ≤ 0; omega)⟩) (fun r er => ?_)
      subst er
      refine lv_if_ne (tgt := 43) hx hb dX6_need_34 (by decide) (fun c_34 => ?_) (fun c_34 => ?_)
      · have c_34 : (inR x2 (nI 0) (nI 50)) = true := bI_n c_34
        refine lv_aload_n hx hb dX6_need_43 rfl (lv_at hl 0 rfl) ?_
        refine va_get (D := (dC, dI)) (ci := 6) (v := .ref (a 12)) (C := RX6) (T := TX6) (N := 23) hx hb hts i_X6 hown hK hP 0 rfl rfl 18 (by decide) f_1 (fun _ h9 => h9) rfl dX6_need_44 ?_
        refine lv_bipush (v := nI 12) hx hb dX6_need_47 (by decide) ?_
        refine lv_iload_n hx hb dX6_need_49 rfl (lv_at hl 1 rfl) ?_
        refine lv_imul hx hb dX6_need_50 ?_
        refine cb_topi (pk_mul _ _) ?_
        refine lv_iload_n hx hb dX6_need_51 rfl (lv_at hl 2 rfl) ?_
        refine lv_iadd hx hb dX6_need_52 ?_
        refine cb_topi (nI_add _ _) ?_
        refine cb_topi (z := nI (mm * 12 + f)) (congrArg nI (by omega)) ?_
        refine cb_iald hx hb hK hP 12 11 (f := c_ned S) rfl rfl (j := mm * 12 + f) (by omega) (Nat.le_of_ble_eq_true rfl) dX6_need_53 ?_
        refine lv_istore (lv' := [(4, .int (c_ned S (mm * 12 + f))), (0, .ref (a 0)), (1, .int (nI mm)), (2, .int (nI f)), (3, .int x2)]) hx hb dX6_need_54 hl (by decide) rfl (fun ls hl => ?_)
        refine lv_aload_n hx hb dX6_need_56 rfl (lv_at hl 1 rfl) ?_
        refine va_get (D := (dC, dI)) (ci := 6) (v := .ref (a 12)) (C := RX6) (T := TX6) (N := 23) hx hb hts i_X6 hown hK hP 0 rfl rfl 18 (by decide) f_1 (fun _ h9 => h9) rfl dX6_need_57 ?_
        refine lv_bipush (v := nI 12) hx hb dX6_need_60 (by decide) ?_
        refine lv_iload_n hx hb dX6_need_62 rfl (lv_at hl 2 rfl) ?_
        refine lv_imul hx hb dX6_need_63 ?_
        refine cb_topi (pk_mul _ _) ?_
        refine lv_iload_n hx hb dX6_need_64 rfl (lv_at hl 3 rfl) ?_
        refine lv_iadd hx hb dX6_need_65 ?_
        refine cb_topi (nI_add _ _) ?_
        refine cb_topi (z := nI (mm * 12 + f)) (congrArg nI (by omega)) ?_
        refine lv_iload_n hx hb dX6_need_66 rfl (lv_at hl 4 rfl) ?_
        refine cb_iast hx hb hK hP hD hS 12 11 (f := c_ned S) rfl rfl (j := mm * 12 + f) (by omega) (Nat.le_of_ble_eq_true rfl) dX6_need_67 (fun H locs hP hD hS => ?_)
        rw [wsM_ned] at hP hD
        have hP : va_P (dC, dI) vwCl (mb_w a k (s_ned S (upd (c_ned S) (mm * 12 + f) x2)) 0) H := hP
        have hD : va_D A (mb_w a k (s_ned S (upd (c_ned S) (mm * 12 + f) x2)) 0) := hD
        refine lv_iload hx hb dX6_need_68 (lv_at hl 0 rfl) ?_
        have hk9 : k_need S x0 x1 x2 = 0 := by simp only [k_need, c_10, c_18, c_34, tmm, tf, if_true, if_false, Bool.false_eq_true, true_or, or_true, false_or, or_false, reduceCtorEq]
        have ew : (mb_w a k (s_ned S (upd (c_ned S) (mm * 12 + f) x2)) 0) = (mb_w a k (kS (k_need S x0 x1 x2) (S_need S x0 x1 x2) S) (k_need S x0 x1 x2)) := (by rw [hk9, kS_0, S_need, tmm, tf]; first | done | rfl)
        have hP : va_P (dC, dI) vwCl (mb_w a k (kS (k_need S x0 x1 x2) (S_need S x0 x1 x2) S) (k_need S x0 x1 x2)) H := by rw [← ew]; exact hP
        have hD : va_D A (mb_w a k (kS (k_need S x0 x1 x2) (S_need S x0 x1 x2) S) (k_need S x0 x1 x2)) := by rw [← ew]; exact hD
        rw [hQ]
        refine W.widen (k := 0) (n := 0) (by omega) (by omega) ?_
        exact W.iret (v := c_ned S (mm * 12 + f)) hx hb hr (fun t9 ht9 hW9 => ⟨⟨c_ned S (mm * 12 + f), (), rfl, (fun _ => by rw [r_need, tmm, tf]), cB_of hP hK hD ht9 hW9⟩, hS.F ht9⟩) hS.2.2 dX6_need_70
      · have c_34 : (inR x2 (nI 0) (nI 50)) = false := bI_0 c_34
        refine lv_aload_n hx hb dX6_need_37 rfl (lv_at hl 0 rfl) ?_
        refine lv_iconst (v := nI 2) hx hb dX6_need_38 (by decide) ?_
        have hF_39 : ∀ q, va_A (mb_w a k S 0) H.size q → A q := va_free hD hS hA [0, 1, 2, 3, 4, 5, 6, 7, 8, 9, 10, 11, 12, 13, 14] rfl
        refine va_calli (va_runV (As := [.int (nI 2)]) (rest := []) ⟨hx, hb, hml, hown, hts⟩ (c_X6_no l dC dI a k S 0 H.size 2) (cwV 1 hts gX6_need_X6_no rfl rfl rfl (by decide +kernel) ⟨(Nat.le_of_ble_eq_true rfl), (Nat.le_of_ble_eq_true rfl)⟩) ⟨cT_blind, va_recv hK hP (ci := 6) (q0 := 0) rfl rfl, fun U hU hW => ⟨rfl, cT_of hK hP hD hU hW⟩⟩ rfl rfl hl.1 rfl (lv_room (Nat.le_of_ble_eq_true rfl)) dX6_need_39 ⟨(by show 0 + 0 ≤ 0; omega), (by show 0 + 0 ≤ 0; omega)⟩) hS (fun q _ h => hF_39 q h) hF_39 (fun r_39 u8 t8 H_39 L_39_ ht hvm hw hB hz1 hk1 hS => ?_)
        obtain ⟨hP, -, hD9⟩ := hB
        rw [ht] at hP
        have hD := hD9.weaken (B := A) (fun _ q _ h => hF_39 q.1 h)
        have hP : va_P (dC, dI) vwCl (mb_w a k S 2) H_39 := hP
        have hD : va_D A (mb_w a k S 2) := hD
        subst hw
        have hk9 : k_need S x0 x1 x2 = 2 := by simp only [k_need, c_10, c_18, c_34, tmm, tf, if_true, if_false, Bool.false_eq_true, true_or, or_true, false_or, or_false, reduceCtorEq]
        have ew : (mb_w a k S 2) = (mb_w a k (kS (k_need S x0 x1 x2) (S_need S x0 x1 x2) S) (k_need S x0 x1 x2)) := (by rw [hk9]; first | done | rfl)
        have hP : va_P (dC, dI) vwCl (mb_w a k (kS (k_need S x0 x1 x2) (S_need S x0 x1 x2) S) (k_need S x0 x1 x2)) H_39 := by rw [← ew]; exact hP
        have hD : va_D A (mb_w a k (kS (k_need S x0 x1 x2) (S_need S x0 x1 x2) S) (k_need S x0 x1 x2)) := by rw [← ew]; exact hD
        rw [hQ]
        refine W.widen (k := 0) (n := 0) (by omega) (by omega) ?_
        exact W.iret (v := nI 0) hx hb hr (fun t9 ht9 hW9 => ⟨⟨nI 0, (), rfl, (fun h => absurd (hk9.symm.trans h) (by decide)), cB_of hP hK hD ht9 hW9⟩, hS.F ht9⟩) hS.2.2 dX6_need_42
    · have c_18 : (ix x1 (c_nf S)) = false := bI_0 c_18
      refine lv_aload_n hx hb dX6_need_21 rfl (lv_at hl 0 rfl) ?_
      refine lv_iconst (v := nI 1) hx hb dX6_need_22 (by decide) ?_
      have hF_23 : ∀ q, va_A (mb_w a k S 0) H.size q → A q := va_free hD hS hA [0, 1, 2, 3, 4, 5, 6, 7, 8, 9, 10, 11, 12, 13, 14] rfl
      refine va_calli (va_runV (As := [.int (nI 1)]) (rest := []) ⟨hx, hb, hml, hown, hts⟩ (c_X6_no l dC dI a k S 0 H.size 1) (cwV 1 hts gX6_need_X6_no rfl rfl rfl (by decide +kernel) ⟨(Nat.le_of_ble_eq_true rfl), (Nat.le_of_ble_eq_true rfl)⟩) ⟨cT_blind, va_recv hK hP (ci := 6) (q0 := 0) rfl rfl, fun U hU hW => ⟨rfl, cT_of hK hP hD hU hW⟩⟩ rfl rfl hl.1 rfl (lv_room (Nat.le_of_ble_eq_true rfl)) dX6_need_23 ⟨(by show 0 + 0 ≤ 0; omega), (by show 0 + 0 ≤ 0; omega)⟩) hS (fun q _ h => hF_23 q h) hF_23 (fun r_23 u8 t8 H_23 L_23_ ht hvm hw hB hz1 hk1 hS => ?_)
      obtain ⟨hP, -, hD9⟩ := hB
      rw [ht] at hP
      have hD := hD9.weaken (B := A) (fun _ q _ h => hF_23 q.1 h)
      have hP : va_P (dC, dI) vwCl (mb_w a k S 1) H_23 := hP
      have hD : va_D A (mb_w a k S 1) := hD
      subst hw
      have hk9 : k_need S x0 x1 x2 = 1 := by simp only [k_need, c_10, c_18, tmm, if_true, if_false, Bool.false_eq_true, true_or, or_true, false_or, or_false, reduceCtorEq]
      have ew : (mb_w a k S 1) = (mb_w a k (kS (k_need S x0 x1 x2) (S_need S x0 x1 x2) S) (k_need S x0 x1 x2)) := (by rw [hk9]; first | done | rfl)
      have hP : va_P (dC, dI) vwCl (mb_w a k (kS (k_need S x0 x1 x2) (S_need S x0 x1 x2) S) (k_need S x0 x1 x2)) H_23 := by rw [← ew]; exact hP
      have hD : va_D A (mb_w a k (kS (k_need S x0 x1 x2) (S_need S x0 x1 x2) S) (k_need S x0 x1 x2)) := by rw [← ew]; exact hD
      rw [hQ]
      refine W.widen (k := 0) (n := 0) (by omega) (by omega) ?_
      exact W.iret (v := nI 0) hx hb hr (fun t9 ht9 hW9 => ⟨⟨nI 0, (), rfl, (fun h => absurd (hk9.symm.trans h) (by decide)), cB_of hP hK hD ht9 hW9⟩, hS.F ht9⟩) hS.2.2 dX6_need_26
abbrev rm_X6_eaters : Room := { frames := 2, cells := 0, slots := 0, locals := 48 }
set_option maxHeartbeats 4000000 in
set_option maxRecDepth 100000 in
theorem c_X6_eaters (l : Launch) (dC : Nat → ClassId) (dI : Nat → Nat → Nat) (a : Nat → Nat) (k : Nat → ClassId) (S : cs_S) (th : Nat) (sz : Nat) (x0 : Int32) (hI : Inv S) : Met l yX6_eaters wsX6_eaters rm_X6_eaters (va_Pc [.ref (a 0), .int x0] (cT dC dI sz (mb_w a k S th) (mb_ty k))) (va_Ql (fun (r : Int64) (_ : Unit) => (k_eaters S x0 = 0 → r = r_eaters S x0)) (fun _ t => cB dC dI (va_A (mb_w a k S th) sz) (mb_w a k S (k_eaters S x0)) (mb_ty k) t) (va_A (mb_w a k S th) sz)) 0 0 (va_A (mb_w a k S th) sz) := by
  refine Met.ofW (cc := cX6_eaters) (maxL := 2) (ret := (some .long)) (by decide) rfl ?_
  intro p e s m args below meth c s₁ B hml hv
  obtain ⟨rfl, hsz, hP, hK, hD0⟩ := hv
  have hx := B.exec
  have hb := B.bytes
  have hr := B.returns
  have hts := atoms_spec (ws := wsX6_eaters) B.pre
  have hown : s.vm.findClass RX6 = some m.cls := findClass_of_methodNamed B.named
  have hlocks := B.notSynchronized
  subst hsz
  have hD := hD0.self (sz := s.heap.size)
  generalize hAe : va_A (mb_w a k S th) s.heap.size = A at hD ⊢
  have hA : ∀ q : Nat, s.heap.size ≤ q → A q := fun q h => by rw [← hAe]; exact Or.inr h
  have hS : va_S A s.heap s.heap [] := va_S.rf
  obtain ⟨Q, hQ⟩ : ∃ Q, Q = MQ below (va_Ql (fun (r : Int64) (_ : Unit) => (k_eaters S x0 = 0 → r = r_eaters S x0)) (fun _ t => cB dC dI A (mb_w a k S (k_eaters S x0)) (mb_ty k) t) A) ([.ref (a 0), .int x0] : List Value).toArray s 0 0 A := ⟨_, rfl⟩
  show W p l e rm_X6_eaters s m _ below meth c s.heap [] 0 0 (MQ below _ _ _ _ _ _) _
  rw [← hQ]
  have i_X6 : ∀ w ∈ wsX60, w ∈ wsX6_eaters := fun w h => List.mem_cons_of_mem _ (List.mem_append_right _ h)
  obtain ⟨⟨hday, hnp, hns, hnt, hnf, hnm, hnb, hme⟩, hpat, hage, hten, hcnt, hplc, heat, hned, hhld, hbad, hbad0, hbag⟩ := id hI
  have f_0 := hts (.fieldLink RX6 53 "CampBookModel" "thrown" "I") (by decide +kernel)
  have hl := lv_entry ([.ref (a 0), .int x0]) (n := 2) (Nat.le_of_ble_eq_true rfl)
  rw [lg_entry_eq]
  generalize (lg_sl ([.ref (a 0), .int x0]) ++ List.replicate (2 - (lg_sl ([.ref (a 0), .int x0])).length) Slot.unset).toArray = ls at hl ⊢
  have hl : lv_has ls 2 [(0, .ref (a 0)), (1, .int x0)] := hl
  refine lv_aload_n hx hb dX6_eaters_0 rfl (lv_at hl 0 rfl) ?_
  refine lv_aload_n hx hb dX6_eaters_1 rfl (lv_at hl 0 rfl) ?_
  refine lv_iload_n hx hb dX6_eaters_2 rfl (lv_at hl 1 rfl) ?_
  refine vp_callSi (W.runV (As := [.int x0]) (rest := [.ref (a 0)]) ⟨hx, hb, hml, hown, hts⟩ (c_X6_isMeal l dC dI a k S th x0 hI) (cwV 1 hts gX6_eaters_X6_isMeal rfl rfl rfl (by decide +kernel) ⟨(Nat.le_of_ble_eq_true rfl), (Nat.le_of_ble_eq_true rfl)⟩) ⟨cR_blind, va_recv hK hP (ci := 6) (q0 := 0) rfl rfl, fun U hU hW => ⟨rfl, cR_of hK hP hU hW⟩⟩ rfl rfl hl.1 rfl (lv_room (Nat.le_of_ble_eq_true rfl)) dX6_eaters_3 ⟨(by show 0 + 0 ≤ 0; omega), (by show 0 + 0 ≤ 0; omega)⟩) (fun r er => ?_)
  subst er
  refine lv_if_eq (tgt := 13) hx hb dX6_eaters_6 (by decide) (fun c_6 => ?_) (fun c_6 => ?_)
  · have c_6 : (ix x0 (c_nm S)) = false := bI_0 c_6
    refine lv_iconst (v := nI 1) hx hb dX6_eaters_13 (by decide) ?_
    refine va_put (D := (dC, dI)) (ci := 6) (v := .int (nI 1)) (ty := .int) (C := RX6) (T := TX6) (N := 23) hx hb hts i_X6 tyX6 tyX6_ok nmX6 hown hK hP hD hS 0 rfl rfl 0 (by decide) f_0 (fun _ h9 => h9) rfl (by decide +kernel) rfl rfl (Nat.le_of_ble_eq_true rfl) dX6_eaters_14 (fun H locs hP hD hS => ?_)
    rw [wsM_TH] at hP hD
    have hP : va_P (dC, dI) vwCl (mb_w a k S 1) H := hP
    have hD : va_D A (mb_w a k S 1) := hD
    refine lv_aload_n hx hb dX6_eaters_17 rfl (lv_at hl 0 rfl) ?_
    refine va_get (D := (dC, dI)) (ci := 6) (v := .int (nI 1)) (C := RX6) (T := TX6) (N := 23) hx hb hts i_X6 hown hK hP 0 rfl rfl 0 (by decide) f_0 (fun _ h9 => h9) rfl dX6_eaters_18 ?_
    refine lv_if_ne (tgt := 32) hx hb dX6_eaters_21 (by decide) (fun c_21 => ?_) (fun c_21 => ?_)
    · skip
      refine lv_lconst (v := lN 0) hx hb dX6_eaters_32 rfl ?_
      have hk9 : k_eaters S x0 = 1 := by simp only [k_eaters, c_6, if_true, if_false, Bool.false_eq_true, true_or, or_true, false_or, or_false, reduceCtorEq]
      have ew : (mb_w a k S 1) = (mb_w a k S (k_eaters S x0)) := (by rw [hk9]; first | done | rfl)
      have hP : va_P (dC, dI) vwCl (mb_w a k S (k_eaters S x0)) H := by rw [← ew]; exact hP
      have hD : va_D A (mb_w a k S (k_eaters S x0)) := by rw [← ew]; exact hD
      rw [hQ]
      refine W.widen (k := 0) (n := 0) (by omega) (by omega) ?_
      exact W.lret (v := lN 0) hx hb hr (fun t9 ht9 hW9 => ⟨⟨lN 0, (), rfl, (fun h => absurd (hk9.symm.trans h) (by decide)), cB_of hP hK hD ht9 hW9⟩, hS.F ht9⟩) hS.2.2 dX6_eaters_33
    · exact absurd c_21 (by decide)
  · have c_6 : (ix x0 (c_nm S)) = true := bI_n c_6
    obtain ⟨mm, hmm, emm⟩ := ix_t c_6 (by omega)
    rw [emm] at hl
    have tmm : toN x0 = mm := by rw [emm]; exact tn (by omega)
    refine lv_iconst (v := nI 0) hx hb dX6_eaters_9 (by decide) ?_
    refine lv_goto (tgt := 14) hx hb dX6_eaters_10 (by decide) ?_
    refine va_put (D := (dC, dI)) (ci := 6) (v := .int (nI 0)) (ty := .int) (C := RX6) (T := TX6) (N := 23) hx hb hts i_X6 tyX6 tyX6_ok nmX6 hown hK hP hD hS 0 rfl rfl 0 (by decide) f_0 (fun _ h9 => h9) rfl (by decide +kernel) rfl rfl (Nat.le_of_ble_eq_true rfl) dX6_eaters_14 (fun H locs hP hD hS => ?_)
    rw [wsM_TH] at hP hD
    have hP : va_P (dC, dI) vwCl (mb_w a k S 0) H := hP
    have hD : va_D A (mb_w a k S 0) := hD
    refine lv_aload_n hx hb dX6_eaters_17 rfl (lv_at hl 0 rfl) ?_
    refine va_get (D := (dC, dI)) (ci := 6) (v := .int (nI 0)) (C := RX6) (T := TX6) (N := 23) hx hb hts i_X6 hown hK hP 0 rfl rfl 0 (by decide) f_0 (fun _ h9 => h9) rfl dX6_eaters_18 ?_
    refine lv_if_ne (tgt := 32) hx hb dX6_eaters_21 (by decide) (fun c_21 => ?_) (fun c_21 => ?_)
    · exact absurd c_21 (by decide)
    · skip
      refine lv_aload_n hx hb dX6_eaters_24 rfl (lv_at hl 0 rfl) ?_
      refine lv_iload_n hx hb dX6_eaters_25 rfl (lv_at hl 1 rfl) ?_
      refine vp_callSl (W.runV (As := [.int (nI mm)]) (rest := []) ⟨hx, hb, hml, hown, hts⟩ (c_X6_setOf l dC dI a k S 0 mm (by omega) hI) (cwV 1 hts gX6_eaters_X6_setOf rfl rfl rfl (by decide +kernel) ⟨(Nat.le_of_ble_eq_true rfl), (Nat.le_of_ble_eq_true rfl)⟩) ⟨cR_blind, va_recv hK hP (ci := 6) (q0 := 0) rfl rfl, fun U hU hW => ⟨rfl, cR_of hK hP hU hW⟩⟩ rfl rfl hl.1 rfl (lv_room (Nat.le_of_ble_eq_true rfl)) dX6_eaters_26 ⟨(by show 0 + 0 ≤ 0; omega), (by show 0 + 0 ≤ 0; omega)⟩) (fun r er => ?_)
      subst er
      refine lv_goto (tgt := 33) hx hb dX6_eaters_29 (by decide) ?_
      have hk9 : k_eaters S x0 = 0 := by simp only [k_eaters, c_6, tmm, if_true, if_false, Bool.false_eq_true, true_or, or_true, false_or, or_false, reduceCtorEq]
      have ew : (mb_w a k S 0) = (mb_w a k S (k_eaters S x0)) := (by rw [hk9]; first | done | rfl)
      have hP : va_P (dC, dI) vwCl (mb_w a k S (k_eaters S x0)) H := by rw [← ew]; exact hP
      have hD : va_D A (mb_w a k S (k_eaters S x0)) := by rw [← ew]; exact hD
      rw [hQ]
      refine W.widen (k := 0) (n := 0) (by omega) (by omega) ?_
      exact W.lret (v := lN (bs (canE S mm) (c_ns S))) hx hb hr (fun t9 ht9 hW9 => ⟨⟨lN (bs (canE S mm) (c_ns S)), (), rfl, (fun _ => by rw [r_eaters, tmm]; rfl), cB_of hP hK hD ht9 hW9⟩, hS.F ht9⟩) hS.2.2 dX6_eaters_33
abbrev rm_X6_lacks : Room := { frames := 2, cells := 0, slots := 0, locals := 48 }
set_option maxHeartbeats 4000000 in
set_option maxRecDepth 100000 in
theorem c_X6_lacks (l : Launch) (dC : Nat → ClassId) (dI : Nat → Nat → Nat) (a : Nat → Nat) (k : Nat → ClassId) (S : cs_S) (th : Nat) (sz : Nat) (x0 : Int32) (x1 : Int32) (x2 : Int32) (hI : Inv S) : Met l yX6_lacks wsX6_lacks rm_X6_lacks (va_Pc [.ref (a 0), .int x0, .int x1, .int x2] (cT dC dI sz (mb_w a k S th) (mb_ty k))) (va_Qi (fun (r : Int32) (_ : Unit) => (k_lacks S x0 x1 x2 = 0 → r = r_lacks S x0 x1 x2)) (fun _ t => cB dC dI (va_A (mb_w a k S th) sz) (mb_w a k S (k_lacks S x0 x1 x2)) (mb_ty k) t) (va_A (mb_w a k S th) sz)) 0 0 (va_A (mb_w a k S th) sz) := by
  refine Met.ofW (cc := cX6_lacks) (maxL := 4) (ret := (some .int)) (by decide) rfl ?_
  intro p e s m args below meth c s₁ B hml hv
  obtain ⟨rfl, hsz, hP, hK, hD0⟩ := hv
  have hx := B.exec
  have hb := B.bytes
  have hr := B.returns
  have hts := atoms_spec (ws := wsX6_lacks) B.pre
  have hown : s.vm.findClass RX6 = some m.cls := findClass_of_methodNamed B.named
  have hlocks := B.notSynchronized
  subst hsz
  have hD := hD0.self (sz := s.heap.size)
  generalize hAe : va_A (mb_w a k S th) s.heap.size = A at hD ⊢
  have hA : ∀ q : Nat, s.heap.size ≤ q → A q := fun q h => by rw [← hAe]; exact Or.inr h
  have hS : va_S A s.heap s.heap [] := va_S.rf
  obtain ⟨Q, hQ⟩ : ∃ Q, Q = MQ below (va_Qi (fun (r : Int32) (_ : Unit) => (k_lacks S x0 x1 x2 = 0 → r = r_lacks S x0 x1 x2)) (fun _ t => cB dC dI A (mb_w a k S (k_lacks S x0 x1 x2)) (mb_ty k) t) A) ([.ref (a 0), .int x0, .int x1, .int x2] : List Value).toArray s 0 0 A := ⟨_, rfl⟩
  show W p l e rm_X6_lacks s m _ below meth c s.heap [] 0 0 (MQ below _ _ _ _ _ _) _
  rw [← hQ]
  have i_X6 : ∀ w ∈ wsX60, w ∈ wsX6_lacks := fun w h => List.mem_cons_of_mem _ (List.mem_append_right _ h)
  obtain ⟨⟨hday, hnp, hns, hnt, hnf, hnm, hnb, hme⟩, hpat, hage, hten, hcnt, hplc, heat, hned, hhld, hbad, hbad0, hbag⟩ := id hI
  have f_0 := hts (.fieldLink RX6 53 "CampBookModel" "thrown" "I") (by decide +kernel)
  have f_1 := hts (.fieldLink RX6 44 "CampBookModel" "units" "[I") (by decide +kernel)
  have f_2 := hts (.fieldLink RX6 41 "CampBookModel" "stores" "[I") (by decide +kernel)
  have f_3 := hts (.methodLink RX6 153 Lib.Math.max.name) (by decide +kernel)
  have f_4 := hts (.static Lib.Math.max.name) (by decide +kernel)
  have f_5 := hts (.initialized "java/lang/Math") (by decide +kernel)
  have f_6 := hts (.code Lib.Math.max.name Lib.Math.max.code 2 (some .int)) (by decide +kernel)
  have hl := lv_entry ([.ref (a 0), .int x0, .int x1, .int x2]) (n := 4) (Nat.le_of_ble_eq_true rfl)
  rw [lg_entry_eq]
  generalize (lg_sl ([.ref (a 0), .int x0, .int x1, .int x2]) ++ List.replicate (4 - (lg_sl ([.ref (a 0), .int x0, .int x1, .int x2])).length) Slot.unset).toArray = ls at hl ⊢
  have hl : lv_has ls 4 [(0, .ref (a 0)), (1, .int x0), (2, .int x1), (3, .int x2)] := hl
  refine lv_aload_n hx hb dX6_lacks_0 rfl (lv_at hl 0 rfl) ?_
  refine lv_iconst (v := nI 0) hx hb dX6_lacks_1 (by decide) ?_
  refine va_put (D := (dC, dI)) (ci := 6) (v := .int (nI 0)) (ty := .int) (C := RX6) (T := TX6) (N := 23) hx hb hts i_X6 tyX6 tyX6_ok nmX6 hown hK hP hD hS 0 rfl rfl 0 (by decide) f_0 (fun _ h9 => h9) rfl (by decide +kernel) rfl rfl (Nat.le_of_ble_eq_true rfl) dX6_lacks_2 (fun H locs hP hD hS => ?_)
  rw [wsM_TH] at hP hD
  have hP : va_P (dC, dI) vwCl (mb_w a k S 0) H := hP
  have hD : va_D A (mb_w a k S 0) := hD
  refine lv_aload_n hx hb dX6_lacks_5 rfl (lv_at hl 0 rfl) ?_
  refine lv_iload_n hx hb dX6_lacks_6 rfl (lv_at hl 1 rfl) ?_
  refine vp_callSi (W.runV (As := [.int x0]) (rest := []) ⟨hx, hb, hml, hown, hts⟩ (c_X6_isMeal l dC dI a k S 0 x0 hI) (cwV 1 hts gX6_lacks_X6_isMeal rfl rfl rfl (by decide +kernel) ⟨(Nat.le_of_ble_eq_true rfl), (Nat.le_of_ble_eq_true rfl)⟩) ⟨cR_blind, va_recv hK hP (ci := 6) (q0 := 0) rfl rfl, fun U hU hW => ⟨rfl, cR_of hK hP hU hW⟩⟩ rfl rfl hl.1 rfl (lv_room (Nat.le_of_ble_eq_true rfl)) dX6_lacks_7 ⟨(by show 0 + 0 ≤ 0; omega), (by show 0 + 0 ≤ 0; omega)⟩) (fun r er => ?_)
  subst er
  refine lv_if_eq (tgt := 21) hx hb dX6_lacks_10 (by decide) (fun c_10 => ?_) (fun c_10 => ?_)
  · have c_10 : (ix x0 (c_nm S)) = false := bI_0 c_10
    refine lv_aload_n hx hb dX6_lacks_21 rfl (lv_at hl 0 rfl) ?_
    refine lv_iconst (v := nI 1) hx hb dX6_lacks_22 (by decide) ?_
    have hF_23 : ∀ q, va_A (mb_w a k S 0) H.size q → A q := va_free hD hS hA [0, 1, 2, 3, 4, 5, 6, 7, 8, 9, 10, 11, 12, 13, 14] rfl
    refine va_calli (va_runV (As := [.int (nI 1)]) (rest := []) ⟨hx, hb, hml, hown, hts⟩ (c_X6_no l dC dI a k S 0 H.size 1) (cwV 1 hts gX6_lacks_X6_no rfl rfl rfl (by decide +kernel) ⟨(Nat.le_of_ble_eq_true rfl), (Nat.le_of_ble_eq_true rfl)⟩) ⟨cT_blind, va_recv hK hP (ci := 6) (q0 := 0) rfl rfl, fun U hU hW => ⟨rfl, cT_of hK hP hD hU hW⟩⟩ rfl rfl hl.1 rfl (lv_room (Nat.le_of_ble_eq_true rfl)) dX6_lacks_23 ⟨(by show 0 + 0 ≤ 0; omega), (by show 0 + 0 ≤ 0; omega)⟩) hS (fun q _ h => hF_23 q h) hF_23 (fun r_23 u8 t8 H_23 L_23_ ht hvm hw hB hz1 hk1 hS => ?_)
    obtain ⟨hP, -, hD9⟩ := hB
    rw [ht] at hP
    have hD := hD9.weaken (B := A) (fun _ q _ h => hF_23 q.1 h)
    have hP : va_P (dC, dI) vwCl (mb_w a k S 1) H_23 := hP
    have hD : va_D A (mb_w a k S 1) := hD
    subst hw
    have hk9 : k_lacks S x0 x1 x2 = 1 := by simp only [k_lacks, c_10, if_true, if_false, Bool.false_eq_true, true_or, or_true, false_or, or_false, reduceCtorEq]
    have ew : (mb_w a k S 1) = (mb_w a k S (k_lacks S x0 x1 x2)) := (by rw [hk9]; first | done | rfl)
    have hP : va_P (dC, dI) vwCl (mb_w a k S (k_lacks S x0 x1 x2)) H_23 := by rw [← ew]; exact hP
    have hD : va_D A (mb_w a k S (k_lacks S x0 x1 x2)) := by rw [← ew]; exact hD
    rw [hQ]
    refine W.widen (k := 0) (n := 0) (by omega) (by omega) ?_
    exact W.iret (v := nI 0) hx hb hr (fun t9 ht9 hW9 => ⟨⟨nI 0, (), rfl, (fun h => absurd (hk9.symm.trans h) (by decide)), cB_of hP hK hD ht9 hW9⟩, hS.F ht9⟩) hS.2.2 dX6_lacks_26
  · have c_10 : (ix x0 (c_nm S)) = true := bI_n c_10
    obtain ⟨mm, hmm, emm⟩ := ix_t c_10 (by omega)
    rw [emm] at hl
    have tmm : toN x0 = mm := by rw [emm]; exact tn (by omega)
    refine lv_aload_n hx hb dX6_lacks_13 rfl (lv_at hl 0 rfl) ?_
    refine lv_iload_n hx hb dX6_lacks_14 rfl (lv_at hl 2 rfl) ?_
    refine vp_callSi (W.runV (As := [.int x1]) (rest := []) ⟨hx, hb, hml, hown, hts⟩ (c_X6_isFood l dC dI a k S 0 x1 hI) (cwV 1 hts gX6_lacks_X6_isFood rfl rfl rfl (by decide +kernel) ⟨(Nat.le_of_ble_eq_true rfl), (Nat.le_of_ble_eq_true rfl)⟩) ⟨cR_blind, va_recv hK hP (ci := 6) (q0 := 0) rfl rfl, fun U hU hW => ⟨rfl, cR_of hK hP hU hW⟩⟩ rfl rfl hl.1 rfl (lv_room (Nat.le_of_ble_eq_true rfl)) dX6_lacks_15 ⟨(by show 0 + 0 ≤ 0; omega), (by show 0 + 0 ≤ 0; omega)⟩) (fun r er => ?_)
    subst er
    refine lv_if_ne (tgt := 27) hx hb dX6_lacks_18 (by decide) (fun c_18 => ?_) (fun c_18 => ?_)
    · have c_18 : (ix x1 (c_nf S)) = true := bI_n c_18
      obtain ⟨f, hf, ef⟩ := ix_t c_18 (by omega)
      rw [ef] at hl
      have tf : toN x1 = f := by rw [ef]; exact tn (by omega)
      refine lv_iload_n hx hb dX6_lacks_27 rfl (lv_at hl 3 rfl) ?_
      refine lv_iconst (v := nI 1) hx hb dX6_lacks_28 (by decide) ?_
      refine lv_bipush (v := nI 100) hx hb dX6_lacks_29 (by decide) ?_
      refine vp_callSi (W.runS (As := [.int x2, .int (nI 1), .int (nI 100)]) (rest := []) ⟨hx, hb, hml, hown, hts⟩ (c_X6_isIn l x2 (nI 1) (nI 100)) (va_cwS 3 hts gX6_lacks_X6_isIn rfl rfl rfl (by decide +kernel) ⟨(Nat.le_of_ble_eq_true rfl), (Nat.le_of_ble_eq_true rfl)⟩) ⟨cN_blind, fun U hU hW => ⟨rfl, trivial⟩⟩ rfl rfl hl.1 rfl (lv_room (Nat.le_of_ble_eq_true rfl)) dX6_lacks_31 ⟨(by show 0 + 0 ≤ 0; omega), (by show 0 + 0 ≤ 0; omega)⟩) (fun r er => ?_)
      subst er
      refine lv_if_ne (tgt := 43) hx hb dX6_lacks_34 (by decide) (fun c_34 => ?_) (fun c_34 => ?_)
      · have c_34 : (inR x2 (nI 1) (nI 100)) = true := bI_n c_34
        refine lv_iconst (v := nI 0) hx hb dX6_lacks_43 (by decide) ?_
        refine lv_aload_n hx hb dX6_lacks_44 rfl (lv_at hl 0 rfl) ?_
        refine va_get (D := (dC, dI)) (ci := 6) (v := .ref (a 12)) (C := RX6) (T := TX6) (N := 23) hx hb hts i_X6 hown hK hP 0 rfl rfl 18 (by decide) f_1 (fun _ h9 => h9) rfl dX6_lacks_45 ?_
        refine lv_bipush (v := nI 12) hx hb dX6_lacks_48 (by decide) ?_
        refine lv_iload_n hx hb dX6_lacks_50 rfl (lv_at hl 1 rfl) ?_
        refine lv_imul hx hb dX6_lacks_51 ?_
        refine cb_topi (pk_mul _ _) ?_
        refine lv_iload_n hx hb dX6_lacks_52 rfl (lv_at hl 2 rfl) ?_
        refine lv_iadd hx hb dX6_lacks_53 ?_
        refine cb_topi (nI_add _ _) ?_
        refine cb_topi (z := nI (mm * 12 + f)) (congrArg nI (by omega)) ?_
        refine cb_iald hx hb hK hP 12 11 (f := c_ned S) rfl rfl (j := mm * 12 + f) (by omega) (Nat.le_of_ble_eq_true rfl) dX6_lacks_54 ?_
        refine lv_aload_n hx hb dX6_lacks_55 rfl (lv_at hl 0 rfl) ?_
        refine lv_iload_n hx hb dX6_lacks_56 rfl (lv_at hl 1 rfl) ?_
        refine lv_iconst (v := nI 0) hx hb dX6_lacks_57 (by decide) ?_
        refine cb_topi (z := bI false) rfl ?_
        refine vp_callSi (W.runV (As := [.int (nI mm), .int (bI false)]) (rest := [.int (c_ned S (mm * 12 + f)), .int (nI 0)]) ⟨hx, hb, hml, hown, hts⟩ (c_X6_eatersOf l dC dI a k S 0 mm false (by omega) hI) (cwV 2 hts gX6_lacks_X6_eatersOf rfl rfl rfl (by decide +kernel) ⟨(Nat.le_of_ble_eq_true rfl), (Nat.le_of_ble_eq_true rfl)⟩) ⟨cR_blind, va_recv hK hP (ci := 6) (q0 := 0) rfl rfl, fun U hU hW => ⟨rfl, cR_of hK hP hU hW⟩⟩ rfl rfl hl.1 rfl (lv_room (Nat.le_of_ble_eq_true rfl)) dX6_lacks_58 ⟨(by show 0 + 0 ≤ 0; omega), (by show 0 + 0 ≤ 0; omega)⟩) (fun r er => ?_)
        subst er
        refine cb_topi (z := nI (cntE S mm)) (congrArg nI eaF_f) ?_
        refine lv_imul hx hb dX6_lacks_61 ?_
        refine lv_iload_n hx hb dX6_lacks_62 rfl (lv_at hl 3 rfl) ?_
        refine lv_imul hx hb dX6_lacks_63 ?_
        refine lv_aload_n hx hb dX6_lacks_64 rfl (lv_at hl 0 rfl) ?_
        refine va_get (D := (dC, dI)) (ci := 6) (v := .ref (a 11)) (C := RX6) (T := TX6) (N := 23) hx hb hts i_X6 hown hK hP 0 rfl rfl 16 (by decide) f_2 (fun _ h9 => h9) rfl dX6_lacks_65 ?_
        refine lv_iload_n hx hb dX6_lacks_68 rfl (lv_at hl 2 rfl) ?_
        refine cb_iald hx hb hK hP 11 10 (f := c_sto S) rfl rfl (j := f) (by omega) (Nat.le_of_ble_eq_true rfl) dX6_lacks_69 ?_
        refine lv_isub hx hb dX6_lacks_70 ?_
        refine va_mmax hx hb (hml.trans hl.1.symm) hown f_3 f_4 f_5 f_6 (Nat.le_of_ble_eq_true rfl) (Nat.le_of_ble_eq_true rfl) (by show _ ≤ 0; omega) (by show _ ≤ 0; omega) dX6_lacks_71 ?_
        refine cb_topi (z := cMax (nI 0) ((((c_ned S (mm * 12 + f)) * (nI (cntE S mm))) * x2) - (c_sto S f))) rfl ?_
        have hk9 : k_lacks S x0 x1 x2 = 0 := by simp only [k_lacks, c_10, c_18, c_34, tmm, tf, if_true, if_false, Bool.false_eq_true, true_or, or_true, false_or, or_false, reduceCtorEq]
        have ew : (mb_w a k S 0) = (mb_w a k S (k_lacks S x0 x1 x2)) := (by rw [hk9]; first | done | rfl)
        have hP : va_P (dC, dI) vwCl (mb_w a k S (k_lacks S x0 x1 x2)) H := by rw [← ew]; exact hP
        have hD : va_D A (mb_w a k S (k_lacks S x0 x1 x2)) := by rw [← ew]; exact hD
        rw [hQ]
        refine W.widen (k := 0) (n := 0) (by omega) (by omega) ?_
        exact W.iret (v := cMax (nI 0) ((((c_ned S (mm * 12 + f)) * (nI (cntE S mm))) * x2) - (c_sto S f))) hx hb hr (fun t9 ht9 hW9 => ⟨⟨cMax (nI 0) ((((c_ned S (mm * 12 + f)) * (nI (cntE S mm))) * x2) - (c_sto S f)), (), rfl, (fun _ => by rw [r_lacks, tmm, tf, Int32.mul_assoc]), cB_of hP hK hD ht9 hW9⟩, hS.F ht9⟩) hS.2.2 dX6_lacks_74
      · have c_34 : (inR x2 (nI 1) (nI 100)) = false := bI_0 c_34
        refine lv_aload_n hx hb dX6_lacks_37 rfl (lv_at hl 0 rfl) ?_
        refine lv_iconst (v := nI 2) hx hb dX6_lacks_38 (by decide) ?_
        have hF_39 : ∀ q, va_A (mb_w a k S 0) H.size q → A q := va_free hD hS hA [0, 1, 2, 3, 4, 5, 6, 7, 8, 9, 10, 11, 12, 13, 14] rfl
        refine va_calli (va_runV (As := [.int (nI 2)]) (rest := []) ⟨hx, hb, hml, hown, hts⟩ (c_X6_no l dC dI a k S 0 H.size 2) (cwV 1 hts gX6_lacks_X6_no rfl rfl rfl (by decide +kernel) ⟨(Nat.le_of_ble_eq_true rfl), (Nat.le_of_ble_eq_true rfl)⟩) ⟨cT_blind, va_recv hK hP (ci := 6) (q0 := 0) rfl rfl, fun U hU hW => ⟨rfl, cT_of hK hP hD hU hW⟩⟩ rfl rfl hl.1 rfl (lv_room (Nat.le_of_ble_eq_true rfl)) dX6_lacks_39 ⟨(by show 0 + 0 ≤ 0; omega), (by show 0 + 0 ≤ 0; omega)⟩) hS (fun q _ h => hF_39 q h) hF_39 (fun r_39 u8 t8 H_39 L_39_ ht hvm hw hB hz1 hk1 hS => ?_)
        obtain ⟨hP, -, hD9⟩ := hB
        rw [ht] at hP
        have hD := hD9.weaken (B := A) (fun _ q _ h => hF_39 q.1 h)
        have hP : va_P (dC, dI) vwCl (mb_w a k S 2) H_39 := hP
        have hD : va_D A (mb_w a k S 2) := hD
        subst hw
        have hk9 : k_lacks S x0 x1 x2 = 2 := by simp only [k_lacks, c_10, c_18, c_34, tmm, tf, if_true, if_false, Bool.false_eq_true, true_or, or_true, false_or, or_false, reduceCtorEq]
        have ew : (mb_w a k S 2) = (mb_w a k S (k_lacks S x0 x1 x2)) := (by rw [hk9]; first | done | rfl)
        have hP : va_P (dC, dI) vwCl (mb_w a k S (k_lacks S x0 x1 x2)) H_39 := by rw [← ew]; exact hP
        have hD : va_D A (mb_w a k S (k_lacks S x0 x1 x2)) := by rw [← ew]; exact hD
        rw [hQ]
        refine W.widen (k := 0) (n := 0) (by omega) (by omega) ?_
        exact W.iret (v := nI 0) hx hb hr (fun t9 ht9 hW9 => ⟨⟨nI 0, (), rfl, (fun h => absurd (hk9.symm.trans h) (by decide)), cB_of hP hK hD ht9 hW9⟩, hS.F ht9⟩) hS.2.2 dX6_lacks_42
    · have c_18 : (ix x1 (c_nf S)) = false := bI_0 c_18
      refine lv_aload_n hx hb dX6_lacks_21 rfl (lv_at hl 0 rfl) ?_
      refine lv_iconst (v := nI 1) hx hb dX6_lacks_22 (by decide) ?_
      have hF_23 : ∀ q, va_A (mb_w a k S 0) H.size q → A q := va_free hD hS hA [0, 1, 2, 3, 4, 5, 6, 7, 8, 9, 10, 11, 12, 13, 14] rfl
      refine va_calli (va_runV (As := [.int (nI 1)]) (rest := []) ⟨hx, hb, hml, hown, hts⟩ (c_X6_no l dC dI a k S 0 H.size 1) (cwV 1 hts gX6_lacks_X6_no rfl rfl rfl (by decide +kernel) ⟨(Nat.le_of_ble_eq_true rfl), (Nat.le_of_ble_eq_true rfl)⟩) ⟨cT_blind, va_recv hK hP (ci := 6) (q0 := 0) rfl rfl, fun U hU hW => ⟨rfl, cT_of hK hP hD hU hW⟩⟩ rfl rfl hl.1 rfl (lv_room (Nat.le_of_ble_eq_true rfl)) dX6_lacks_23 ⟨(by show 0 + 0 ≤ 0; omega), (by show 0 + 0 ≤ 0; omega)⟩) hS (fun q _ h => hF_23 q h) hF_23 (fun r_23 u8 t8 H_23 L_23_ ht hvm hw hB hz1 hk1 hS => ?_)
      obtain ⟨hP, -, hD9⟩ := hB
      rw [ht] at hP
      have hD := hD9.weaken (B := A) (fun _ q _ h => hF_23 q.1 h)
      have hP : va_P (dC, dI) vwCl (mb_w a k S 1) H_23 := hP
      have hD : va_D A (mb_w a k S 1) := hD
      subst hw
      have hk9 : k_lacks S x0 x1 x2 = 1 := by simp only [k_lacks, c_10, c_18, tmm, if_true, if_false, Bool.false_eq_true, true_or, or_true, false_or, or_false, reduceCtorEq]
      have ew : (mb_w a k S 1) = (mb_w a k S (k_lacks S x0 x1 x2)) := (by rw [hk9]; first | done | rfl)
      have hP : va_P (dC, dI) vwCl (mb_w a k S (k_lacks S x0 x1 x2)) H_23 := by rw [← ew]; exact hP
      have hD : va_D A (mb_w a k S (k_lacks S x0 x1 x2)) := by rw [← ew]; exact hD
      rw [hQ]
      refine W.widen (k := 0) (n := 0) (by omega) (by omega) ?_
      exact W.iret (v := nI 0) hx hb hr (fun t9 ht9 hW9 => ⟨⟨nI 0, (), rfl, (fun h => absurd (hk9.symm.trans h) (by decide)), cB_of hP hK hD ht9 hW9⟩, hS.F ht9⟩) hS.2.2 dX6_lacks_26
abbrev rm_X6_eat : Room := { frames := 3, cells := 0, slots := 0, locals := 73 }
set_option maxHeartbeats 4000000 in
set_option maxRecDepth 100000 in
theorem c_X6_eat (l : Launch) (dC : Nat → ClassId) (dI : Nat → Nat → Nat) (a : Nat → Nat) (k : Nat → ClassId) (S : cs_S) (th : Nat) (sz : Nat) (x0 : Int32) (hI : Inv S) : Met l yX6_eat wsX6_eat rm_X6_eat (va_Pc [.ref (a 0), .int x0] (cT dC dI sz (mb_w a k S th) (mb_ty k))) (va_Qi (fun (r : Int32) (_ : Unit) => (k_eat S x0 = 0 → r = r_eat S x0)) (fun _ t => cB dC dI (va_A (mb_w a k S th) sz) (mb_w a k (kS (k_eat S x0) (S_eat S x0) S) (k_eat S x0)) (mb_ty k) t) (va_A (mb_w a k S th) sz)) 0 0 (va_A (mb_w a k S th) sz) := by
  refine Met.ofW (cc := cX6_eat) (maxL := 4) (ret := (some .int)) (by decide) rfl ?_
  intro p e s m args below meth c s₁ B hml hv
  obtain ⟨rfl, hsz, hP, hK, hD0⟩ := hv
  have hx := B.exec
  have hb := B.bytes
  have hr := B.returns
  have hts := atoms_spec (ws := wsX6_eat) B.pre
  have hown : s.vm.findClass RX6 = some m.cls := findClass_of_methodNamed B.named
  have hlocks := B.notSynchronized
  subst hsz
  have hD := hD0.self (sz := s.heap.size)
  generalize hAe : va_A (mb_w a k S th) s.heap.size = A at hD ⊢
  have hA : ∀ q : Nat, s.heap.size ≤ q → A q := fun q h => by rw [← hAe]; exact Or.inr h
  have hS : va_S A s.heap s.heap [] := va_S.rf
  obtain ⟨Q, hQ⟩ : ∃ Q, Q = MQ below (va_Qi (fun (r : Int32) (_ : Unit) => (k_eat S x0 = 0 → r = r_eat S x0)) (fun _ t => cB dC dI A (mb_w a k (kS (k_eat S x0) (S_eat S x0) S) (k_eat S x0)) (mb_ty k) t) A) ([.ref (a 0), .int x0] : List Value).toArray s 0 0 A := ⟨_, rfl⟩
  show W p l e rm_X6_eat s m _ below meth c s.heap [] 0 0 (MQ below _ _ _ _ _ _) _
  rw [← hQ]
  have i_X6 : ∀ w ∈ wsX60, w ∈ wsX6_eat := fun w h => List.mem_cons_of_mem _ (List.mem_append_right _ h)
  obtain ⟨⟨hday, hnp, hns, hnt, hnf, hnm, hnb, hme⟩, hpat, hage, hten, hcnt, hplc, heat, hned, hhld, hbad, hbad0, hbag⟩ := id hI
  have f_0 := hts (.fieldLink RX6 53 "CampBookModel" "thrown" "I") (by decide +kernel)
  have f_1 := hts (.fieldLink RX6 70 "CampBookModel" "foods" "I") (by decide +kernel)
  have f_2 := hts (.fieldLink RX6 64 "CampBookModel" "scouts" "I") (by decide +kernel)
  have f_3 := hts (.fieldLink RX6 156 "CampBookModel" "eaten" "I") (by decide +kernel)
  have f_4 := hts (.fieldLink RX6 31 "CampBookModel" "hasEaten" "[Z") (by decide +kernel)
  have f_5 := hts (.fieldLink RX6 41 "CampBookModel" "stores" "[I") (by decide +kernel)
  have f_6 := hts (.fieldLink RX6 44 "CampBookModel" "units" "[I") (by decide +kernel)
  have hl := lv_entry ([.ref (a 0), .int x0]) (n := 4) (Nat.le_of_ble_eq_true rfl)
  rw [lg_entry_eq]
  generalize (lg_sl ([.ref (a 0), .int x0]) ++ List.replicate (4 - (lg_sl ([.ref (a 0), .int x0])).length) Slot.unset).toArray = ls at hl ⊢
  have hl : lv_has ls 4 [(0, .ref (a 0)), (1, .int x0)] := hl
  refine lv_aload_n hx hb dX6_eat_0 rfl (lv_at hl 0 rfl) ?_
  refine lv_iconst (v := nI 0) hx hb dX6_eat_1 (by decide) ?_
  refine va_put (D := (dC, dI)) (ci := 6) (v := .int (nI 0)) (ty := .int) (C := RX6) (T := TX6) (N := 23) hx hb hts i_X6 tyX6 tyX6_ok nmX6 hown hK hP hD hS 0 rfl rfl 0 (by decide) f_0 (fun _ h9 => h9) rfl (by decide +kernel) rfl rfl (Nat.le_of_ble_eq_true rfl) dX6_eat_2 (fun H locs hP hD hS => ?_)
  rw [wsM_TH] at hP hD
  have hP : va_P (dC, dI) vwCl (mb_w a k S 0) H := hP
  have hD : va_D A (mb_w a k S 0) := hD
  refine lv_aload_n hx hb dX6_eat_5 rfl (lv_at hl 0 rfl) ?_
  refine lv_iload_n hx hb dX6_eat_6 rfl (lv_at hl 1 rfl) ?_
  refine vp_callSi (W.runV (As := [.int x0]) (rest := []) ⟨hx, hb, hml, hown, hts⟩ (c_X6_isMeal l dC dI a k S 0 x0 hI) (cwV 1 hts gX6_eat_X6_isMeal rfl rfl rfl (by decide +kernel) ⟨(Nat.le_of_ble_eq_true rfl), (Nat.le_of_ble_eq_true rfl)⟩) ⟨cR_blind, va_recv hK hP (ci := 6) (q0 := 0) rfl rfl, fun U hU hW => ⟨rfl, cR_of hK hP hU hW⟩⟩ rfl rfl hl.1 rfl (lv_room (Nat.le_of_ble_eq_true rfl)) dX6_eat_7 ⟨(by show 0 + 0 ≤ 0; omega), (by show 0 + 0 ≤ 0; omega)⟩) (fun r er => ?_)
  subst er
  refine lv_if_ne (tgt := 19) hx hb dX6_eat_10 (by decide) (fun c_10 => ?_) (fun c_10 => ?_)
  · have c_10 : (ix x0 (c_nm S)) = true := bI_n c_10
    obtain ⟨mm, hmm, emm⟩ := ix_t c_10 (by omega)
    rw [emm] at hl
    have tmm : toN x0 = mm := by rw [emm]; exact tn (by omega)
    refine lv_aload_n hx hb dX6_eat_19 rfl (lv_at hl 0 rfl) ?_
    refine lv_iload_n hx hb dX6_eat_20 rfl (lv_at hl 1 rfl) ?_
    refine vp_callSi (W.runV (As := [.int (nI mm)]) (rest := []) ⟨hx, hb, hml, hown, hts⟩ (c_X6_canBeEaten l dC dI a k S 0 mm (by omega) hI) (cwV 1 hts gX6_eat_X6_canBeEaten rfl rfl rfl (by decide +kernel) ⟨(Nat.le_of_ble_eq_true rfl), (Nat.le_of_ble_eq_true rfl)⟩) ⟨cR_blind, va_recv hK hP (ci := 6) (q0 := 0) rfl rfl, fun U hU hW => ⟨rfl, cR_of hK hP hU hW⟩⟩ rfl rfl hl.1 rfl (lv_room (Nat.le_of_ble_eq_true rfl)) dX6_eat_21 ⟨(by show 0 + 0 ≤ 0; omega), (by show 0 + 0 ≤ 0; omega)⟩) (fun r er => ?_)
    subst er
    refine lv_if_ne (tgt := 33) hx hb dX6_eat_24 (by decide) (fun c_24 => ?_) (fun c_24 => ?_)
    · have c_24 : (canBE S mm) = true := bI_n c_24
      refine lv_aload_n hx hb dX6_eat_33 rfl (lv_at hl 0 rfl) ?_
      refine lv_iload_n hx hb dX6_eat_34 rfl (lv_at hl 1 rfl) ?_
      refine lv_iconst (v := nI 0) hx hb dX6_eat_35 (by decide) ?_
      refine cb_topi (z := bI false) rfl ?_
      refine vp_callSi (W.runV (As := [.int (nI mm), .int (bI false)]) (rest := []) ⟨hx, hb, hml, hown, hts⟩ (c_X6_eatersOf l dC dI a k S 0 mm false (by omega) hI) (cwV 2 hts gX6_eat_X6_eatersOf rfl rfl rfl (by decide +kernel) ⟨(Nat.le_of_ble_eq_true rfl), (Nat.le_of_ble_eq_true rfl)⟩) ⟨cR_blind, va_recv hK hP (ci := 6) (q0 := 0) rfl rfl, fun U hU hW => ⟨rfl, cR_of hK hP hU hW⟩⟩ rfl rfl hl.1 rfl (lv_room (Nat.le_of_ble_eq_true rfl)) dX6_eat_36 ⟨(by show 0 + 0 ≤ 0; omega), (by show 0 + 0 ≤ 0; omega)⟩) (fun r er => ?_)
      subst er
      refine cb_topi (z := nI (cntE S mm)) (congrArg nI eaF_f) ?_
      refine lv_istore_n (lv' := [(2, .int (nI (cntE S mm))), (0, .ref (a 0)), (1, .int (nI mm))]) hx hb dX6_eat_39 rfl hl (by decide) rfl (fun ls hl => ?_)
      refine lv_iconst (v := nI 0) hx hb dX6_eat_40 (by decide) ?_
      refine lv_istore_n (lv' := [(3, .int (nI 0)), (2, .int (nI (cntE S mm))), (0, .ref (a 0)), (1, .int (nI mm))]) hx hb dX6_eat_41 rfl hl (by decide) rfl (fun ls hl => ?_)
      have L_42 : ∀ (n i : Nat), i ≤ c_nf S → c_nf S + 1 ≤ i + n → ∀ (H : Heap) (locs : List Loc), va_P (dC, dI) vwCl (mb_w a k (s_sto S (sv S mm i)) 0) H → va_D A (mb_w a k (s_sto S (sv S mm i)) 0) → va_S A s.heap H locs → ∀ (ls : Array Slot), lv_has ls 4 [(0, .ref (a 0)), (1, .int (nI mm)), (2, .int (nI (cntE S mm))), (3, .int (nI i))] → W p l e rm_X6_eat s m ([.ref (a 0), .int x0] : List Value).toArray below meth c H locs 0 0 Q (F0 m 42 ls []) := by
        intro n
        induction n with
        | zero => intro i h1 h2; exact absurd h2 (by omega)
        | succ n ih_42 =>
          intro i hle_42 hfu_42 H locs hP hD hS ls hl
          refine lv_iload_n hx hb dX6_eat_42 rfl (lv_at hl 3 rfl) ?_
          refine lv_aload_n hx hb dX6_eat_43 rfl (lv_at hl 0 rfl) ?_
          refine va_get (D := (dC, dI)) (ci := 6) (v := .int (nI (c_nf S))) (C := RX6) (T := TX6) (N := 23) hx hb hts i_X6 hown hK hP 0 rfl rfl 15 (by decide) f_1 (fun _ h9 => h9) rfl dX6_eat_44 ?_
          refine lv_icmp_ge (tgt := 78) hx hb dX6_eat_47 (by decide) (fun c_47 => ?_) (fun c_47 => ?_)
          · have c_47 : (c_nf S) ≤ i := cb_ge (by omega) (by omega) c_47
            have e9 : i = c_nf S := by omega
            subst e9
            refine lv_iconst (v := nI 0) hx hb dX6_eat_78 (by decide) ?_
            refine lv_istore_n (lv' := [(3, .int (nI 0)), (0, .ref (a 0)), (1, .int (nI mm)), (2, .int (nI (cntE S mm)))]) hx hb dX6_eat_79 rfl hl (by decide) rfl (fun ls hl => ?_)
            have L_80 : ∀ (n i : Nat), i ≤ c_ns S → c_ns S + 1 ≤ i + n → ∀ (H : Heap) (locs : List Loc), va_P (dC, dI) vwCl (mb_w a k (s_eat (s_sto S (sv S mm (c_nf S))) (eatK S mm i)) 0) H → va_D A (mb_w a k (s_eat (s_sto S (sv S mm (c_nf S))) (eatK S mm i)) 0) → va_S A s.heap H locs → ∀ (ls : Array Slot), lv_has ls 4 [(0, .ref (a 0)), (1, .int (nI mm)), (2, .int (nI (cntE S mm))), (3, .int (nI i))] → W p l e rm_X6_eat s m ([.ref (a 0), .int x0] : List Value).toArray below meth c H locs 0 0 Q (F0 m 80 ls []) := by
              intro n
              induction n with
              | zero => intro i h1 h2; exact absurd h2 (by omega)
              | succ n ih_80 =>
                intro i hle_80 hfu_80 H locs hP hD hS ls hl
                refine lv_iload_n hx hb dX6_eat_80 rfl (lv_at hl 3 rfl) ?_
                refine lv_aload_n hx hb dX6_eat_81 rfl (lv_at hl 0 rfl) ?_
                refine va_get (D := (dC, dI)) (ci := 6) (v := .int (nI (c_ns S))) (C := RX6) (T := TX6) (N := 23) hx hb hts i_X6 hown hK hP 0 rfl rfl 3 (by decide) f_2 (fun _ h9 => h9) rfl dX6_eat_82 ?_
                refine lv_icmp_ge (tgt := 123) hx hb dX6_eat_85 (by decide) (fun c_85 => ?_) (fun c_85 => ?_)
                · have c_85 : (c_ns S) ≤ i := cb_ge (by omega) (by omega) c_85
                  have e9 : i = c_ns S := by omega
                  subst e9
                  refine lv_aload_n hx hb dX6_eat_123 rfl (lv_at hl 0 rfl) ?_
                  refine lv_dup hx hb dX6_eat_124 rfl ?_
                  refine va_get (D := (dC, dI)) (ci := 6) (v := .int (nI (c_me S))) (C := RX6) (T := TX6) (N := 23) hx hb hts i_X6 hown hK hP 0 rfl rfl 19 (by decide) f_3 (fun _ h9 => h9) rfl dX6_eat_125 ?_
                  refine lv_iconst (v := nI 1) hx hb dX6_eat_128 (by decide) ?_
                  refine lv_iadd hx hb dX6_eat_129 ?_
                  refine cb_topi (nI_add _ _) ?_
                  refine va_put (D := (dC, dI)) (ci := 6) (v := .int (nI ((c_me S) + 1))) (ty := .int) (C := RX6) (T := TX6) (N := 23) hx hb hts i_X6 tyX6 tyX6_ok nmX6 hown hK hP hD hS 0 rfl rfl 19 (by decide) f_3 (fun _ h9 => h9) rfl (by decide +kernel) rfl rfl (Nat.le_of_ble_eq_true rfl) dX6_eat_130 (fun H locs hP hD hS => ?_)
                  rw [wsM_me] at hP hD
                  have hP : va_P (dC, dI) vwCl (mb_w a k (s_me (s_eat (s_sto S (sv S mm (c_nf S))) (eatK S mm (c_ns S))) ((c_me S) + 1)) 0) H := hP
                  have hD : va_D A (mb_w a k (s_me (s_eat (s_sto S (sv S mm (c_nf S))) (eatK S mm (c_ns S))) ((c_me S) + 1)) 0) := hD
                  refine lv_iload_n hx hb dX6_eat_133 rfl (lv_at hl 2 rfl) ?_
                  have hk9 : k_eat S x0 = 0 := by simp only [k_eat, c_10, c_24, tmm, if_true, if_false, Bool.false_eq_true, true_or, or_true, false_or, or_false, reduceCtorEq]
                  have ew : (mb_w a k (s_me (s_eat (s_sto S (sv S mm (c_nf S))) (eatK S mm (c_ns S))) ((c_me S) + 1)) 0) = (mb_w a k (kS (k_eat S x0) (S_eat S x0) S) (k_eat S x0)) := (by rw [hk9, kS_0, S_eat, tmm, ← eatK_n, ss_eatme]; first | done | rfl)
                  have hP : va_P (dC, dI) vwCl (mb_w a k (kS (k_eat S x0) (S_eat S x0) S) (k_eat S x0)) H := by rw [← ew]; exact hP
                  have hD : va_D A (mb_w a k (kS (k_eat S x0) (S_eat S x0) S) (k_eat S x0)) := by rw [← ew]; exact hD
                  rw [hQ]
                  refine W.widen (k := 0) (n := 0) (by omega) (by omega) ?_
                  exact W.iret (v := nI (cntE S mm)) hx hb hr (fun t9 ht9 hW9 => ⟨⟨nI (cntE S mm), (), rfl, (fun _ => by rw [r_eat, tmm]), cB_of hP hK hD ht9 hW9⟩, hS.F ht9⟩) hS.2.2 dX6_eat_134
                · have c_85 : i < (c_ns S) := cb_nge (by omega) (by omega) c_85
                  refine lv_aload_n hx hb dX6_eat_88 rfl (lv_at hl 0 rfl) ?_
                  refine va_get (D := (dC, dI)) (ci := 6) (v := .ref (a 8)) (C := RX6) (T := TX6) (N := 23) hx hb hts i_X6 hown hK hP 0 rfl rfl 11 (by decide) f_4 (fun _ h9 => h9) rfl dX6_eat_89 ?_
                  refine lv_iload_n hx hb dX6_eat_92 rfl (lv_at hl 3 rfl) ?_
                  refine lv_aload_n hx hb dX6_eat_93 rfl (lv_at hl 0 rfl) ?_
                  refine va_get (D := (dC, dI)) (ci := 6) (v := .ref (a 8)) (C := RX6) (T := TX6) (N := 23) hx hb hts i_X6 hown hK hP 0 rfl rfl 11 (by decide) f_4 (fun _ h9 => h9) rfl dX6_eat_94 ?_
                  refine lv_iload_n hx hb dX6_eat_97 rfl (lv_at hl 3 rfl) ?_
                  refine cb_zald hx hb hK hP 8 7 (f := fun j => bI ((eatK S mm i) j)) rfl rfl (j := i) (by omega) (Nat.le_of_ble_eq_true rfl) dX6_eat_98 ?_
                  show W p l e _ _ m _ below meth c _ _ _ _ _ (F0 m _ ls (.int (bI ((eatK S mm i) i)) :: _))
                  refine lv_if_ne (tgt := 111) hx hb dX6_eat_99 (by decide) (fun c_99 => ?_) (fun c_99 => ?_)
                  · have c_99 : ((eatK S mm i) i) = true := bI_n c_99
                    refine lv_iconst (v := nI 1) hx hb dX6_eat_111 (by decide) ?_
                    refine lv_goto (tgt := 116) hx hb dX6_eat_112 (by decide) ?_
                    refine cb_zast hx hb hK hP hD hS 8 7 (f := fun j => bI ((eatK S mm i) j)) (x := true) rfl rfl (j := i) (by omega) (Nat.le_of_ble_eq_true rfl) dX6_eat_116 (fun H locs hP hD hS => ?_)
                    rw [updB_I] at hP hD
                    rw [wsM_eat, ss_eat] at hP hD
                    have hP : va_P (dC, dI) vwCl (mb_w a k (s_eat (s_sto S (sv S mm (c_nf S))) (updB (eatK S mm i) i true)) 0) H := hP
                    have hD : va_D A (mb_w a k (s_eat (s_sto S (sv S mm (c_nf S))) (updB (eatK S mm i) i true)) 0) := hD
                    refine lv_iinc (v := nI (i + 1)) (lv' := [(3, .int (nI (i + 1))), (0, .ref (a 0)), (1, .int (nI mm)), (2, .int (nI (cntE S mm)))]) hx hb dX6_eat_117 hl (k := 3) rfl (nI_1 _) (by decide) rfl (fun ls hl => ?_)
                    refine lv_goto (tgt := 80) hx hb dX6_eat_120 (by decide) ?_
                    have ew : (mb_w a k (s_eat (s_sto S (sv S mm (c_nf S))) (updB (eatK S mm i) i true)) 0) = (mb_w a k (s_eat (s_sto S (sv S mm (c_nf S))) (eatK S mm (i + 1))) 0) := (by rw [eatK_s (show true = (c_eat S i || canE S mm i) by rw [← eatK_i (S := S) (mm := mm), c_99]; rfl)])
                    have hP : va_P (dC, dI) vwCl (mb_w a k (s_eat (s_sto S (sv S mm (c_nf S))) (eatK S mm (i + 1))) 0) H := by rw [← ew]; exact hP
                    have hD : va_D A (mb_w a k (s_eat (s_sto S (sv S mm (c_nf S))) (eatK S mm (i + 1))) 0) := by rw [← ew]; exact hD
                    exact ih_80 (i + 1) (by omega) (by omega) H locs hP hD hS ls (lv_sub hl [1, 2, 3, 0] rfl)
                  · have c_99 : ((eatK S mm i) i) = false := bI_0 c_99
                    refine lv_aload_n hx hb dX6_eat_102 rfl (lv_at hl 0 rfl) ?_
                    refine lv_iload_n hx hb dX6_eat_103 rfl (lv_at hl 3 rfl) ?_
                    refine lv_iload_n hx hb dX6_eat_104 rfl (lv_at hl 1 rfl) ?_
                    refine vp_callSi (W.runV (As := [.int (nI i), .int (nI mm)]) (rest := [.int (nI i), .ref (a 8)]) ⟨hx, hb, hml, hown, hts⟩ (c_X6_canEat l dC dI a k (s_eat (s_sto S (sv S mm (c_nf S))) (eatK S mm i)) 0 i mm (show i < c_ns S by omega) (by omega) (inv_se hI (by omega))) (cwV 2 hts gX6_eat_X6_canEat rfl rfl rfl (by decide +kernel) ⟨(Nat.le_of_ble_eq_true rfl), (Nat.le_of_ble_eq_true rfl)⟩) ⟨cR_blind, va_recv hK hP (ci := 6) (q0 := 0) rfl rfl, fun U hU hW => ⟨rfl, cR_of hK hP hU hW⟩⟩ rfl rfl hl.1 rfl (lv_room (Nat.le_of_ble_eq_true rfl)) dX6_eat_105 ⟨(by show 0 + 0 ≤ 0; omega), (by show 0 + 0 ≤ 0; omega)⟩) (fun r er => ?_)
                    subst er
                    refine cb_topi (z := bI (canE S mm i)) rfl ?_
                    refine lv_if_eq (tgt := 115) hx hb dX6_eat_108 (by decide) (fun c_108 => ?_) (fun c_108 => ?_)
                    · have c_108 : (canE S mm i) = false := bI_0 c_108
                      refine lv_iconst (v := nI 0) hx hb dX6_eat_115 (by decide) ?_
                      refine cb_zast hx hb hK hP hD hS 8 7 (f := fun j => bI ((eatK S mm i) j)) (x := false) rfl rfl (j := i) (by omega) (Nat.le_of_ble_eq_true rfl) dX6_eat_116 (fun H locs hP hD hS => ?_)
                      rw [updB_I] at hP hD
                      rw [wsM_eat, ss_eat] at hP hD
                      have hP : va_P (dC, dI) vwCl (mb_w a k (s_eat (s_sto S (sv S mm (c_nf S))) (updB (eatK S mm i) i false)) 0) H := hP
                      have hD : va_D A (mb_w a k (s_eat (s_sto S (sv S mm (c_nf S))) (updB (eatK S mm i) i false)) 0) := hD
                      refine lv_iinc (v := nI (i + 1)) (lv' := [(3, .int (nI (i + 1))), (0, .ref (a 0)), (1, .int (nI mm)), (2, .int (nI (cntE S mm)))]) hx hb dX6_eat_117 hl (k := 3) rfl (nI_1 _) (by decide) rfl (fun ls hl => ?_)
                      refine lv_goto (tgt := 80) hx hb dX6_eat_120 (by decide) ?_
                      have ew : (mb_w a k (s_eat (s_sto S (sv S mm (c_nf S))) (updB (eatK S mm i) i false)) 0) = (mb_w a k (s_eat (s_sto S (sv S mm (c_nf S))) (eatK S mm (i + 1))) 0) := (by rw [eatK_s (show false = (c_eat S i || canE S mm i) by rw [← eatK_i (S := S) (mm := mm), c_99, c_108]; rfl)])
                      have hP : va_P (dC, dI) vwCl (mb_w a k (s_eat (s_sto S (sv S mm (c_nf S))) (eatK S mm (i + 1))) 0) H := by rw [← ew]; exact hP
                      have hD : va_D A (mb_w a k (s_eat (s_sto S (sv S mm (c_nf S))) (eatK S mm (i + 1))) 0) := by rw [← ew]; exact hD
                      exact ih_80 (i + 1) (by omega) (by omega) H locs hP hD hS ls (lv_sub hl [1, 2, 3, 0] rfl)
                    · have c_108 : (canE S mm i) = true := bI_n c_108
                      refine lv_iconst (v := nI 1) hx hb dX6_eat_111 (by decide) ?_
                      refine lv_goto (tgt := 116) hx hb dX6_eat_112 (by decide) ?_
                      refine cb_zast hx hb hK hP hD hS 8 7 (f := fun j => bI ((eatK S mm i) j)) (x := true) rfl rfl (j := i) (by omega) (Nat.le_of_ble_eq_true rfl) dX6_eat_116 (fun H locs hP hD hS => ?_)
                      rw [updB_I] at hP hD
                      rw [wsM_eat, ss_eat] at hP hD
                      have hP : va_P (dC, dI) vwCl (mb_w a k (s_eat (s_sto S (sv S mm (c_nf S))) (updB (eatK S mm i) i true)) 0) H := hP
                      have hD : va_D A (mb_w a k (s_eat (s_sto S (sv S mm (c_nf S))) (updB (eatK S mm i) i true)) 0) := hD
                      refine lv_iinc (v := nI (i + 1)) (lv' := [(3, .int (nI (i + 1))), (0, .ref (a 0)), (1, .int (nI mm)), (2, .int (nI (cntE S mm)))]) hx hb dX6_eat_117 hl (k := 3) rfl (nI_1 _) (by decide) rfl (fun ls hl => ?_)
                      refine lv_goto (tgt := 80) hx hb dX6_eat_120 (by decide) ?_
                      have ew : (mb_w a k (s_eat (s_sto S (sv S mm (c_nf S))) (updB (eatK S mm i) i true)) 0) = (mb_w a k (s_eat (s_sto S (sv S mm (c_nf S))) (eatK S mm (i + 1))) 0) := (by rw [eatK_s (show true = (c_eat S i || canE S mm i) by rw [← eatK_i (S := S) (mm := mm), c_99, c_108]; rfl)])
                      have hP : va_P (dC, dI) vwCl (mb_w a k (s_eat (s_sto S (sv S mm (c_nf S))) (eatK S mm (i + 1))) 0) H := by rw [← ew]; exact hP
                      have hD : va_D A (mb_w a k (s_eat (s_sto S (sv S mm (c_nf S))) (eatK S mm (i + 1))) 0) := by rw [← ew]; exact hD
                      exact ih_80 (i + 1) (by omega) (by omega) H locs hP hD hS ls (lv_sub hl [1, 2, 3, 0] rfl)
            have ew : (mb_w a k (s_sto S (sv S mm (c_nf S))) 0) = (mb_w a k (s_eat (s_sto S (sv S mm (c_nf S))) (eatK S mm 0)) 0) := (by rw [eat_in])
            have hP : va_P (dC, dI) vwCl (mb_w a k (s_eat (s_sto S (sv S mm (c_nf S))) (eatK S mm 0)) 0) H := by rw [← ew]; exact hP
            have hD : va_D A (mb_w a k (s_eat (s_sto S (sv S mm (c_nf S))) (eatK S mm 0)) 0) := by rw [← ew]; exact hD
            exact L_80 (c_ns S + 1) 0 (by omega) (by omega) H locs hP hD hS ls (lv_sub hl [1, 2, 3, 0] rfl)
          · have c_47 : i < (c_nf S) := cb_nge (by omega) (by omega) c_47
            refine lv_aload_n hx hb dX6_eat_50 rfl (lv_at hl 0 rfl) ?_
            refine va_get (D := (dC, dI)) (ci := 6) (v := .ref (a 11)) (C := RX6) (T := TX6) (N := 23) hx hb hts i_X6 hown hK hP 0 rfl rfl 16 (by decide) f_5 (fun _ h9 => h9) rfl dX6_eat_51 ?_
            refine lv_iload_n hx hb dX6_eat_54 rfl (lv_at hl 3 rfl) ?_
            refine lv_dup2_11 hx hb dX6_eat_55 rfl rfl ?_
            refine cb_iald hx hb hK hP 11 10 (f := sv S mm i) rfl rfl (j := i) (by omega) (Nat.le_of_ble_eq_true rfl) dX6_eat_56 ?_
            refine lv_aload_n hx hb dX6_eat_57 rfl (lv_at hl 0 rfl) ?_
            refine va_get (D := (dC, dI)) (ci := 6) (v := .ref (a 12)) (C := RX6) (T := TX6) (N := 23) hx hb hts i_X6 hown hK hP 0 rfl rfl 18 (by decide) f_6 (fun _ h9 => h9) rfl dX6_eat_58 ?_
            refine lv_bipush (v := nI 12) hx hb dX6_eat_61 (by decide) ?_
            refine lv_iload_n hx hb dX6_eat_63 rfl (lv_at hl 1 rfl) ?_
            refine lv_imul hx hb dX6_eat_64 ?_
            refine cb_topi (pk_mul _ _) ?_
            refine lv_iload_n hx hb dX6_eat_65 rfl (lv_at hl 3 rfl) ?_
            refine lv_iadd hx hb dX6_eat_66 ?_
            refine cb_topi (nI_add _ _) ?_
            refine cb_topi (z := nI (mm * 12 + i)) (congrArg nI (by omega)) ?_
            refine cb_iald hx hb hK hP 12 11 (f := c_ned S) rfl rfl (j := mm * 12 + i) (by omega) (Nat.le_of_ble_eq_true rfl) dX6_eat_67 ?_
            refine lv_iload_n hx hb dX6_eat_68 rfl (lv_at hl 2 rfl) ?_
            refine lv_imul hx hb dX6_eat_69 ?_
            refine lv_isub hx hb dX6_eat_70 ?_
            refine cb_iast hx hb hK hP hD hS 11 10 (f := sv S mm i) rfl rfl (j := i) (by omega) (Nat.le_of_ble_eq_true rfl) dX6_eat_71 (fun H locs hP hD hS => ?_)
            rw [wsM_sto, ss_sto] at hP hD
            have hP : va_P (dC, dI) vwCl (mb_w a k (s_sto S (upd (sv S mm i) i ((sv S mm i i) - ((c_ned S (mm * 12 + i)) * (nI (cntE S mm)))))) 0) H := hP
            have hD : va_D A (mb_w a k (s_sto S (upd (sv S mm i) i ((sv S mm i i) - ((c_ned S (mm * 12 + i)) * (nI (cntE S mm)))))) 0) := hD
            refine lv_iinc (v := nI (i + 1)) (lv' := [(3, .int (nI (i + 1))), (0, .ref (a 0)), (1, .int (nI mm)), (2, .int (nI (cntE S mm)))]) hx hb dX6_eat_72 hl (k := 3) rfl (nI_1 _) (by decide) rfl (fun ls hl => ?_)
            refine lv_goto (tgt := 42) hx hb dX6_eat_75 (by decide) ?_
            have ew : (mb_w a k (s_sto S (upd (sv S mm i) i ((sv S mm i i) - ((c_ned S (mm * 12 + i)) * (nI (cntE S mm)))))) 0) = (mb_w a k (s_sto S (sv S mm (i + 1))) 0) := (by rw [sv_s])
            have hP : va_P (dC, dI) vwCl (mb_w a k (s_sto S (sv S mm (i + 1))) 0) H := by rw [← ew]; exact hP
            have hD : va_D A (mb_w a k (s_sto S (sv S mm (i + 1))) 0) := by rw [← ew]; exact hD
            exact ih_42 (i + 1) (by omega) (by omega) H locs hP hD hS ls (lv_sub hl [1, 2, 3, 0] rfl)
      have ew : (mb_w a k S 0) = (mb_w a k (s_sto S (sv S mm 0)) 0) := rfl
      have hP : va_P (dC, dI) vwCl (mb_w a k (s_sto S (sv S mm 0)) 0) H := by rw [← ew]; exact hP
      have hD : va_D A (mb_w a k (s_sto S (sv S mm 0)) 0) := by rw [← ew]; exact hD
      exact L_42 (c_nf S + 1) 0 (by omega) (by omega) H locs hP hD hS ls (lv_sub hl [2, 3, 1, 0] rfl)
    · have c_24 : (canBE S mm) = false := bI_0 c_24
      refine lv_aload_n hx hb dX6_eat_27 rfl (lv_at hl 0 rfl) ?_
      refine lv_iconst (v := nI 2) hx hb dX6_eat_28 (by decide) ?_
      have hF_29 : ∀ q, va_A (mb_w a k S 0) H.size q → A q := va_free hD hS hA [0, 1, 2, 3, 4, 5, 6, 7, 8, 9, 10, 11, 12, 13, 14] rfl
      refine va_calli (va_runV (As := [.int (nI 2)]) (rest := []) ⟨hx, hb, hml, hown, hts⟩ (c_X6_no l dC dI a k S 0 H.size 2) (cwV 1 hts gX6_eat_X6_no rfl rfl rfl (by decide +kernel) ⟨(Nat.le_of_ble_eq_true rfl), (Nat.le_of_ble_eq_true rfl)⟩) ⟨cT_blind, va_recv hK hP (ci := 6) (q0 := 0) rfl rfl, fun U hU hW => ⟨rfl, cT_of hK hP hD hU hW⟩⟩ rfl rfl hl.1 rfl (lv_room (Nat.le_of_ble_eq_true rfl)) dX6_eat_29 ⟨(by show 0 + 0 ≤ 0; omega), (by show 0 + 0 ≤ 0; omega)⟩) hS (fun q _ h => hF_29 q h) hF_29 (fun r_29 u8 t8 H_29 L_29_ ht hvm hw hB hz1 hk1 hS => ?_)
      obtain ⟨hP, -, hD9⟩ := hB
      rw [ht] at hP
      have hD := hD9.weaken (B := A) (fun _ q _ h => hF_29 q.1 h)
      have hP : va_P (dC, dI) vwCl (mb_w a k S 2) H_29 := hP
      have hD : va_D A (mb_w a k S 2) := hD
      subst hw
      have hk9 : k_eat S x0 = 2 := by simp only [k_eat, c_10, c_24, tmm, if_true, if_false, Bool.false_eq_true, true_or, or_true, false_or, or_false, reduceCtorEq]
      have ew : (mb_w a k S 2) = (mb_w a k (kS (k_eat S x0) (S_eat S x0) S) (k_eat S x0)) := (by rw [hk9]; first | done | rfl)
      have hP : va_P (dC, dI) vwCl (mb_w a k (kS (k_eat S x0) (S_eat S x0) S) (k_eat S x0)) H_29 := by rw [← ew]; exact hP
      have hD : va_D A (mb_w a k (kS (k_eat S x0) (S_eat S x0) S) (k_eat S x0)) := by rw [← ew]; exact hD
      rw [hQ]
      refine W.widen (k := 0) (n := 0) (by omega) (by omega) ?_
      exact W.iret (v := nI 0) hx hb hr (fun t9 ht9 hW9 => ⟨⟨nI 0, (), rfl, (fun h => absurd (hk9.symm.trans h) (by decide)), cB_of hP hK hD ht9 hW9⟩, hS.F ht9⟩) hS.2.2 dX6_eat_32
  · have c_10 : (ix x0 (c_nm S)) = false := bI_0 c_10
    refine lv_aload_n hx hb dX6_eat_13 rfl (lv_at hl 0 rfl) ?_
    refine lv_iconst (v := nI 1) hx hb dX6_eat_14 (by decide) ?_
    have hF_15 : ∀ q, va_A (mb_w a k S 0) H.size q → A q := va_free hD hS hA [0, 1, 2, 3, 4, 5, 6, 7, 8, 9, 10, 11, 12, 13, 14] rfl
    refine va_calli (va_runV (As := [.int (nI 1)]) (rest := []) ⟨hx, hb, hml, hown, hts⟩ (c_X6_no l dC dI a k S 0 H.size 1) (cwV 1 hts gX6_eat_X6_no rfl rfl rfl (by decide +kernel) ⟨(Nat.le_of_ble_eq_true rfl), (Nat.le_of_ble_eq_true rfl)⟩) ⟨cT_blind, va_recv hK hP (ci := 6) (q0 := 0) rfl rfl, fun U hU hW => ⟨rfl, cT_of hK hP hD hU hW⟩⟩ rfl rfl hl.1 rfl (lv_room (Nat.le_of_ble_eq_true rfl)) dX6_eat_15 ⟨(by show 0 + 0 ≤ 0; omega), (by show 0 + 0 ≤ 0; omega)⟩) hS (fun q _ h => hF_15 q h) hF_15 (fun r_15 u8 t8 H_15 L_15_ ht hvm hw hB hz1 hk1 hS => ?_)
    obtain ⟨hP, -, hD9⟩ := hB
    rw [ht] at hP
    have hD := hD9.weaken (B := A) (fun _ q _ h => hF_15 q.1 h)
    have hP : va_P (dC, dI) vwCl (mb_w a k S 1) H_15 := hP
    have hD : va_D A (mb_w a k S 1) := hD
    subst hw
    have hk9 : k_eat S x0 = 1 := by simp only [k_eat, c_10, if_true, if_false, Bool.false_eq_true, true_or, or_true, false_or, or_false, reduceCtorEq]
    have ew : (mb_w a k S 1) = (mb_w a k (kS (k_eat S x0) (S_eat S x0) S) (k_eat S x0)) := (by rw [hk9]; first | done | rfl)
    have hP : va_P (dC, dI) vwCl (mb_w a k (kS (k_eat S x0) (S_eat S x0) S) (k_eat S x0)) H_15 := by rw [← ew]; exact hP
    have hD : va_D A (mb_w a k (kS (k_eat S x0) (S_eat S x0) S) (k_eat S x0)) := by rw [← ew]; exact hD
    rw [hQ]
    refine W.widen (k := 0) (n := 0) (by omega) (by omega) ?_
    exact W.iret (v := nI 0) hx hb hr (fun t9 ht9 hW9 => ⟨⟨nI 0, (), rfl, (fun h => absurd (hk9.symm.trans h) (by decide)), cB_of hP hK hD ht9 hW9⟩, hS.F ht9⟩) hS.2.2 dX6_eat_18
abbrev rm_X6_table : Room := { frames := 4, cells := 0, slots := 0, locals := 96 }
set_option maxHeartbeats 4000000 in
set_option maxRecDepth 100000 in
theorem c_X6_table (l : Launch) (dC : Nat → ClassId) (dI : Nat → Nat → Nat) (a : Nat → Nat) (k : Nat → ClassId) (S : cs_S) (th : Nat) (sz : Nat) (x0 : Int32) (hI : Inv S) : Met l yX6_table wsX6_table rm_X6_table (va_Pc [.ref (a 0), .int x0] (cT dC dI sz (mb_w a k S th) (mb_ty k))) (va_Qi (fun (r : Int32) (_ : Unit) => (k_table x0 = 0 → r = r_table S x0)) (fun _ t => cB dC dI (va_A (mb_w a k S th) sz) (mb_w a k S (k_table x0)) (mb_ty k) t) (va_A (mb_w a k S th) sz)) 0 0 (va_A (mb_w a k S th) sz) := by
  refine Met.ofW (cc := cX6_table) (maxL := 2) (ret := (some .int)) (by decide) rfl ?_
  intro p e s m args below meth c s₁ B hml hv
  obtain ⟨rfl, hsz, hP, hK, hD0⟩ := hv
  have hx := B.exec
  have hb := B.bytes
  have hr := B.returns
  have hts := atoms_spec (ws := wsX6_table) B.pre
  have hown : s.vm.findClass RX6 = some m.cls := findClass_of_methodNamed B.named
  have hlocks := B.notSynchronized
  subst hsz
  have hD := hD0.self (sz := s.heap.size)
  generalize hAe : va_A (mb_w a k S th) s.heap.size = A at hD ⊢
  have hA : ∀ q : Nat, s.heap.size ≤ q → A q := fun q h => by rw [← hAe]; exact Or.inr h
  have hS : va_S A s.heap s.heap [] := va_S.rf
  obtain ⟨Q, hQ⟩ : ∃ Q, Q = MQ below (va_Qi (fun (r : Int32) (_ : Unit) => (k_table x0 = 0 → r = r_table S x0)) (fun _ t => cB dC dI A (mb_w a k S (k_table x0)) (mb_ty k) t) A) ([.ref (a 0), .int x0] : List Value).toArray s 0 0 A := ⟨_, rfl⟩
  show W p l e rm_X6_table s m _ below meth c s.heap [] 0 0 (MQ below _ _ _ _ _ _) _
  rw [← hQ]
  have i_X6 : ∀ w ∈ wsX60, w ∈ wsX6_table := fun w h => List.mem_cons_of_mem _ (List.mem_append_right _ h)
  obtain ⟨⟨hday, hnp, hns, hnt, hnf, hnm, hnb, hme⟩, hpat, hage, hten, hcnt, hplc, heat, hned, hhld, hbad, hbad0, hbag⟩ := id hI
  have f_0 := hts (.fieldLink RX6 53 "CampBookModel" "thrown" "I") (by decide +kernel)
  have hl := lv_entry ([.ref (a 0), .int x0]) (n := 2) (Nat.le_of_ble_eq_true rfl)
  rw [lg_entry_eq]
  generalize (lg_sl ([.ref (a 0), .int x0]) ++ List.replicate (2 - (lg_sl ([.ref (a 0), .int x0])).length) Slot.unset).toArray = ls at hl ⊢
  have hl : lv_has ls 2 [(0, .ref (a 0)), (1, .int x0)] := hl
  refine lv_aload_n hx hb dX6_table_0 rfl (lv_at hl 0 rfl) ?_
  refine lv_iconst (v := nI 0) hx hb dX6_table_1 (by decide) ?_
  refine va_put (D := (dC, dI)) (ci := 6) (v := .int (nI 0)) (ty := .int) (C := RX6) (T := TX6) (N := 23) hx hb hts i_X6 tyX6 tyX6_ok nmX6 hown hK hP hD hS 0 rfl rfl 0 (by decide) f_0 (fun _ h9 => h9) rfl (by decide +kernel) rfl rfl (Nat.le_of_ble_eq_true rfl) dX6_table_2 (fun H locs hP hD hS => ?_)
  rw [wsM_TH] at hP hD
  have hP : va_P (dC, dI) vwCl (mb_w a k S 0) H := hP
  have hD : va_D A (mb_w a k S 0) := hD
  refine lv_iload_n hx hb dX6_table_5 rfl (lv_at hl 1 rfl) ?_
  refine lv_iconst (v := nI 0) hx hb dX6_table_6 (by decide) ?_
  refine lv_iconst (v := nI 2) hx hb dX6_table_7 (by decide) ?_
  refine vp_callSi (W.runS (As := [.int x0, .int (nI 0), .int (nI 2)]) (rest := []) ⟨hx, hb, hml, hown, hts⟩ (c_X6_isIn l x0 (nI 0) (nI 2)) (va_cwS 3 hts gX6_table_X6_isIn rfl rfl rfl (by decide +kernel) ⟨(Nat.le_of_ble_eq_true rfl), (Nat.le_of_ble_eq_true rfl)⟩) ⟨cN_blind, fun U hU hW => ⟨rfl, trivial⟩⟩ rfl rfl hl.1 rfl (lv_room (Nat.le_of_ble_eq_true rfl)) dX6_table_8 ⟨(by show 0 + 0 ≤ 0; omega), (by show 0 + 0 ≤ 0; omega)⟩) (fun r er => ?_)
  subst er
  refine cb_topi (z := bI (ix x0 3)) (congrArg bI (inR_ixm x0 (by omega))) ?_
  refine lv_if_eq (tgt := 22) hx hb dX6_table_11 (by decide) (fun c_11 => ?_) (fun c_11 => ?_)
  · have c_11 : (ix x0 3) = false := bI_0 c_11
    refine lv_aload_n hx hb dX6_table_22 rfl (lv_at hl 0 rfl) ?_
    refine lv_iconst (v := nI 1) hx hb dX6_table_23 (by decide) ?_
    have hF_24 : ∀ q, va_A (mb_w a k S 0) H.size q → A q := va_free hD hS hA [0, 1, 2, 3, 4, 5, 6, 7, 8, 9, 10, 11, 12, 13, 14] rfl
    refine va_calli (va_runV (As := [.int (nI 1)]) (rest := []) ⟨hx, hb, hml, hown, hts⟩ (c_X6_no l dC dI a k S 0 H.size 1) (cwV 1 hts gX6_table_X6_no rfl rfl rfl (by decide +kernel) ⟨(Nat.le_of_ble_eq_true rfl), (Nat.le_of_ble_eq_true rfl)⟩) ⟨cT_blind, va_recv hK hP (ci := 6) (q0 := 0) rfl rfl, fun U hU hW => ⟨rfl, cT_of hK hP hD hU hW⟩⟩ rfl rfl hl.1 rfl (lv_room (Nat.le_of_ble_eq_true rfl)) dX6_table_24 ⟨(by show 0 + 0 ≤ 0; omega), (by show 0 + 0 ≤ 0; omega)⟩) hS (fun q _ h => hF_24 q h) hF_24 (fun r_24 u8 t8 H_24 L_24_ ht hvm hw hB hz1 hk1 hS => ?_)
    obtain ⟨hP, -, hD9⟩ := hB
    rw [ht] at hP
    have hD := hD9.weaken (B := A) (fun _ q _ h => hF_24 q.1 h)
    have hP : va_P (dC, dI) vwCl (mb_w a k S 1) H_24 := hP
    have hD : va_D A (mb_w a k S 1) := hD
    subst hw
    have hk9 : k_table x0 = 1 := by simp only [k_table, c_11, if_true, if_false, Bool.false_eq_true, true_or, or_true, false_or, or_false, reduceCtorEq]
    have ew : (mb_w a k S 1) = (mb_w a k S (k_table x0)) := (by rw [hk9]; first | done | rfl)
    have hP : va_P (dC, dI) vwCl (mb_w a k S (k_table x0)) H_24 := by rw [← ew]; exact hP
    have hD : va_D A (mb_w a k S (k_table x0)) := by rw [← ew]; exact hD
    rw [hQ]
    refine W.widen (k := 0) (n := 0) (by omega) (by omega) ?_
    exact W.iret (v := nI 0) hx hb hr (fun t9 ht9 hW9 => ⟨⟨nI 0, (), rfl, (fun h => absurd (hk9.symm.trans h) (by decide)), cB_of hP hK hD ht9 hW9⟩, hS.F ht9⟩) hS.2.2 dX6_table_27
  · have c_11 : (ix x0 3) = true := bI_n c_11
    obtain ⟨w9, hw9, ew9⟩ := ix_t c_11 (by omega)
    rw [ew9] at hl
    have tw9 : toN x0 = w9 := by rw [ew9]; exact tn (by omega)
    refine lv_aload_n hx hb dX6_table_14 rfl (lv_at hl 0 rfl) ?_
    refine lv_iload_n hx hb dX6_table_15 rfl (lv_at hl 1 rfl) ?_
    refine vp_callSi (W.runV (As := [.int (nI w9)]) (rest := []) ⟨hx, hb, hml, hown, hts⟩ (c_X6_tableOf l dC dI a k S 0 w9 (by omega) hI) (cwV 1 hts gX6_table_X6_tableOf rfl rfl rfl (by decide +kernel) ⟨(Nat.le_of_ble_eq_true rfl), (Nat.le_of_ble_eq_true rfl)⟩) ⟨cR_blind, va_recv hK hP (ci := 6) (q0 := 0) rfl rfl, fun U hU hW => ⟨rfl, cR_of hK hP hU hW⟩⟩ rfl rfl hl.1 rfl (lv_room (Nat.le_of_ble_eq_true rfl)) dX6_table_16 ⟨(by show 0 + 0 ≤ 0; omega), (by show 0 + 0 ≤ 0; omega)⟩) (fun r er => ?_)
    subst er
    refine lv_goto (tgt := 27) hx hb dX6_table_19 (by decide) ?_
    have hk9 : k_table x0 = 0 := by simp only [k_table, c_11, tw9, if_true, if_false, Bool.false_eq_true, true_or, or_true, false_or, or_false, reduceCtorEq]
    have ew : (mb_w a k S 0) = (mb_w a k S (k_table x0)) := (by rw [hk9]; first | done | rfl)
    have hP : va_P (dC, dI) vwCl (mb_w a k S (k_table x0)) H := by rw [← ew]; exact hP
    have hD : va_D A (mb_w a k S (k_table x0)) := by rw [← ew]; exact hD
    rw [hQ]
    refine W.widen (k := 0) (n := 0) (by omega) (by omega) ?_
    exact W.iret (v := tabl S w9) hx hb hr (fun t9 ht9 hW9 => ⟨⟨tabl S w9, (), rfl, (fun _ => by rw [r_table, tw9]), cB_of hP hK hD ht9 hW9⟩, hS.F ht9⟩) hS.2.2 dX6_table_27
abbrev rm_X6_addBadge : Room := { frames := 1, cells := 0, slots := 0, locals := 22 }
set_option maxHeartbeats 4000000 in
set_option maxRecDepth 100000 in
theorem c_X6_addBadge (l : Launch) (dC : Nat → ClassId) (dI : Nat → Nat → Nat) (a : Nat → Nat) (k : Nat → ClassId) (S : cs_S) (th : Nat) (sz : Nat) (x0 : Int32) (hI : Inv S) : Met l yX6_addBadge wsX6_addBadge rm_X6_addBadge (va_Pc [.ref (a 0), .int x0] (cT dC dI sz (mb_w a k S th) (mb_ty k))) (va_Qi (fun (r : Int32) (_ : Unit) => (k_addBadge S x0 = 0 → r = nI (c_nb S))) (fun _ t => cB dC dI (va_A (mb_w a k S th) sz) (mb_w a k (kS (k_addBadge S x0) (S_addBadge S x0) S) (k_addBadge S x0)) (mb_ty k) t) (va_A (mb_w a k S th) sz)) 0 0 (va_A (mb_w a k S th) sz) := by
  refine Met.ofW (cc := cX6_addBadge) (maxL := 2) (ret := (some .int)) (by decide) rfl ?_
  intro p e s m args below meth c s₁ B hml hv
  obtain ⟨rfl, hsz, hP, hK, hD0⟩ := hv
  have hx := B.exec
  have hb := B.bytes
  have hr := B.returns
  have hts := atoms_spec (ws := wsX6_addBadge) B.pre
  have hown : s.vm.findClass RX6 = some m.cls := findClass_of_methodNamed B.named
  have hlocks := B.notSynchronized
  subst hsz
  have hD := hD0.self (sz := s.heap.size)
  generalize hAe : va_A (mb_w a k S th) s.heap.size = A at hD ⊢
  have hA : ∀ q : Nat, s.heap.size ≤ q → A q := fun q h => by rw [← hAe]; exact Or.inr h
  have hS : va_S A s.heap s.heap [] := va_S.rf
  obtain ⟨Q, hQ⟩ : ∃ Q, Q = MQ below (va_Qi (fun (r : Int32) (_ : Unit) => (k_addBadge S x0 = 0 → r = nI (c_nb S))) (fun _ t => cB dC dI A (mb_w a k (kS (k_addBadge S x0) (S_addBadge S x0) S) (k_addBadge S x0)) (mb_ty k) t) A) ([.ref (a 0), .int x0] : List Value).toArray s 0 0 A := ⟨_, rfl⟩
  show W p l e rm_X6_addBadge s m _ below meth c s.heap [] 0 0 (MQ below _ _ _ _ _ _) _
  rw [← hQ]
  have i_X6 : ∀ w ∈ wsX60, w ∈ wsX6_addBadge := fun w h => List.mem_cons_of_mem _ (List.mem_append_right _ h)
  obtain ⟨⟨hday, hnp, hns, hnt, hnf, hnm, hnb, hme⟩, hpat, hage, hten, hcnt, hplc, heat, hned, hhld, hbad, hbad0, hbag⟩ := id hI
  have f_0 := hts (.fieldLink RX6 53 "CampBookModel" "thrown" "I") (by decide +kernel)
  have f_1 := hts (.fieldLink RX6 76 "CampBookModel" "badges" "I") (by decide +kernel)
  have f_2 := hts (.fieldLink RX6 47 "CampBookModel" "badgeAges" "[I") (by decide +kernel)
  have hl := lv_entry ([.ref (a 0), .int x0]) (n := 2) (Nat.le_of_ble_eq_true rfl)
  rw [lg_entry_eq]
  generalize (lg_sl ([.ref (a 0), .int x0]) ++ List.replicate (2 - (lg_sl ([.ref (a 0), .int x0])).length) Slot.unset).toArray = ls at hl ⊢
  have hl : lv_has ls 2 [(0, .ref (a 0)), (1, .int x0)] := hl
  refine lv_aload_n hx hb dX6_addBadge_0 rfl (lv_at hl 0 rfl) ?_
  refine lv_iconst (v := nI 0) hx hb dX6_addBadge_1 (by decide) ?_
  refine va_put (D := (dC, dI)) (ci := 6) (v := .int (nI 0)) (ty := .int) (C := RX6) (T := TX6) (N := 23) hx hb hts i_X6 tyX6 tyX6_ok nmX6 hown hK hP hD hS 0 rfl rfl 0 (by decide) f_0 (fun _ h9 => h9) rfl (by decide +kernel) rfl rfl (Nat.le_of_ble_eq_true rfl) dX6_addBadge_2 (fun H locs hP hD hS => ?_)
  rw [wsM_TH] at hP hD
  have hP : va_P (dC, dI) vwCl (mb_w a k S 0) H := hP
  have hD : va_D A (mb_w a k S 0) := hD
  refine lv_iload_n hx hb dX6_addBadge_5 rfl (lv_at hl 1 rfl) ?_
  refine lv_bipush (v := nI 6) hx hb dX6_addBadge_6 (by decide) ?_
  refine lv_bipush (v := nI 17) hx hb dX6_addBadge_8 (by decide) ?_
  refine vp_callSi (W.runS (As := [.int x0, .int (nI 6), .int (nI 17)]) (rest := []) ⟨hx, hb, hml, hown, hts⟩ (c_X6_isIn l x0 (nI 6) (nI 17)) (va_cwS 3 hts gX6_addBadge_X6_isIn rfl rfl rfl (by decide +kernel) ⟨(Nat.le_of_ble_eq_true rfl), (Nat.le_of_ble_eq_true rfl)⟩) ⟨cN_blind, fun U hU hW => ⟨rfl, trivial⟩⟩ rfl rfl hl.1 rfl (lv_room (Nat.le_of_ble_eq_true rfl)) dX6_addBadge_10 ⟨(by show 0 + 0 ≤ 0; omega), (by show 0 + 0 ≤ 0; omega)⟩) (fun r er => ?_)
  subst er
  refine lv_if_ne (tgt := 22) hx hb dX6_addBadge_13 (by decide) (fun c_13 => ?_) (fun c_13 => ?_)
  · have c_13 : (inR x0 (nI 6) (nI 17)) = true := bI_n c_13
    refine lv_aload_n hx hb dX6_addBadge_22 rfl (lv_at hl 0 rfl) ?_
    refine va_get (D := (dC, dI)) (ci := 6) (v := .int (nI (c_nb S))) (C := RX6) (T := TX6) (N := 23) hx hb hts i_X6 hown hK hP 0 rfl rfl 20 (by decide) f_1 (fun _ h9 => h9) rfl dX6_addBadge_23 ?_
    refine lv_bipush (v := nI 8) hx hb dX6_addBadge_26 (by decide) ?_
    refine lv_icmp_ne (tgt := 37) hx hb dX6_addBadge_28 (by decide) (fun c_28 => ?_) (fun c_28 => ?_)
    · have c_28 : (c_nb S) ≠ 8 := cb_ne (by omega) (by omega) c_28
      have hq : c_nb S < 8 := by omega
      refine lv_aload_n hx hb dX6_addBadge_37 rfl (lv_at hl 0 rfl) ?_
      refine va_get (D := (dC, dI)) (ci := 6) (v := .ref (a 13)) (C := RX6) (T := TX6) (N := 23) hx hb hts i_X6 hown hK hP 0 rfl rfl 21 (by decide) f_2 (fun _ h9 => h9) rfl dX6_addBadge_38 ?_
      refine lv_aload_n hx hb dX6_addBadge_41 rfl (lv_at hl 0 rfl) ?_
      refine va_get (D := (dC, dI)) (ci := 6) (v := .int (nI (c_nb S))) (C := RX6) (T := TX6) (N := 23) hx hb hts i_X6 hown hK hP 0 rfl rfl 20 (by decide) f_1 (fun _ h9 => h9) rfl dX6_addBadge_42 ?_
      refine lv_iload_n hx hb dX6_addBadge_45 rfl (lv_at hl 1 rfl) ?_
      refine cb_iast hx hb hK hP hD hS 13 12 (f := c_lag S) rfl rfl (j := c_nb S) (by omega) (Nat.le_of_ble_eq_true rfl) dX6_addBadge_46 (fun H locs hP hD hS => ?_)
      rw [wsM_lag] at hP hD
      have hP : va_P (dC, dI) vwCl (mb_w a k (s_lag S (upd (c_lag S) (c_nb S) x0)) 0) H := hP
      have hD : va_D A (mb_w a k (s_lag S (upd (c_lag S) (c_nb S) x0)) 0) := hD
      refine lv_aload_n hx hb dX6_addBadge_47 rfl (lv_at hl 0 rfl) ?_
      refine lv_dup hx hb dX6_addBadge_48 rfl ?_
      refine va_get (D := (dC, dI)) (ci := 6) (v := .int (nI (c_nb S))) (C := RX6) (T := TX6) (N := 23) hx hb hts i_X6 hown hK hP 0 rfl rfl 20 (by decide) f_1 (fun _ h9 => h9) rfl dX6_addBadge_49 ?_
      refine lv_iconst (v := nI 1) hx hb dX6_addBadge_52 (by decide) ?_
      refine lv_iadd hx hb dX6_addBadge_53 ?_
      refine cb_topi (nI_add _ _) ?_
      refine va_put (D := (dC, dI)) (ci := 6) (v := .int (nI ((c_nb S) + 1))) (ty := .int) (C := RX6) (T := TX6) (N := 23) hx hb hts i_X6 tyX6 tyX6_ok nmX6 hown hK hP hD hS 0 rfl rfl 20 (by decide) f_1 (fun _ h9 => h9) rfl (by decide +kernel) rfl rfl (Nat.le_of_ble_eq_true rfl) dX6_addBadge_54 (fun H locs hP hD hS => ?_)
      rw [wsM_nb] at hP hD
      have hP : va_P (dC, dI) vwCl (mb_w a k (s_nb (s_lag S (upd (c_lag S) (c_nb S) x0)) ((c_nb S) + 1)) 0) H := hP
      have hD : va_D A (mb_w a k (s_nb (s_lag S (upd (c_lag S) (c_nb S) x0)) ((c_nb S) + 1)) 0) := hD
      refine lv_aload_n hx hb dX6_addBadge_57 rfl (lv_at hl 0 rfl) ?_
      refine va_get (D := (dC, dI)) (ci := 6) (v := .int (nI ((c_nb S) + 1))) (C := RX6) (T := TX6) (N := 23) hx hb hts i_X6 hown hK hP 0 rfl rfl 20 (by decide) f_1 (fun _ h9 => h9) rfl dX6_addBadge_58 ?_
      refine lv_iconst (v := nI 1) hx hb dX6_addBadge_61 (by decide) ?_
      refine lv_isub hx hb dX6_addBadge_62 ?_
      have hk9 : k_addBadge S x0 = 0 := by simp only [k_addBadge, c_13, hq, if_true, if_false, Bool.false_eq_true, true_or, or_true, false_or, or_false, reduceCtorEq]
      have ew : (mb_w a k (s_nb (s_lag S (upd (c_lag S) (c_nb S) x0)) ((c_nb S) + 1)) 0) = (mb_w a k (kS (k_addBadge S x0) (S_addBadge S x0) S) (k_addBadge S x0)) := (by rw [hk9, kS_0, S_addBadge]; first | done | rfl)
      have hP : va_P (dC, dI) vwCl (mb_w a k (kS (k_addBadge S x0) (S_addBadge S x0) S) (k_addBadge S x0)) H := by rw [← ew]; exact hP
      have hD : va_D A (mb_w a k (kS (k_addBadge S x0) (S_addBadge S x0) S) (k_addBadge S x0)) := by rw [← ew]; exact hD
      rw [hQ]
      refine W.widen (k := 0) (n := 0) (by omega) (by omega) ?_
      exact W.iret (v := (nI ((c_nb S) + 1)) - (nI 1)) hx hb hr (fun t9 ht9 hW9 => ⟨⟨(nI ((c_nb S) + 1)) - (nI 1), (), rfl, (fun _ => by rw [pk_sub (by omega)]; rfl), cB_of hP hK hD ht9 hW9⟩, hS.F ht9⟩) hS.2.2 dX6_addBadge_63
    · have c_28 : (c_nb S) = 8 := cb_nne (by omega) (by omega) c_28
      have hq : ¬ c_nb S < 8 := by omega
      refine lv_aload_n hx hb dX6_addBadge_31 rfl (lv_at hl 0 rfl) ?_
      refine lv_iconst (v := nI 2) hx hb dX6_addBadge_32 (by decide) ?_
      have hF_33 : ∀ q, va_A (mb_w a k S 0) H.size q → A q := va_free hD hS hA [0, 1, 2, 3, 4, 5, 6, 7, 8, 9, 10, 11, 12, 13, 14] rfl
      refine va_calli (va_runV (As := [.int (nI 2)]) (rest := []) ⟨hx, hb, hml, hown, hts⟩ (c_X6_no l dC dI a k S 0 H.size 2) (cwV 1 hts gX6_addBadge_X6_no rfl rfl rfl (by decide +kernel) ⟨(Nat.le_of_ble_eq_true rfl), (Nat.le_of_ble_eq_true rfl)⟩) ⟨cT_blind, va_recv hK hP (ci := 6) (q0 := 0) rfl rfl, fun U hU hW => ⟨rfl, cT_of hK hP hD hU hW⟩⟩ rfl rfl hl.1 rfl (lv_room (Nat.le_of_ble_eq_true rfl)) dX6_addBadge_33 ⟨(by show 0 + 0 ≤ 0; omega), (by show 0 + 0 ≤ 0; omega)⟩) hS (fun q _ h => hF_33 q h) hF_33 (fun r_33 u8 t8 H_33 L_33_ ht hvm hw hB hz1 hk1 hS => ?_)
      obtain ⟨hP, -, hD9⟩ := hB
      rw [ht] at hP
      have hD := hD9.weaken (B := A) (fun _ q _ h => hF_33 q.1 h)
      have hP : va_P (dC, dI) vwCl (mb_w a k S 2) H_33 := hP
      have hD : va_D A (mb_w a k S 2) := hD
      subst hw
      have hk9 : k_addBadge S x0 = 2 := by simp only [k_addBadge, c_13, hq, if_true, if_false, Bool.false_eq_true, true_or, or_true, false_or, or_false, reduceCtorEq]
      have ew : (mb_w a k S 2) = (mb_w a k (kS (k_addBadge S x0) (S_addBadge S x0) S) (k_addBadge S x0)) := (by rw [hk9]; first | done | rfl)
      have hP : va_P (dC, dI) vwCl (mb_w a k (kS (k_addBadge S x0) (S_addBadge S x0) S) (k_addBadge S x0)) H_33 := by rw [← ew]; exact hP
      have hD : va_D A (mb_w a k (kS (k_addBadge S x0) (S_addBadge S x0) S) (k_addBadge S x0)) := by rw [← ew]; exact hD
      rw [hQ]
      refine W.widen (k := 0) (n := 0) (by omega) (by omega) ?_
      exact W.iret (v := nI 0) hx hb hr (fun t9 ht9 hW9 => ⟨⟨nI 0, (), rfl, (fun h => absurd (hk9.symm.trans h) (by decide)), cB_of hP hK hD ht9 hW9⟩, hS.F ht9⟩) hS.2.2 dX6_addBadge_36
  · have c_13 : (inR x0 (nI 6) (nI 17)) = false := bI_0 c_13
    refine lv_aload_n hx hb dX6_addBadge_16 rfl (lv_at hl 0 rfl) ?_
    refine lv_iconst (v := nI 1) hx hb dX6_addBadge_17 (by decide) ?_
    have hF_18 : ∀ q, va_A (mb_w a k S 0) H.size q → A q := va_free hD hS hA [0, 1, 2, 3, 4, 5, 6, 7, 8, 9, 10, 11, 12, 13, 14] rfl
    refine va_calli (va_runV (As := [.int (nI 1)]) (rest := []) ⟨hx, hb, hml, hown, hts⟩ (c_X6_no l dC dI a k S 0 H.size 1) (cwV 1 hts gX6_addBadge_X6_no rfl rfl rfl (by decide +kernel) ⟨(Nat.le_of_ble_eq_true rfl), (Nat.le_of_ble_eq_true rfl)⟩) ⟨cT_blind, va_recv hK hP (ci := 6) (q0 := 0) rfl rfl, fun U hU hW => ⟨rfl, cT_of hK hP hD hU hW⟩⟩ rfl rfl hl.1 rfl (lv_room (Nat.le_of_ble_eq_true rfl)) dX6_addBadge_18 ⟨(by show 0 + 0 ≤ 0; omega), (by show 0 + 0 ≤ 0; omega)⟩) hS (fun q _ h => hF_18 q h) hF_18 (fun r_18 u8 t8 H_18 L_18_ ht hvm hw hB hz1 hk1 hS => ?_)
    obtain ⟨hP, -, hD9⟩ := hB
    rw [ht] at hP
    have hD := hD9.weaken (B := A) (fun _ q _ h => hF_18 q.1 h)
    have hP : va_P (dC, dI) vwCl (mb_w a k S 1) H_18 := hP
    have hD : va_D A (mb_w a k S 1) := hD
    subst hw
    have hk9 : k_addBadge S x0 = 1 := by simp only [k_addBadge, c_13, if_true, if_false, Bool.false_eq_true, true_or, or_true, false_or, or_false, reduceCtorEq]
    have ew : (mb_w a k S 1) = (mb_w a k (kS (k_addBadge S x0) (S_addBadge S x0) S) (k_addBadge S x0)) := (by rw [hk9]; first | done | rfl)
    have hP : va_P (dC, dI) vwCl (mb_w a k (kS (k_addBadge S x0) (S_addBadge S x0) S) (k_addBadge S x0)) H_18 := by rw [← ew]; exact hP
    have hD : va_D A (mb_w a k (kS (k_addBadge S x0) (S_addBadge S x0) S) (k_addBadge S x0)) := by rw [← ew]; exact hD
    rw [hQ]
    refine W.widen (k := 0) (n := 0) (by omega) (by omega) ?_
    exact W.iret (v := nI 0) hx hb hr (fun t9 ht9 hW9 => ⟨⟨nI 0, (), rfl, (fun h => absurd (hk9.symm.trans h) (by decide)), cB_of hP hK hD ht9 hW9⟩, hS.F ht9⟩) hS.2.2 dX6_addBadge_21
abbrev rm_X6_want : Room := { frames := 2, cells := 0, slots := 0, locals := 43 }
set_option maxHeartbeats 4000000 in
set_option maxRecDepth 100000 in
theorem c_X6_want (l : Launch) (dC : Nat → ClassId) (dI : Nat → Nat → Nat) (a : Nat → Nat) (k : Nat → ClassId) (S : cs_S) (th : Nat) (sz : Nat) (x0 : Int32) (x1 : Int32) (x2 : Int32) (hI : Inv S) : Met l yX6_want wsX6_want rm_X6_want (va_Pc [.ref (a 0), .int x0, .int x1, .int x2] (cT dC dI sz (mb_w a k S th) (mb_ty k))) (va_Qi (fun (r : Int32) (_ : Unit) => (k_want S x0 x1 x2 = 0 → r = r_want S x0 x1)) (fun _ t => cB dC dI (va_A (mb_w a k S th) sz) (mb_w a k (kS (k_want S x0 x1 x2) (S_want S x0 x1 x2) S) (k_want S x0 x1 x2)) (mb_ty k) t) (va_A (mb_w a k S th) sz)) 0 0 (va_A (mb_w a k S th) sz) := by
  refine Met.ofW (cc := cX6_want) (maxL := 5) (ret := (some .int)) (by decide) rfl ?_
  intro p e s m args below meth c s₁ B hml hv
  obtain ⟨rfl, hsz, hP, hK, hD0⟩ := hv
  have hx := B.exec
  have hb := B.bytes
  have hr := B.returns
  have hts := atoms_spec (ws := wsX6_want) B.pre
  have hown : s.vm.findClass RX6 = some m.cls := findClass_of_methodNamed B.named
  have hlocks := B.notSynchronized
  subst hsz
  have hD := hD0.self (sz := s.heap.size)
  generalize hAe : va_A (mb_w a k S th) s.heap.size = A at hD ⊢
  have hA : ∀ q : Nat, s.heap.size ≤ q → A q := fun q h => by rw [← hAe]; exact Or.inr h
  have hS : va_S A s.heap s.heap [] := va_S.rf
  obtain ⟨Q, hQ⟩ : ∃ Q, Q = MQ below (va_Qi (fun (r : Int32) (_ : Unit) => (k_want S x0 x1 x2 = 0 → r = r_want S x0 x1)) (fun _ t => cB dC dI A (mb_w a k (kS (k_want S x0 x1 x2) (S_want S x0 x1 x2) S) (k_want S x0 x1 x2)) (mb_ty k) t) A) ([.ref (a 0), .int x0, .int x1, .int x2] : List Value).toArray s 0 0 A := ⟨_, rfl⟩
  show W p l e rm_X6_want s m _ below meth c s.heap [] 0 0 (MQ below _ _ _ _ _ _) _
  rw [← hQ]
  have i_X6 : ∀ w ∈ wsX60, w ∈ wsX6_want := fun w h => List.mem_cons_of_mem _ (List.mem_append_right _ h)
  obtain ⟨⟨hday, hnp, hns, hnt, hnf, hnm, hnb, hme⟩, hpat, hage, hten, hcnt, hplc, heat, hned, hhld, hbad, hbad0, hbag⟩ := id hI
  have f_0 := hts (.fieldLink RX6 53 "CampBookModel" "thrown" "I") (by decide +kernel)
  have f_1 := hts (.fieldLink RX6 50 "CampBookModel" "wants" "[I") (by decide +kernel)
  have hl := lv_entry ([.ref (a 0), .int x0, .int x1, .int x2]) (n := 5) (Nat.le_of_ble_eq_true rfl)
  rw [lg_entry_eq]
  generalize (lg_sl ([.ref (a 0), .int x0, .int x1, .int x2]) ++ List.replicate (5 - (lg_sl ([.ref (a 0), .int x0, .int x1, .int x2])).length) Slot.unset).toArray = ls at hl ⊢
  have hl : lv_has ls 5 [(0, .ref (a 0)), (1, .int x0), (2, .int x1), (3, .int x2)] := hl
  refine lv_aload_n hx hb dX6_want_0 rfl (lv_at hl 0 rfl) ?_
  refine lv_iconst (v := nI 0) hx hb dX6_want_1 (by decide) ?_
  refine va_put (D := (dC, dI)) (ci := 6) (v := .int (nI 0)) (ty := .int) (C := RX6) (T := TX6) (N := 23) hx hb hts i_X6 tyX6 tyX6_ok nmX6 hown hK hP hD hS 0 rfl rfl 0 (by decide) f_0 (fun _ h9 => h9) rfl (by decide +kernel) rfl rfl (Nat.le_of_ble_eq_true rfl) dX6_want_2 (fun H locs hP hD hS => ?_)
  rw [wsM_TH] at hP hD
  have hP : va_P (dC, dI) vwCl (mb_w a k S 0) H := hP
  have hD : va_D A (mb_w a k S 0) := hD
  refine lv_aload_n hx hb dX6_want_5 rfl (lv_at hl 0 rfl) ?_
  refine lv_iload_n hx hb dX6_want_6 rfl (lv_at hl 1 rfl) ?_
  refine vp_callSi (W.runV (As := [.int x0]) (rest := []) ⟨hx, hb, hml, hown, hts⟩ (c_X6_isBadge l dC dI a k S 0 x0 hI) (cwV 1 hts gX6_want_X6_isBadge rfl rfl rfl (by decide +kernel) ⟨(Nat.le_of_ble_eq_true rfl), (Nat.le_of_ble_eq_true rfl)⟩) ⟨cR_blind, va_recv hK hP (ci := 6) (q0 := 0) rfl rfl, fun U hU hW => ⟨rfl, cR_of hK hP hU hW⟩⟩ rfl rfl hl.1 rfl (lv_room (Nat.le_of_ble_eq_true rfl)) dX6_want_7 ⟨(by show 0 + 0 ≤ 0; omega), (by show 0 + 0 ≤ 0; omega)⟩) (fun r er => ?_)
  subst er
  refine lv_if_eq (tgt := 20) hx hb dX6_want_10 (by decide) (fun c_10 => ?_) (fun c_10 => ?_)
  · have c_10 : (ix x0 (c_nb S)) = false := bI_0 c_10
    refine lv_aload_n hx hb dX6_want_20 rfl (lv_at hl 0 rfl) ?_
    refine lv_iconst (v := nI 1) hx hb dX6_want_21 (by decide) ?_
    have hF_22 : ∀ q, va_A (mb_w a k S 0) H.size q → A q := va_free hD hS hA [0, 1, 2, 3, 4, 5, 6, 7, 8, 9, 10, 11, 12, 13, 14] rfl
    refine va_calli (va_runV (As := [.int (nI 1)]) (rest := []) ⟨hx, hb, hml, hown, hts⟩ (c_X6_no l dC dI a k S 0 H.size 1) (cwV 1 hts gX6_want_X6_no rfl rfl rfl (by decide +kernel) ⟨(Nat.le_of_ble_eq_true rfl), (Nat.le_of_ble_eq_true rfl)⟩) ⟨cT_blind, va_recv hK hP (ci := 6) (q0 := 0) rfl rfl, fun U hU hW => ⟨rfl, cT_of hK hP hD hU hW⟩⟩ rfl rfl hl.1 rfl (lv_room (Nat.le_of_ble_eq_true rfl)) dX6_want_22 ⟨(by show 0 + 0 ≤ 0; omega), (by show 0 + 0 ≤ 0; omega)⟩) hS (fun q _ h => hF_22 q h) hF_22 (fun r_22 u8 t8 H_22 L_22_ ht hvm hw hB hz1 hk1 hS => ?_)
    obtain ⟨hP, -, hD9⟩ := hB
    rw [ht] at hP
    have hD := hD9.weaken (B := A) (fun _ q _ h => hF_22 q.1 h)
    have hP : va_P (dC, dI) vwCl (mb_w a k S 1) H_22 := hP
    have hD : va_D A (mb_w a k S 1) := hD
    subst hw
    have hk9 : k_want S x0 x1 x2 = 1 := by simp only [k_want, c_10, if_true, if_false, Bool.false_eq_true, true_or, or_true, false_or, or_false, reduceCtorEq]
    have ew : (mb_w a k S 1) = (mb_w a k (kS (k_want S x0 x1 x2) (S_want S x0 x1 x2) S) (k_want S x0 x1 x2)) := (by rw [hk9]; first | done | rfl)
    have hP : va_P (dC, dI) vwCl (mb_w a k (kS (k_want S x0 x1 x2) (S_want S x0 x1 x2) S) (k_want S x0 x1 x2)) H_22 := by rw [← ew]; exact hP
    have hD : va_D A (mb_w a k (kS (k_want S x0 x1 x2) (S_want S x0 x1 x2) S) (k_want S x0 x1 x2)) := by rw [← ew]; exact hD
    rw [hQ]
    refine W.widen (k := 0) (n := 0) (by omega) (by omega) ?_
    exact W.iret (v := nI 0) hx hb hr (fun t9 ht9 hW9 => ⟨⟨nI 0, (), rfl, (fun h => absurd (hk9.symm.trans h) (by decide)), cB_of hP hK hD ht9 hW9⟩, hS.F ht9⟩) hS.2.2 dX6_want_25
  · have c_10 : (ix x0 (c_nb S)) = true := bI_n c_10
    obtain ⟨bb, hbb, ebb⟩ := ix_t c_10 (by omega)
    rw [ebb] at hl
    have tbb : toN x0 = bb := by rw [ebb]; exact tn (by omega)
    refine lv_iload_n hx hb dX6_want_13 rfl (lv_at hl 2 rfl) ?_
    refine vp_callSi (W.runS (As := [.int x1]) (rest := []) ⟨hx, hb, hml, hown, hts⟩ (c_X6_isActivity l x1) (va_cwS 1 hts gX6_want_X6_isActivity rfl rfl rfl (by decide +kernel) ⟨(Nat.le_of_ble_eq_true rfl), (Nat.le_of_ble_eq_true rfl)⟩) ⟨cN_blind, fun U hU hW => ⟨rfl, trivial⟩⟩ rfl rfl hl.1 rfl (lv_room (Nat.le_of_ble_eq_true rfl)) dX6_want_14 ⟨(by show 0 + 0 ≤ 0; omega), (by show 0 + 0 ≤ 0; omega)⟩) (fun r er => ?_)
    subst er
    refine lv_if_ne (tgt := 26) hx hb dX6_want_17 (by decide) (fun c_17 => ?_) (fun c_17 => ?_)
    · have c_17 : (ix x1 10) = true := bI_n c_17
      obtain ⟨jj, hjj, ejj⟩ := ix_t c_17 (by omega)
      rw [ejj] at hl
      have tjj : toN x1 = jj := by rw [ejj]; exact tn (by omega)
      refine lv_iload_n hx hb dX6_want_26 rfl (lv_at hl 3 rfl) ?_
      refine lv_iconst (v := nI 0) hx hb dX6_want_27 (by decide) ?_
      refine lv_bipush (v := nI 100) hx hb dX6_want_28 (by decide) ?_
      refine vp_callSi (W.runS (As := [.int x2, .int (nI 0), .int (nI 100)]) (rest := []) ⟨hx, hb, hml, hown, hts⟩ (c_X6_isIn l x2 (nI 0) (nI 100)) (va_cwS 3 hts gX6_want_X6_isIn rfl rfl rfl (by decide +kernel) ⟨(Nat.le_of_ble_eq_true rfl), (Nat.le_of_ble_eq_true rfl)⟩) ⟨cN_blind, fun U hU hW => ⟨rfl, trivial⟩⟩ rfl rfl hl.1 rfl (lv_room (Nat.le_of_ble_eq_true rfl)) dX6_want_30 ⟨(by show 0 + 0 ≤ 0; omega), (by show 0 + 0 ≤ 0; omega)⟩) (fun r er => ?_)
      subst er
      refine lv_if_ne (tgt := 42) hx hb dX6_want_33 (by decide) (fun c_33 => ?_) (fun c_33 => ?_)
      · have c_33 : (inR x2 (nI 0) (nI 100)) = true := bI_n c_33
        refine lv_aload_n hx hb dX6_want_42 rfl (lv_at hl 0 rfl) ?_
        refine va_get (D := (dC, dI)) (ci := 6) (v := .ref (a 14)) (C := RX6) (T := TX6) (N := 23) hx hb hts i_X6 hown hK hP 0 rfl rfl 22 (by decide) f_1 (fun _ h9 => h9) rfl dX6_want_43 ?_
        refine lv_bipush (v := nI 10) hx hb dX6_want_46 (by decide) ?_
        refine lv_iload_n hx hb dX6_want_48 rfl (lv_at hl 1 rfl) ?_
        refine lv_imul hx hb dX6_want_49 ?_
        refine cb_topi (pk_mul _ _) ?_
        refine lv_iload_n hx hb dX6_want_50 rfl (lv_at hl 2 rfl) ?_
        refine lv_iadd hx hb dX6_want_51 ?_
        refine cb_topi (nI_add _ _) ?_
        refine cb_topi (z := nI (bb * 10 + jj)) (congrArg nI (by omega)) ?_
        refine cb_iald hx hb hK hP 14 13 (f := c_wnt S) rfl rfl (j := bb * 10 + jj) (by omega) (Nat.le_of_ble_eq_true rfl) dX6_want_52 ?_
        refine lv_istore (lv' := [(4, .int (c_wnt S (bb * 10 + jj))), (0, .ref (a 0)), (1, .int (nI bb)), (2, .int (nI jj)), (3, .int x2)]) hx hb dX6_want_53 hl (by decide) rfl (fun ls hl => ?_)
        refine lv_aload_n hx hb dX6_want_55 rfl (lv_at hl 1 rfl) ?_
        refine va_get (D := (dC, dI)) (ci := 6) (v := .ref (a 14)) (C := RX6) (T := TX6) (N := 23) hx hb hts i_X6 hown hK hP 0 rfl rfl 22 (by decide) f_1 (fun _ h9 => h9) rfl dX6_want_56 ?_
        refine lv_bipush (v := nI 10) hx hb dX6_want_59 (by decide) ?_
        refine lv_iload_n hx hb dX6_want_61 rfl (lv_at hl 2 rfl) ?_
        refine lv_imul hx hb dX6_want_62 ?_
        refine cb_topi (pk_mul _ _) ?_
        refine lv_iload_n hx hb dX6_want_63 rfl (lv_at hl 3 rfl) ?_
        refine lv_iadd hx hb dX6_want_64 ?_
        refine cb_topi (nI_add _ _) ?_
        refine cb_topi (z := nI (bb * 10 + jj)) (congrArg nI (by omega)) ?_
        refine lv_iload_n hx hb dX6_want_65 rfl (lv_at hl 4 rfl) ?_
        refine cb_iast hx hb hK hP hD hS 14 13 (f := c_wnt S) rfl rfl (j := bb * 10 + jj) (by omega) (Nat.le_of_ble_eq_true rfl) dX6_want_66 (fun H locs hP hD hS => ?_)
        rw [wsM_wnt] at hP hD
        have hP : va_P (dC, dI) vwCl (mb_w a k (s_wnt S (upd (c_wnt S) (bb * 10 + jj) x2)) 0) H := hP
        have hD : va_D A (mb_w a k (s_wnt S (upd (c_wnt S) (bb * 10 + jj) x2)) 0) := hD
        refine lv_iload hx hb dX6_want_67 (lv_at hl 0 rfl) ?_
        have hk9 : k_want S x0 x1 x2 = 0 := by simp only [k_want, c_10, c_17, c_33, tbb, tjj, if_true, if_false, Bool.false_eq_true, true_or, or_true, false_or, or_false, reduceCtorEq]
        have ew : (mb_w a k (s_wnt S (upd (c_wnt S) (bb * 10 + jj) x2)) 0) = (mb_w a k (kS (k_want S x0 x1 x2) (S_want S x0 x1 x2) S) (k_want S x0 x1 x2)) := (by rw [hk9, kS_0, S_want, tbb, tjj]; first | done | rfl)
        have hP : va_P (dC, dI) vwCl (mb_w a k (kS (k_want S x0 x1 x2) (S_want S x0 x1 x2) S) (k_want S x0 x1 x2)) H := by rw [← ew]; exact hP
        have hD : va_D A (mb_w a k (kS (k_want S x0 x1 x2) (S_want S x0 x1 x2) S) (k_want S x0 x1 x2)) := by rw [← ew]; exact hD
        rw [hQ]
        refine W.widen (k := 0) (n := 0) (by omega) (by omega) ?_
        exact W.iret (v := c_wnt S (bb * 10 + jj)) hx hb hr (fun t9 ht9 hW9 => ⟨⟨c_wnt S (bb * 10 + jj), (), rfl, (fun _ => by rw [r_want, tbb, tjj]), cB_of hP hK hD ht9 hW9⟩, hS.F ht9⟩) hS.2.2 dX6_want_69
      · have c_33 : (inR x2 (nI 0) (nI 100)) = false := bI_0 c_33
        refine lv_aload_n hx hb dX6_want_36 rfl (lv_at hl 0 rfl) ?_
        refine lv_iconst (v := nI 2) hx hb dX6_want_37 (by decide) ?_
        have hF_38 : ∀ q, va_A (mb_w a k S 0) H.size q → A q := va_free hD hS hA [0, 1, 2, 3, 4, 5, 6, 7, 8, 9, 10, 11, 12, 13, 14] rfl
        refine va_calli (va_runV (As := [.int (nI 2)]) (rest := []) ⟨hx, hb, hml, hown, hts⟩ (c_X6_no l dC dI a k S 0 H.size 2) (cwV 1 hts gX6_want_X6_no rfl rfl rfl (by decide +kernel) ⟨(Nat.le_of_ble_eq_true rfl), (Nat.le_of_ble_eq_true rfl)⟩) ⟨cT_blind, va_recv hK hP (ci := 6) (q0 := 0) rfl rfl, fun U hU hW => ⟨rfl, cT_of hK hP hD hU hW⟩⟩ rfl rfl hl.1 rfl (lv_room (Nat.le_of_ble_eq_true rfl)) dX6_want_38 ⟨(by show 0 + 0 ≤ 0; omega), (by show 0 + 0 ≤ 0; omega)⟩) hS (fun q _ h => hF_38 q h) hF_38 (fun r_38 u8 t8 H_38 L_38_ ht hvm hw hB hz1 hk1 hS => ?_)
        obtain ⟨hP, -, hD9⟩ := hB
        rw [ht] at hP
        have hD := hD9.weaken (B := A) (fun _ q _ h => hF_38 q.1 h)
        have hP : va_P (dC, dI) vwCl (mb_w a k S 2) H_38 := hP
        have hD : va_D A (mb_w a k S 2) := hD
        subst hw
        have hk9 : k_want S x0 x1 x2 = 2 := by simp only [k_want, c_10, c_17, c_33, tbb, tjj, if_true, if_false, Bool.false_eq_true, true_or, or_true, false_or, or_false, reduceCtorEq]
        have ew : (mb_w a k S 2) = (mb_w a k (kS (k_want S x0 x1 x2) (S_want S x0 x1 x2) S) (k_want S x0 x1 x2)) := (by rw [hk9]; first | done | rfl)
        have hP : va_P (dC, dI) vwCl (mb_w a k (kS (k_want S x0 x1 x2) (S_want S x0 x1 x2) S) (k_want S x0 x1 x2)) H_38 := by rw [← ew]; exact hP
        have hD : va_D A (mb_w a k (kS (k_want S x0 x1 x2) (S_want S x0 x1 x2) S) (k_want S x0 x1 x2)) := by rw [← ew]; exact hD
        rw [hQ]
        refine W.widen (k := 0) (n := 0) (by omega) (by omega) ?_
        exact W.iret (v := nI 0) hx hb hr (fun t9 ht9 hW9 => ⟨⟨nI 0, (), rfl, (fun h => absurd (hk9.symm.trans h) (by decide)), cB_of hP hK hD ht9 hW9⟩, hS.F ht9⟩) hS.2.2 dX6_want_41
    · have c_17 : (ix x1 10) = false := bI_0 c_17
      refine lv_aload_n hx hb dX6_want_20 rfl (lv_at hl 0 rfl) ?_
      refine lv_iconst (v := nI 1) hx hb dX6_want_21 (by decide) ?_
      have hF_22 : ∀ q, va_A (mb_w a k S 0) H.size q → A q := va_free hD hS hA [0, 1, 2, 3, 4, 5, 6, 7, 8, 9, 10, 11, 12, 13, 14] rfl
      refine va_calli (va_runV (As := [.int (nI 1)]) (rest := []) ⟨hx, hb, hml, hown, hts⟩ (c_X6_no l dC dI a k S 0 H.size 1) (cwV 1 hts gX6_want_X6_no rfl rfl rfl (by decide +kernel) ⟨(Nat.le_of_ble_eq_true rfl), (Nat.le_of_ble_eq_true rfl)⟩) ⟨cT_blind, va_recv hK hP (ci := 6) (q0 := 0) rfl rfl, fun U hU hW => ⟨rfl, cT_of hK hP hD hU hW⟩⟩ rfl rfl hl.1 rfl (lv_room (Nat.le_of_ble_eq_true rfl)) dX6_want_22 ⟨(by show 0 + 0 ≤ 0; omega), (by show 0 + 0 ≤ 0; omega)⟩) hS (fun q _ h => hF_22 q h) hF_22 (fun r_22 u8 t8 H_22 L_22_ ht hvm hw hB hz1 hk1 hS => ?_)
      obtain ⟨hP, -, hD9⟩ := hB
      rw [ht] at hP
      have hD := hD9.weaken (B := A) (fun _ q _ h => hF_22 q.1 h)
      have hP : va_P (dC, dI) vwCl (mb_w a k S 1) H_22 := hP
      have hD : va_D A (mb_w a k S 1) := hD
      subst hw
      have hk9 : k_want S x0 x1 x2 = 1 := by simp only [k_want, c_10, c_17, tbb, if_true, if_false, Bool.false_eq_true, true_or, or_true, false_or, or_false, reduceCtorEq]
      have ew : (mb_w a k S 1) = (mb_w a k (kS (k_want S x0 x1 x2) (S_want S x0 x1 x2) S) (k_want S x0 x1 x2)) := (by rw [hk9]; first | done | rfl)
      have hP : va_P (dC, dI) vwCl (mb_w a k (kS (k_want S x0 x1 x2) (S_want S x0 x1 x2) S) (k_want S x0 x1 x2)) H_22 := by rw [← ew]; exact hP
      have hD : va_D A (mb_w a k (kS (k_want S x0 x1 x2) (S_want S x0 x1 x2) S) (k_want S x0 x1 x2)) := by rw [← ew]; exact hD
      rw [hQ]
      refine W.widen (k := 0) (n := 0) (by omega) (by omega) ?_
      exact W.iret (v := nI 0) hx hb hr (fun t9 ht9 hW9 => ⟨⟨nI 0, (), rfl, (fun h => absurd (hk9.symm.trans h) (by decide)), cB_of hP hK hD ht9 hW9⟩, hS.F ht9⟩) hS.2.2 dX6_want_25
abbrev rm_X6_practise : Room := { frames := 2, cells := 0, slots := 0, locals := 43 }
set_option maxHeartbeats 4000000 in
set_option maxRecDepth 100000 in
theorem c_X6_practise (l : Launch) (dC : Nat → ClassId) (dI : Nat → Nat → Nat) (a : Nat → Nat) (k : Nat → ClassId) (S : cs_S) (th : Nat) (sz : Nat) (x0 : Int32) (x1 : Int32) (x2 : Int32) (hI : Inv S) : Met l yX6_practise wsX6_practise rm_X6_practise (va_Pc [.ref (a 0), .int x0, .int x1, .int x2] (cT dC dI sz (mb_w a k S th) (mb_ty k))) (va_Qi (fun (r : Int32) (_ : Unit) => (k_practise S x0 x1 x2 = 0 → r = r_practise S x0)) (fun _ t => cB dC dI (va_A (mb_w a k S th) sz) (mb_w a k (kS (k_practise S x0 x1 x2) (S_practise S x0 x1 x2) S) (k_practise S x0 x1 x2)) (mb_ty k) t) (va_A (mb_w a k S th) sz)) 0 0 (va_A (mb_w a k S th) sz) := by
  refine Met.ofW (cc := cX6_practise) (maxL := 6) (ret := (some .int)) (by decide) rfl ?_
  intro p e s m args below meth c s₁ B hml hv
  obtain ⟨rfl, hsz, hP, hK, hD0⟩ := hv
  have hx := B.exec
  have hb := B.bytes
  have hr := B.returns
  have hts := atoms_spec (ws := wsX6_practise) B.pre
  have hown : s.vm.findClass RX6 = some m.cls := findClass_of_methodNamed B.named
  have hlocks := B.notSynchronized
  subst hsz
  have hD := hD0.self (sz := s.heap.size)
  generalize hAe : va_A (mb_w a k S th) s.heap.size = A at hD ⊢
  have hA : ∀ q : Nat, s.heap.size ≤ q → A q := fun q h => by rw [← hAe]; exact Or.inr h
  have hS : va_S A s.heap s.heap [] := va_S.rf
  obtain ⟨Q, hQ⟩ : ∃ Q, Q = MQ below (va_Qi (fun (r : Int32) (_ : Unit) => (k_practise S x0 x1 x2 = 0 → r = r_practise S x0)) (fun _ t => cB dC dI A (mb_w a k (kS (k_practise S x0 x1 x2) (S_practise S x0 x1 x2) S) (k_practise S x0 x1 x2)) (mb_ty k) t) A) ([.ref (a 0), .int x0, .int x1, .int x2] : List Value).toArray s 0 0 A := ⟨_, rfl⟩
  show W p l e rm_X6_practise s m _ below meth c s.heap [] 0 0 (MQ below _ _ _ _ _ _) _
  rw [← hQ]
  have i_X6 : ∀ w ∈ wsX60, w ∈ wsX6_practise := fun w h => List.mem_cons_of_mem _ (List.mem_append_right _ h)
  obtain ⟨⟨hday, hnp, hns, hnt, hnf, hnm, hnb, hme⟩, hpat, hage, hten, hcnt, hplc, heat, hned, hhld, hbad, hbad0, hbag⟩ := id hI
  have f_0 := hts (.fieldLink RX6 53 "CampBookModel" "thrown" "I") (by decide +kernel)
  have f_1 := hts (.fieldLink RX6 64 "CampBookModel" "scouts" "I") (by decide +kernel)
  have f_2 := hts (.fieldLink RX6 9 "CampBookModel" "patrolOf" "[I") (by decide +kernel)
  have f_3 := hts (.fieldLink RX6 28 "CampBookModel" "hours" "[I") (by decide +kernel)
  have hl := lv_entry ([.ref (a 0), .int x0, .int x1, .int x2]) (n := 6) (Nat.le_of_ble_eq_true rfl)
  rw [lg_entry_eq]
  generalize (lg_sl ([.ref (a 0), .int x0, .int x1, .int x2]) ++ List.replicate (6 - (lg_sl ([.ref (a 0), .int x0, .int x1, .int x2])).length) Slot.unset).toArray = ls at hl ⊢
  have hl : lv_has ls 6 [(0, .ref (a 0)), (1, .int x0), (2, .int x1), (3, .int x2)] := hl
  refine lv_aload_n hx hb dX6_practise_0 rfl (lv_at hl 0 rfl) ?_
  refine lv_iconst (v := nI 0) hx hb dX6_practise_1 (by decide) ?_
  refine va_put (D := (dC, dI)) (ci := 6) (v := .int (nI 0)) (ty := .int) (C := RX6) (T := TX6) (N := 23) hx hb hts i_X6 tyX6 tyX6_ok nmX6 hown hK hP hD hS 0 rfl rfl 0 (by decide) f_0 (fun _ h9 => h9) rfl (by decide +kernel) rfl rfl (Nat.le_of_ble_eq_true rfl) dX6_practise_2 (fun H locs hP hD hS => ?_)
  rw [wsM_TH] at hP hD
  have hP : va_P (dC, dI) vwCl (mb_w a k S 0) H := hP
  have hD : va_D A (mb_w a k S 0) := hD
  refine lv_aload_n hx hb dX6_practise_5 rfl (lv_at hl 0 rfl) ?_
  refine lv_iload_n hx hb dX6_practise_6 rfl (lv_at hl 1 rfl) ?_
  refine vp_callSi (W.runV (As := [.int x0]) (rest := []) ⟨hx, hb, hml, hown, hts⟩ (c_X6_isPatrol l dC dI a k S 0 x0 hI) (cwV 1 hts gX6_practise_X6_isPatrol rfl rfl rfl (by decide +kernel) ⟨(Nat.le_of_ble_eq_true rfl), (Nat.le_of_ble_eq_true rfl)⟩) ⟨cR_blind, va_recv hK hP (ci := 6) (q0 := 0) rfl rfl, fun U hU hW => ⟨rfl, cR_of hK hP hU hW⟩⟩ rfl rfl hl.1 rfl (lv_room (Nat.le_of_ble_eq_true rfl)) dX6_practise_7 ⟨(by show 0 + 0 ≤ 0; omega), (by show 0 + 0 ≤ 0; omega)⟩) (fun r er => ?_)
  subst er
  refine lv_if_eq (tgt := 20) hx hb dX6_practise_10 (by decide) (fun c_10 => ?_) (fun c_10 => ?_)
  · have c_10 : (ix x0 (c_np S)) = false := bI_0 c_10
    refine lv_aload_n hx hb dX6_practise_20 rfl (lv_at hl 0 rfl) ?_
    refine lv_iconst (v := nI 1) hx hb dX6_practise_21 (by decide) ?_
    have hF_22 : ∀ q, va_A (mb_w a k S 0) H.size q → A q := va_free hD hS hA [0, 1, 2, 3, 4, 5, 6, 7, 8, 9, 10, 11, 12, 13, 14] rfl
    refine va_calli (va_runV (As := [.int (nI 1)]) (rest := []) ⟨hx, hb, hml, hown, hts⟩ (c_X6_no l dC dI a k S 0 H.size 1) (cwV 1 hts gX6_practise_X6_no rfl rfl rfl (by decide +kernel) ⟨(Nat.le_of_ble_eq_true rfl), (Nat.le_of_ble_eq_true rfl)⟩) ⟨cT_blind, va_recv hK hP (ci := 6) (q0 := 0) rfl rfl, fun U hU hW => ⟨rfl, cT_of hK hP hD hU hW⟩⟩ rfl rfl hl.1 rfl (lv_room (Nat.le_of_ble_eq_true rfl)) dX6_practise_22 ⟨(by show 0 + 0 ≤ 0; omega), (by show 0 + 0 ≤ 0; omega)⟩) hS (fun q _ h => hF_22 q h) hF_22 (fun r_22 u8 t8 H_22 L_22_ ht hvm hw hB hz1 hk1 hS => ?_)
    obtain ⟨hP, -, hD9⟩ := hB
    rw [ht] at hP
    have hD := hD9.weaken (B := A) (fun _ q _ h => hF_22 q.1 h)
    have hP : va_P (dC, dI) vwCl (mb_w a k S 1) H_22 := hP
    have hD : va_D A (mb_w a k S 1) := hD
    subst hw
    have hk9 : k_practise S x0 x1 x2 = 1 := by simp only [k_practise, c_10, if_true, if_false, Bool.false_eq_true, true_or, or_true, false_or, or_false, reduceCtorEq]
    have ew : (mb_w a k S 1) = (mb_w a k (kS (k_practise S x0 x1 x2) (S_practise S x0 x1 x2) S) (k_practise S x0 x1 x2)) := (by rw [hk9]; first | done | rfl)
    have hP : va_P (dC, dI) vwCl (mb_w a k (kS (k_practise S x0 x1 x2) (S_practise S x0 x1 x2) S) (k_practise S x0 x1 x2)) H_22 := by rw [← ew]; exact hP
    have hD : va_D A (mb_w a k (kS (k_practise S x0 x1 x2) (S_practise S x0 x1 x2) S) (k_practise S x0 x1 x2)) := by rw [← ew]; exact hD
    rw [hQ]
    refine W.widen (k := 0) (n := 0) (by omega) (by omega) ?_
    exact W.iret (v := nI 0) hx hb hr (fun t9 ht9 hW9 => ⟨⟨nI 0, (), rfl, (fun h => absurd (hk9.symm.trans h) (by decide)), cB_of hP hK hD ht9 hW9⟩, hS.F ht9⟩) hS.2.2 dX6_practise_25
  · have c_10 : (ix x0 (c_np S)) = true := bI_n c_10
    obtain ⟨pp, hpp, epp⟩ := ix_t c_10 (by omega)
    rw [epp] at hl
    have tpp : toN x0 = pp := by rw [epp]; exact tn (by omega)
    refine lv_iload_n hx hb dX6_practise_13 rfl (lv_at hl 2 rfl) ?_
    refine vp_callSi (W.runS (As := [.int x1]) (rest := []) ⟨hx, hb, hml, hown, hts⟩ (c_X6_isActivity l x1) (va_cwS 1 hts gX6_practise_X6_isActivity rfl rfl rfl (by decide +kernel) ⟨(Nat.le_of_ble_eq_true rfl), (Nat.le_of_ble_eq_true rfl)⟩) ⟨cN_blind, fun U hU hW => ⟨rfl, trivial⟩⟩ rfl rfl hl.1 rfl (lv_room (Nat.le_of_ble_eq_true rfl)) dX6_practise_14 ⟨(by show 0 + 0 ≤ 0; omega), (by show 0 + 0 ≤ 0; omega)⟩) (fun r er => ?_)
    subst er
    refine lv_if_ne (tgt := 26) hx hb dX6_practise_17 (by decide) (fun c_17 => ?_) (fun c_17 => ?_)
    · have c_17 : (ix x1 10) = true := bI_n c_17
      obtain ⟨jj, hjj, ejj⟩ := ix_t c_17 (by omega)
      rw [ejj] at hl
      have tjj : toN x1 = jj := by rw [ejj]; exact tn (by omega)
      refine lv_iload_n hx hb dX6_practise_26 rfl (lv_at hl 3 rfl) ?_
      refine lv_iconst (v := nI 1) hx hb dX6_practise_27 (by decide) ?_
      refine lv_bipush (v := nI 24) hx hb dX6_practise_28 (by decide) ?_
      refine vp_callSi (W.runS (As := [.int x2, .int (nI 1), .int (nI 24)]) (rest := []) ⟨hx, hb, hml, hown, hts⟩ (c_X6_isIn l x2 (nI 1) (nI 24)) (va_cwS 3 hts gX6_practise_X6_isIn rfl rfl rfl (by decide +kernel) ⟨(Nat.le_of_ble_eq_true rfl), (Nat.le_of_ble_eq_true rfl)⟩) ⟨cN_blind, fun U hU hW => ⟨rfl, trivial⟩⟩ rfl rfl hl.1 rfl (lv_room (Nat.le_of_ble_eq_true rfl)) dX6_practise_30 ⟨(by show 0 + 0 ≤ 0; omega), (by show 0 + 0 ≤ 0; omega)⟩) (fun r er => ?_)
      subst er
      refine lv_if_ne (tgt := 42) hx hb dX6_practise_33 (by decide) (fun c_33 => ?_) (fun c_33 => ?_)
      · have c_33 : (inR x2 (nI 1) (nI 24)) = true := bI_n c_33
        refine lv_iconst (v := nI 0) hx hb dX6_practise_42 (by decide) ?_
        refine lv_istore (lv' := [(4, .int (nI 0)), (0, .ref (a 0)), (1, .int (nI pp)), (2, .int (nI jj)), (3, .int x2)]) hx hb dX6_practise_43 hl (by decide) rfl (fun ls hl => ?_)
        refine lv_iconst (v := nI 0) hx hb dX6_practise_45 (by decide) ?_
        refine lv_istore (lv' := [(5, .int (nI 0)), (4, .int (nI 0)), (0, .ref (a 0)), (1, .int (nI pp)), (2, .int (nI jj)), (3, .int x2)]) hx hb dX6_practise_46 hl (by decide) rfl (fun ls hl => ?_)
        have L_48 : ∀ (n i : Nat), i ≤ c_ns S → c_ns S + 1 ≤ i + n → ∀ (H : Heap) (locs : List Loc), va_P (dC, dI) vwCl (mb_w a k (s_hrs S (trn S pp jj x2 i)) 0) H → va_D A (mb_w a k (s_hrs S (trn S pp jj x2 i)) 0) → va_S A s.heap H locs → ∀ (ls : Array Slot), lv_has ls 6 [(0, .ref (a 0)), (1, .int (nI pp)), (2, .int (nI jj)), (3, .int x2), (4, .int (nI (fb_ct (inP S pp) i))), (5, .int (nI i))] → W p l e rm_X6_practise s m ([.ref (a 0), .int x0, .int x1, .int x2] : List Value).toArray below meth c H locs 0 0 Q (F0 m 48 ls []) := by
          intro n
          induction n with
          | zero => intro i h1 h2; exact absurd h2 (by omega)
          | succ n ih_48 =>
            intro i hle_48 hfu_48 H locs hP hD hS ls hl
            refine lv_iload hx hb dX6_practise_48 (lv_at hl 5 rfl) ?_
            refine lv_aload_n hx hb dX6_practise_50 rfl (lv_at hl 0 rfl) ?_
            refine va_get (D := (dC, dI)) (ci := 6) (v := .int (nI (c_ns S))) (C := RX6) (T := TX6) (N := 23) hx hb hts i_X6 hown hK hP 0 rfl rfl 3 (by decide) f_1 (fun _ h9 => h9) rfl dX6_practise_51 ?_
            refine lv_icmp_ge (tgt := 96) hx hb dX6_practise_54 (by decide) (fun c_54 => ?_) (fun c_54 => ?_)
            · have c_54 : (c_ns S) ≤ i := cb_ge (by omega) (by omega) c_54
              refine lv_iload hx hb dX6_practise_96 (lv_at hl 4 rfl) ?_
              have hk9 : k_practise S x0 x1 x2 = 0 := by simp only [k_practise, c_10, c_17, c_33, tpp, tjj, if_true, if_false, Bool.false_eq_true, true_or, or_true, false_or, or_false, reduceCtorEq]
              have ew : (mb_w a k (s_hrs S (trn S pp jj x2 i)) 0) = (mb_w a k (kS (k_practise S x0 x1 x2) (S_practise S x0 x1 x2) S) (k_practise S x0 x1 x2)) := (by rw [hk9, kS_0, S_practise, tpp, tjj, show i = c_ns S by omega]; first | done | rfl)
              have hP : va_P (dC, dI) vwCl (mb_w a k (kS (k_practise S x0 x1 x2) (S_practise S x0 x1 x2) S) (k_practise S x0 x1 x2)) H := by rw [← ew]; exact hP
              have hD : va_D A (mb_w a k (kS (k_practise S x0 x1 x2) (S_practise S x0 x1 x2) S) (k_practise S x0 x1 x2)) := by rw [← ew]; exact hD
              rw [hQ]
              refine W.widen (k := 0) (n := 0) (by omega) (by omega) ?_
              exact W.iret (v := nI (fb_ct (inP S pp) i)) hx hb hr (fun t9 ht9 hW9 => ⟨⟨nI (fb_ct (inP S pp) i), (), rfl, (fun _ => by rw [r_practise, tpp, show i = c_ns S by omega]), cB_of hP hK hD ht9 hW9⟩, hS.F ht9⟩) hS.2.2 dX6_practise_98
            · have c_54 : i < (c_ns S) := cb_nge (by omega) (by omega) c_54
              refine lv_aload_n hx hb dX6_practise_57 rfl (lv_at hl 0 rfl) ?_
              refine va_get (D := (dC, dI)) (ci := 6) (v := .ref (a 1)) (C := RX6) (T := TX6) (N := 23) hx hb hts i_X6 hown hK hP 0 rfl rfl 4 (by decide) f_2 (fun _ h9 => h9) rfl dX6_practise_58 ?_
              refine lv_iload hx hb dX6_practise_61 (lv_at hl 5 rfl) ?_
              refine cb_iald hx hb hK hP 1 0 (f := c_pat S) rfl rfl (j := i) (by omega) (Nat.le_of_ble_eq_true rfl) dX6_practise_63 ?_
              refine lv_iload_n hx hb dX6_practise_64 rfl (lv_at hl 1 rfl) ?_
              refine lv_icmp_eq (tgt := 71) hx hb dX6_practise_65 (by decide) (fun c_65 => ?_) (fun c_65 => ?_)
              · skip
                refine lv_aload_n hx hb dX6_practise_71 rfl (lv_at hl 0 rfl) ?_
                refine va_get (D := (dC, dI)) (ci := 6) (v := .ref (a 7)) (C := RX6) (T := TX6) (N := 23) hx hb hts i_X6 hown hK hP 0 rfl rfl 10 (by decide) f_3 (fun _ h9 => h9) rfl dX6_practise_72 ?_
                refine lv_bipush (v := nI 10) hx hb dX6_practise_75 (by decide) ?_
                refine lv_iload hx hb dX6_practise_77 (lv_at hl 5 rfl) ?_
                refine lv_imul hx hb dX6_practise_79 ?_
                refine cb_topi (pk_mul _ _) ?_
                refine lv_iload_n hx hb dX6_practise_80 rfl (lv_at hl 2 rfl) ?_
                refine lv_iadd hx hb dX6_practise_81 ?_
                refine cb_topi (nI_add _ _) ?_
                refine cb_topi (z := nI (i * 10 + jj)) (congrArg nI (by omega)) ?_
                refine lv_dup2_11 hx hb dX6_practise_82 rfl rfl ?_
                refine cb_iald hx hb hK hP 7 6 (f := trn S pp jj x2 i) rfl rfl (j := i * 10 + jj) (by omega) (Nat.le_of_ble_eq_true rfl) dX6_practise_83 ?_
                refine lv_iload_n hx hb dX6_practise_84 rfl (lv_at hl 3 rfl) ?_
                refine lv_iadd hx hb dX6_practise_85 ?_
                refine cb_iast hx hb hK hP hD hS 7 6 (f := trn S pp jj x2 i) rfl rfl (j := i * 10 + jj) (by omega) (Nat.le_of_ble_eq_true rfl) dX6_practise_86 (fun H locs hP hD hS => ?_)
                rw [wsM_hrs, ss_hrs] at hP hD
                have hP : va_P (dC, dI) vwCl (mb_w a k (s_hrs S (upd (trn S pp jj x2 i) (i * 10 + jj) ((trn S pp jj x2 i (i * 10 + jj)) + x2))) 0) H := hP
                have hD : va_D A (mb_w a k (s_hrs S (upd (trn S pp jj x2 i) (i * 10 + jj) ((trn S pp jj x2 i (i * 10 + jj)) + x2))) 0) := hD
                refine lv_iinc (v := nI ((fb_ct (inP S pp) i) + 1)) (lv' := [(4, .int (nI ((fb_ct (inP S pp) i) + 1))), (0, .ref (a 0)), (1, .int (nI pp)), (2, .int (nI jj)), (3, .int x2), (5, .int (nI i))]) hx hb dX6_practise_87 hl (k := 4) rfl (nI_1 _) (by decide) rfl (fun ls hl => ?_)
                refine lv_iinc (v := nI (i + 1)) (lv' := [(5, .int (nI (i + 1))), (4, .int (nI ((fb_ct (inP S pp) i) + 1))), (0, .ref (a 0)), (1, .int (nI pp)), (2, .int (nI jj)), (3, .int x2)]) hx hb dX6_practise_90 hl (k := 5) rfl (nI_1 _) (by decide) rfl (fun ls hl => ?_)
                refine lv_goto (tgt := 48) hx hb dX6_practise_93 (by decide) ?_
                have hl : lv_has ls 6 [(5, .int (nI (i + 1))), (4, .int (nI (fb_ct (inP S pp) (i + 1)))), (0, .ref (a 0)), (1, .int (nI pp)), (2, .int (nI jj)), (3, .int x2)] := cb_loc hl (e := Value.int (nI (fb_ct (inP S pp) (i + 1)))) 1 rfl (congrArg Value.int (show nI ((fb_ct (inP S pp) i) + 1) = nI (fb_ct (inP S pp) (i + 1)) from (by simp [fb_ct_succ, inP, c_65])))
                have ew : (mb_w a k (s_hrs S (upd (trn S pp jj x2 i) (i * 10 + jj) ((trn S pp jj x2 i (i * 10 + jj)) + x2))) 0) = (mb_w a k (s_hrs S (trn S pp jj x2 (i + 1))) 0) := (by rw [show trn S pp jj x2 (i + 1) = _ from by first | exact if_pos c_65 | exact if_neg c_65])
                have hP : va_P (dC, dI) vwCl (mb_w a k (s_hrs S (trn S pp jj x2 (i + 1))) 0) H := by rw [← ew]; exact hP
                have hD : va_D A (mb_w a k (s_hrs S (trn S pp jj x2 (i + 1))) 0) := by rw [← ew]; exact hD
                exact ih_48 (i + 1) (by omega) (by omega) H locs hP hD hS ls (lv_sub hl [2, 3, 4, 5, 1, 0] rfl)
              · skip
                refine lv_goto (tgt := 90) hx hb dX6_practise_68 (by decide) ?_
                refine lv_iinc (v := nI (i + 1)) (lv' := [(5, .int (nI (i + 1))), (0, .ref (a 0)), (1, .int (nI pp)), (2, .int (nI jj)), (3, .int x2), (4, .int (nI (fb_ct (inP S pp) i)))]) hx hb dX6_practise_90 hl (k := 5) rfl (nI_1 _) (by decide) rfl (fun ls hl => ?_)
                refine lv_goto (tgt := 48) hx hb dX6_practise_93 (by decide) ?_
                have hl : lv_has ls 6 [(5, .int (nI (i + 1))), (0, .ref (a 0)), (1, .int (nI pp)), (2, .int (nI jj)), (3, .int x2), (4, .int (nI (fb_ct (inP S pp) (i + 1))))] := cb_loc hl (e := Value.int (nI (fb_ct (inP S pp) (i + 1)))) 5 rfl (congrArg Value.int (show nI (fb_ct (inP S pp) i) = nI (fb_ct (inP S pp) (i + 1)) from (by simp [fb_ct_succ, inP, c_65])))
                have ew : (mb_w a k (s_hrs S (trn S pp jj x2 i)) 0) = (mb_w a k (s_hrs S (trn S pp jj x2 (i + 1))) 0) := (by rw [show trn S pp jj x2 (i + 1) = _ from by first | exact if_pos c_65 | exact if_neg c_65])
                have hP : va_P (dC, dI) vwCl (mb_w a k (s_hrs S (trn S pp jj x2 (i + 1))) 0) H := by rw [← ew]; exact hP
                have hD : va_D A (mb_w a k (s_hrs S (trn S pp jj x2 (i + 1))) 0) := by rw [← ew]; exact hD
                exact ih_48 (i + 1) (by omega) (by omega) H locs hP hD hS ls (lv_sub hl [1, 2, 3, 4, 5, 0] rfl)
        have hl : lv_has ls 6 [(5, .int (nI 0)), (4, .int (nI (fb_ct (inP S pp) 0))), (0, .ref (a 0)), (1, .int (nI pp)), (2, .int (nI jj)), (3, .int x2)] := cb_loc hl (e := Value.int (nI (fb_ct (inP S pp) 0))) 1 rfl (congrArg Value.int (show nI 0 = nI (fb_ct (inP S pp) 0) from rfl))
        have ew : (mb_w a k S 0) = (mb_w a k (s_hrs S (trn S pp jj x2 0)) 0) := rfl
        have hP : va_P (dC, dI) vwCl (mb_w a k (s_hrs S (trn S pp jj x2 0)) 0) H := by rw [← ew]; exact hP
        have hD : va_D A (mb_w a k (s_hrs S (trn S pp jj x2 0)) 0) := by rw [← ew]; exact hD
        exact L_48 (c_ns S + 1) 0 (by omega) (by omega) H locs hP hD hS ls (lv_sub hl [2, 3, 4, 5, 1, 0] rfl)
      · have c_33 : (inR x2 (nI 1) (nI 24)) = false := bI_0 c_33
        refine lv_aload_n hx hb dX6_practise_36 rfl (lv_at hl 0 rfl) ?_
        refine lv_iconst (v := nI 2) hx hb dX6_practise_37 (by decide) ?_
        have hF_38 : ∀ q, va_A (mb_w a k S 0) H.size q → A q := va_free hD hS hA [0, 1, 2, 3, 4, 5, 6, 7, 8, 9, 10, 11, 12, 13, 14] rfl
        refine va_calli (va_runV (As := [.int (nI 2)]) (rest := []) ⟨hx, hb, hml, hown, hts⟩ (c_X6_no l dC dI a k S 0 H.size 2) (cwV 1 hts gX6_practise_X6_no rfl rfl rfl (by decide +kernel) ⟨(Nat.le_of_ble_eq_true rfl), (Nat.le_of_ble_eq_true rfl)⟩) ⟨cT_blind, va_recv hK hP (ci := 6) (q0 := 0) rfl rfl, fun U hU hW => ⟨rfl, cT_of hK hP hD hU hW⟩⟩ rfl rfl hl.1 rfl (lv_room (Nat.le_of_ble_eq_true rfl)) dX6_practise_38 ⟨(by show 0 + 0 ≤ 0; omega), (by show 0 + 0 ≤ 0; omega)⟩) hS (fun q _ h => hF_38 q h) hF_38 (fun r_38 u8 t8 H_38 L_38_ ht hvm hw hB hz1 hk1 hS => ?_)
        obtain ⟨hP, -, hD9⟩ := hB
        rw [ht] at hP
        have hD := hD9.weaken (B := A) (fun _ q _ h => hF_38 q.1 h)
        have hP : va_P (dC, dI) vwCl (mb_w a k S 2) H_38 := hP
        have hD : va_D A (mb_w a k S 2) := hD
        subst hw
        have hk9 : k_practise S x0 x1 x2 = 2 := by simp only [k_practise, c_10, c_17, c_33, tpp, tjj, if_true, if_false, Bool.false_eq_true, true_or, or_true, false_or, or_false, reduceCtorEq]
        have ew : (mb_w a k S 2) = (mb_w a k (kS (k_practise S x0 x1 x2) (S_practise S x0 x1 x2) S) (k_practise S x0 x1 x2)) := (by rw [hk9]; first | done | rfl)
        have hP : va_P (dC, dI) vwCl (mb_w a k (kS (k_practise S x0 x1 x2) (S_practise S x0 x1 x2) S) (k_practise S x0 x1 x2)) H_38 := by rw [← ew]; exact hP
        have hD : va_D A (mb_w a k (kS (k_practise S x0 x1 x2) (S_practise S x0 x1 x2) S) (k_practise S x0 x1 x2)) := by rw [← ew]; exact hD
        rw [hQ]
        refine W.widen (k := 0) (n := 0) (by omega) (by omega) ?_
        exact W.iret (v := nI 0) hx hb hr (fun t9 ht9 hW9 => ⟨⟨nI 0, (), rfl, (fun h => absurd (hk9.symm.trans h) (by decide)), cB_of hP hK hD ht9 hW9⟩, hS.F ht9⟩) hS.2.2 dX6_practise_41
    · have c_17 : (ix x1 10) = false := bI_0 c_17
      refine lv_aload_n hx hb dX6_practise_20 rfl (lv_at hl 0 rfl) ?_
      refine lv_iconst (v := nI 1) hx hb dX6_practise_21 (by decide) ?_
      have hF_22 : ∀ q, va_A (mb_w a k S 0) H.size q → A q := va_free hD hS hA [0, 1, 2, 3, 4, 5, 6, 7, 8, 9, 10, 11, 12, 13, 14] rfl
      refine va_calli (va_runV (As := [.int (nI 1)]) (rest := []) ⟨hx, hb, hml, hown, hts⟩ (c_X6_no l dC dI a k S 0 H.size 1) (cwV 1 hts gX6_practise_X6_no rfl rfl rfl (by decide +kernel) ⟨(Nat.le_of_ble_eq_true rfl), (Nat.le_of_ble_eq_true rfl)⟩) ⟨cT_blind, va_recv hK hP (ci := 6) (q0 := 0) rfl rfl, fun U hU hW => ⟨rfl, cT_of hK hP hD hU hW⟩⟩ rfl rfl hl.1 rfl (lv_room (Nat.le_of_ble_eq_true rfl)) dX6_practise_22 ⟨(by show 0 + 0 ≤ 0; omega), (by show 0 + 0 ≤ 0; omega)⟩) hS (fun q _ h => hF_22 q h) hF_22 (fun r_22 u8 t8 H_22 L_22_ ht hvm hw hB hz1 hk1 hS => ?_)
      obtain ⟨hP, -, hD9⟩ := hB
      rw [ht] at hP
      have hD := hD9.weaken (B := A) (fun _ q _ h => hF_22 q.1 h)
      have hP : va_P (dC, dI) vwCl (mb_w a k S 1) H_22 := hP
      have hD : va_D A (mb_w a k S 1) := hD
      subst hw
      have hk9 : k_practise S x0 x1 x2 = 1 := by simp only [k_practise, c_10, c_17, tpp, if_true, if_false, Bool.false_eq_true, true_or, or_true, false_or, or_false, reduceCtorEq]
      have ew : (mb_w a k S 1) = (mb_w a k (kS (k_practise S x0 x1 x2) (S_practise S x0 x1 x2) S) (k_practise S x0 x1 x2)) := (by rw [hk9]; first | done | rfl)
      have hP : va_P (dC, dI) vwCl (mb_w a k (kS (k_practise S x0 x1 x2) (S_practise S x0 x1 x2) S) (k_practise S x0 x1 x2)) H_22 := by rw [← ew]; exact hP
      have hD : va_D A (mb_w a k (kS (k_practise S x0 x1 x2) (S_practise S x0 x1 x2) S) (k_practise S x0 x1 x2)) := by rw [← ew]; exact hD
      rw [hQ]
      refine W.widen (k := 0) (n := 0) (by omega) (by omega) ?_
      exact W.iret (v := nI 0) hx hb hr (fun t9 ht9 hW9 => ⟨⟨nI 0, (), rfl, (fun h => absurd (hk9.symm.trans h) (by decide)), cB_of hP hK hD ht9 hW9⟩, hS.F ht9⟩) hS.2.2 dX6_practise_25
abbrev rm_X6_away : Room := { frames := 2, cells := 0, slots := 0, locals := 45 }
set_option maxHeartbeats 4000000 in
set_option maxRecDepth 100000 in
theorem c_X6_away (l : Launch) (dC : Nat → ClassId) (dI : Nat → Nat → Nat) (a : Nat → Nat) (k : Nat → ClassId) (S : cs_S) (th : Nat) (sz : Nat) (x0 : Int32) (x1 : Int32) (hI : Inv S) : Met l yX6_away wsX6_away rm_X6_away (va_Pc [.ref (a 0), .int x0, .int x1] (cT dC dI sz (mb_w a k S th) (mb_ty k))) (va_Qi (fun (r : Int32) (_ : Unit) => (k_away S x0 x1 = 0 → r = r_away S x0 x1)) (fun _ t => cB dC dI (va_A (mb_w a k S th) sz) (mb_w a k S (k_away S x0 x1)) (mb_ty k) t) (va_A (mb_w a k S th) sz)) 0 0 (va_A (mb_w a k S th) sz) := by
  refine Met.ofW (cc := cX6_away) (maxL := 3) (ret := (some .int)) (by decide) rfl ?_
  intro p e s m args below meth c s₁ B hml hv
  obtain ⟨rfl, hsz, hP, hK, hD0⟩ := hv
  have hx := B.exec
  have hb := B.bytes
  have hr := B.returns
  have hts := atoms_spec (ws := wsX6_away) B.pre
  have hown : s.vm.findClass RX6 = some m.cls := findClass_of_methodNamed B.named
  have hlocks := B.notSynchronized
  subst hsz
  have hD := hD0.self (sz := s.heap.size)
  generalize hAe : va_A (mb_w a k S th) s.heap.size = A at hD ⊢
  have hA : ∀ q : Nat, s.heap.size ≤ q → A q := fun q h => by rw [← hAe]; exact Or.inr h
  have hS : va_S A s.heap s.heap [] := va_S.rf
  obtain ⟨Q, hQ⟩ : ∃ Q, Q = MQ below (va_Qi (fun (r : Int32) (_ : Unit) => (k_away S x0 x1 = 0 → r = r_away S x0 x1)) (fun _ t => cB dC dI A (mb_w a k S (k_away S x0 x1)) (mb_ty k) t) A) ([.ref (a 0), .int x0, .int x1] : List Value).toArray s 0 0 A := ⟨_, rfl⟩
  show W p l e rm_X6_away s m _ below meth c s.heap [] 0 0 (MQ below _ _ _ _ _ _) _
  rw [← hQ]
  have i_X6 : ∀ w ∈ wsX60, w ∈ wsX6_away := fun w h => List.mem_cons_of_mem _ (List.mem_append_right _ h)
  obtain ⟨⟨hday, hnp, hns, hnt, hnf, hnm, hnb, hme⟩, hpat, hage, hten, hcnt, hplc, heat, hned, hhld, hbad, hbad0, hbag⟩ := id hI
  have f_0 := hts (.fieldLink RX6 53 "CampBookModel" "thrown" "I") (by decide +kernel)
  have hl := lv_entry ([.ref (a 0), .int x0, .int x1]) (n := 3) (Nat.le_of_ble_eq_true rfl)
  rw [lg_entry_eq]
  generalize (lg_sl ([.ref (a 0), .int x0, .int x1]) ++ List.replicate (3 - (lg_sl ([.ref (a 0), .int x0, .int x1])).length) Slot.unset).toArray = ls at hl ⊢
  have hl : lv_has ls 3 [(0, .ref (a 0)), (1, .int x0), (2, .int x1)] := hl
  refine lv_aload_n hx hb dX6_away_0 rfl (lv_at hl 0 rfl) ?_
  refine lv_iconst (v := nI 0) hx hb dX6_away_1 (by decide) ?_
  refine va_put (D := (dC, dI)) (ci := 6) (v := .int (nI 0)) (ty := .int) (C := RX6) (T := TX6) (N := 23) hx hb hts i_X6 tyX6 tyX6_ok nmX6 hown hK hP hD hS 0 rfl rfl 0 (by decide) f_0 (fun _ h9 => h9) rfl (by decide +kernel) rfl rfl (Nat.le_of_ble_eq_true rfl) dX6_away_2 (fun H locs hP hD hS => ?_)
  rw [wsM_TH] at hP hD
  have hP : va_P (dC, dI) vwCl (mb_w a k S 0) H := hP
  have hD : va_D A (mb_w a k S 0) := hD
  refine lv_aload_n hx hb dX6_away_5 rfl (lv_at hl 0 rfl) ?_
  refine lv_iload_n hx hb dX6_away_6 rfl (lv_at hl 1 rfl) ?_
  refine vp_callSi (W.runV (As := [.int x0]) (rest := []) ⟨hx, hb, hml, hown, hts⟩ (c_X6_isScout l dC dI a k S 0 x0 hI) (cwV 1 hts gX6_away_X6_isScout rfl rfl rfl (by decide +kernel) ⟨(Nat.le_of_ble_eq_true rfl), (Nat.le_of_ble_eq_true rfl)⟩) ⟨cR_blind, va_recv hK hP (ci := 6) (q0 := 0) rfl rfl, fun U hU hW => ⟨rfl, cR_of hK hP hU hW⟩⟩ rfl rfl hl.1 rfl (lv_room (Nat.le_of_ble_eq_true rfl)) dX6_away_7 ⟨(by show 0 + 0 ≤ 0; omega), (by show 0 + 0 ≤ 0; omega)⟩) (fun r er => ?_)
  subst er
  refine lv_if_eq (tgt := 30) hx hb dX6_away_10 (by decide) (fun c_10 => ?_) (fun c_10 => ?_)
  · have c_10 : (ix x0 (c_ns S)) = false := bI_0 c_10
    refine lv_aload_n hx hb dX6_away_30 rfl (lv_at hl 0 rfl) ?_
    refine lv_iconst (v := nI 1) hx hb dX6_away_31 (by decide) ?_
    have hF_32 : ∀ q, va_A (mb_w a k S 0) H.size q → A q := va_free hD hS hA [0, 1, 2, 3, 4, 5, 6, 7, 8, 9, 10, 11, 12, 13, 14] rfl
    refine va_calli (va_runV (As := [.int (nI 1)]) (rest := []) ⟨hx, hb, hml, hown, hts⟩ (c_X6_no l dC dI a k S 0 H.size 1) (cwV 1 hts gX6_away_X6_no rfl rfl rfl (by decide +kernel) ⟨(Nat.le_of_ble_eq_true rfl), (Nat.le_of_ble_eq_true rfl)⟩) ⟨cT_blind, va_recv hK hP (ci := 6) (q0 := 0) rfl rfl, fun U hU hW => ⟨rfl, cT_of hK hP hD hU hW⟩⟩ rfl rfl hl.1 rfl (lv_room (Nat.le_of_ble_eq_true rfl)) dX6_away_32 ⟨(by show 0 + 0 ≤ 0; omega), (by show 0 + 0 ≤ 0; omega)⟩) hS (fun q _ h => hF_32 q h) hF_32 (fun r_32 u8 t8 H_32 L_32_ ht hvm hw hB hz1 hk1 hS => ?_)
    obtain ⟨hP, -, hD9⟩ := hB
    rw [ht] at hP
    have hD := hD9.weaken (B := A) (fun _ q _ h => hF_32 q.1 h)
    have hP : va_P (dC, dI) vwCl (mb_w a k S 1) H_32 := hP
    have hD : va_D A (mb_w a k S 1) := hD
    subst hw
    have hk9 : k_away S x0 x1 = 1 := by simp only [k_away, c_10, if_true, if_false, Bool.false_eq_true, true_or, or_true, false_or, or_false, reduceCtorEq]
    have ew : (mb_w a k S 1) = (mb_w a k S (k_away S x0 x1)) := (by rw [hk9]; first | done | rfl)
    have hP : va_P (dC, dI) vwCl (mb_w a k S (k_away S x0 x1)) H_32 := by rw [← ew]; exact hP
    have hD : va_D A (mb_w a k S (k_away S x0 x1)) := by rw [← ew]; exact hD
    rw [hQ]
    refine W.widen (k := 0) (n := 0) (by omega) (by omega) ?_
    exact W.iret (v := nI 0) hx hb hr (fun t9 ht9 hW9 => ⟨⟨nI 0, (), rfl, (fun h => absurd (hk9.symm.trans h) (by decide)), cB_of hP hK hD ht9 hW9⟩, hS.F ht9⟩) hS.2.2 dX6_away_35
  · have c_10 : (ix x0 (c_ns S)) = true := bI_n c_10
    obtain ⟨u, hu, eu⟩ := ix_t c_10 (by omega)
    rw [eu] at hl
    have tu : toN x0 = u := by rw [eu]; exact tn (by omega)
    refine lv_aload_n hx hb dX6_away_13 rfl (lv_at hl 0 rfl) ?_
    refine lv_iload_n hx hb dX6_away_14 rfl (lv_at hl 2 rfl) ?_
    refine vp_callSi (W.runV (As := [.int x1]) (rest := []) ⟨hx, hb, hml, hown, hts⟩ (c_X6_isBadge l dC dI a k S 0 x1 hI) (cwV 1 hts gX6_away_X6_isBadge rfl rfl rfl (by decide +kernel) ⟨(Nat.le_of_ble_eq_true rfl), (Nat.le_of_ble_eq_true rfl)⟩) ⟨cR_blind, va_recv hK hP (ci := 6) (q0 := 0) rfl rfl, fun U hU hW => ⟨rfl, cR_of hK hP hU hW⟩⟩ rfl rfl hl.1 rfl (lv_room (Nat.le_of_ble_eq_true rfl)) dX6_away_15 ⟨(by show 0 + 0 ≤ 0; omega), (by show 0 + 0 ≤ 0; omega)⟩) (fun r er => ?_)
    subst er
    refine lv_if_eq (tgt := 30) hx hb dX6_away_18 (by decide) (fun c_18 => ?_) (fun c_18 => ?_)
    · have c_18 : (ix x1 (c_nb S)) = false := bI_0 c_18
      refine lv_aload_n hx hb dX6_away_30 rfl (lv_at hl 0 rfl) ?_
      refine lv_iconst (v := nI 1) hx hb dX6_away_31 (by decide) ?_
      have hF_32 : ∀ q, va_A (mb_w a k S 0) H.size q → A q := va_free hD hS hA [0, 1, 2, 3, 4, 5, 6, 7, 8, 9, 10, 11, 12, 13, 14] rfl
      refine va_calli (va_runV (As := [.int (nI 1)]) (rest := []) ⟨hx, hb, hml, hown, hts⟩ (c_X6_no l dC dI a k S 0 H.size 1) (cwV 1 hts gX6_away_X6_no rfl rfl rfl (by decide +kernel) ⟨(Nat.le_of_ble_eq_true rfl), (Nat.le_of_ble_eq_true rfl)⟩) ⟨cT_blind, va_recv hK hP (ci := 6) (q0 := 0) rfl rfl, fun U hU hW => ⟨rfl, cT_of hK hP hD hU hW⟩⟩ rfl rfl hl.1 rfl (lv_room (Nat.le_of_ble_eq_true rfl)) dX6_away_32 ⟨(by show 0 + 0 ≤ 0; omega), (by show 0 + 0 ≤ 0; omega)⟩) hS (fun q _ h => hF_32 q h) hF_32 (fun r_32 u8 t8 H_32 L_32_ ht hvm hw hB hz1 hk1 hS => ?_)
      obtain ⟨hP, -, hD9⟩ := hB
      rw [ht] at hP
      have hD := hD9.weaken (B := A) (fun _ q _ h => hF_32 q.1 h)
      have hP : va_P (dC, dI) vwCl (mb_w a k S 1) H_32 := hP
      have hD : va_D A (mb_w a k S 1) := hD
      subst hw
      have hk9 : k_away S x0 x1 = 1 := by simp only [k_away, c_10, c_18, tu, if_true, if_false, Bool.false_eq_true, true_or, or_true, false_or, or_false, reduceCtorEq]
      have ew : (mb_w a k S 1) = (mb_w a k S (k_away S x0 x1)) := (by rw [hk9]; first | done | rfl)
      have hP : va_P (dC, dI) vwCl (mb_w a k S (k_away S x0 x1)) H_32 := by rw [← ew]; exact hP
      have hD : va_D A (mb_w a k S (k_away S x0 x1)) := by rw [← ew]; exact hD
      rw [hQ]
      refine W.widen (k := 0) (n := 0) (by omega) (by omega) ?_
      exact W.iret (v := nI 0) hx hb hr (fun t9 ht9 hW9 => ⟨⟨nI 0, (), rfl, (fun h => absurd (hk9.symm.trans h) (by decide)), cB_of hP hK hD ht9 hW9⟩, hS.F ht9⟩) hS.2.2 dX6_away_35
    · have c_18 : (ix x1 (c_nb S)) = true := bI_n c_18
      obtain ⟨bb, hbb, ebb⟩ := ix_t c_18 (by omega)
      rw [ebb] at hl
      have tbb : toN x1 = bb := by rw [ebb]; exact tn (by omega)
      refine lv_aload_n hx hb dX6_away_21 rfl (lv_at hl 0 rfl) ?_
      refine lv_iload_n hx hb dX6_away_22 rfl (lv_at hl 1 rfl) ?_
      refine lv_iload_n hx hb dX6_away_23 rfl (lv_at hl 2 rfl) ?_
      refine vp_callSi (W.runV (As := [.int (nI u), .int (nI bb)]) (rest := []) ⟨hx, hb, hml, hown, hts⟩ (c_X6_awayFrom l dC dI a k S 0 u bb (by omega) (by omega) hI) (cwV 2 hts gX6_away_X6_awayFrom rfl rfl rfl (by decide +kernel) ⟨(Nat.le_of_ble_eq_true rfl), (Nat.le_of_ble_eq_true rfl)⟩) ⟨cR_blind, va_recv hK hP (ci := 6) (q0 := 0) rfl rfl, fun U hU hW => ⟨rfl, cR_of hK hP hU hW⟩⟩ rfl rfl hl.1 rfl (lv_room (Nat.le_of_ble_eq_true rfl)) dX6_away_24 ⟨(by show 0 + 0 ≤ 0; omega), (by show 0 + 0 ≤ 0; omega)⟩) (fun r er => ?_)
      subst er
      refine lv_goto (tgt := 35) hx hb dX6_away_27 (by decide) ?_
      have hk9 : k_away S x0 x1 = 0 := by simp only [k_away, c_10, c_18, tu, tbb, if_true, if_false, Bool.false_eq_true, true_or, or_true, false_or, or_false, reduceCtorEq]
      have ew : (mb_w a k S 0) = (mb_w a k S (k_away S x0 x1)) := (by rw [hk9]; first | done | rfl)
      have hP : va_P (dC, dI) vwCl (mb_w a k S (k_away S x0 x1)) H := by rw [← ew]; exact hP
      have hD : va_D A (mb_w a k S (k_away S x0 x1)) := by rw [← ew]; exact hD
      rw [hQ]
      refine W.widen (k := 0) (n := 0) (by omega) (by omega) ?_
      exact W.iret (v := dist S u bb) hx hb hr (fun t9 ht9 hW9 => ⟨⟨dist S u bb, (), rfl, (fun _ => by rw [r_away, tu, tbb]), cB_of hP hK hD ht9 hW9⟩, hS.F ht9⟩) hS.2.2 dX6_away_35
abbrev rm_X6_earn : Room := { frames := 2, cells := 0, slots := 0, locals := 45 }
set_option maxHeartbeats 4000000 in
set_option maxRecDepth 100000 in
theorem c_X6_earn (l : Launch) (dC : Nat → ClassId) (dI : Nat → Nat → Nat) (a : Nat → Nat) (k : Nat → ClassId) (S : cs_S) (th : Nat) (sz : Nat) (x0 : Int32) (x1 : Int32) (hI : Inv S) : Met l yX6_earn wsX6_earn rm_X6_earn (va_Pc [.ref (a 0), .int x0, .int x1] (cT dC dI sz (mb_w a k S th) (mb_ty k))) (va_Qi (fun (r : Int32) (_ : Unit) => (k_earn S x0 x1 = 0 → r = r_earn S x0 x1)) (fun _ t => cB dC dI (va_A (mb_w a k S th) sz) (mb_w a k (kS (k_earn S x0 x1) (S_earn S x0 x1) S) (k_earn S x0 x1)) (mb_ty k) t) (va_A (mb_w a k S th) sz)) 0 0 (va_A (mb_w a k S th) sz) := by
  refine Met.ofW (cc := cX6_earn) (maxL := 5) (ret := (some .int)) (by decide) rfl ?_
  intro p e s m args below meth c s₁ B hml hv
  obtain ⟨rfl, hsz, hP, hK, hD0⟩ := hv
  have hx := B.exec
  have hb := B.bytes
  have hr := B.returns
  have hts := atoms_spec (ws := wsX6_earn) B.pre
  have hown : s.vm.findClass RX6 = some m.cls := findClass_of_methodNamed B.named
  have hlocks := B.notSynchronized
  subst hsz
  have hD := hD0.self (sz := s.heap.size)
  generalize hAe : va_A (mb_w a k S th) s.heap.size = A at hD ⊢
  have hA : ∀ q : Nat, s.heap.size ≤ q → A q := fun q h => by rw [← hAe]; exact Or.inr h
  have hS : va_S A s.heap s.heap [] := va_S.rf
  obtain ⟨Q, hQ⟩ : ∃ Q, Q = MQ below (va_Qi (fun (r : Int32) (_ : Unit) => (k_earn S x0 x1 = 0 → r = r_earn S x0 x1)) (fun _ t => cB dC dI A (mb_w a k (kS (k_earn S x0 x1) (S_earn S x0 x1) S) (k_earn S x0 x1)) (mb_ty k) t) A) ([.ref (a 0), .int x0, .int x1] : List Value).toArray s 0 0 A := ⟨_, rfl⟩
  show W p l e rm_X6_earn s m _ below meth c s.heap [] 0 0 (MQ below _ _ _ _ _ _) _
  rw [← hQ]
  have i_X6 : ∀ w ∈ wsX60, w ∈ wsX6_earn := fun w h => List.mem_cons_of_mem _ (List.mem_append_right _ h)
  obtain ⟨⟨hday, hnp, hns, hnt, hnf, hnm, hnb, hme⟩, hpat, hage, hten, hcnt, hplc, heat, hned, hhld, hbad, hbad0, hbag⟩ := id hI
  have f_0 := hts (.fieldLink RX6 53 "CampBookModel" "thrown" "I") (by decide +kernel)
  have f_1 := hts (.fieldLink RX6 25 "CampBookModel" "badgesOf" "[I") (by decide +kernel)
  have hl := lv_entry ([.ref (a 0), .int x0, .int x1]) (n := 5) (Nat.le_of_ble_eq_true rfl)
  rw [lg_entry_eq]
  generalize (lg_sl ([.ref (a 0), .int x0, .int x1]) ++ List.replicate (5 - (lg_sl ([.ref (a 0), .int x0, .int x1])).length) Slot.unset).toArray = ls at hl ⊢
  have hl : lv_has ls 5 [(0, .ref (a 0)), (1, .int x0), (2, .int x1)] := hl
  refine lv_aload_n hx hb dX6_earn_0 rfl (lv_at hl 0 rfl) ?_
  refine lv_iconst (v := nI 0) hx hb dX6_earn_1 (by decide) ?_
  refine va_put (D := (dC, dI)) (ci := 6) (v := .int (nI 0)) (ty := .int) (C := RX6) (T := TX6) (N := 23) hx hb hts i_X6 tyX6 tyX6_ok nmX6 hown hK hP hD hS 0 rfl rfl 0 (by decide) f_0 (fun _ h9 => h9) rfl (by decide +kernel) rfl rfl (Nat.le_of_ble_eq_true rfl) dX6_earn_2 (fun H locs hP hD hS => ?_)
  rw [wsM_TH] at hP hD
  have hP : va_P (dC, dI) vwCl (mb_w a k S 0) H := hP
  have hD : va_D A (mb_w a k S 0) := hD
  refine lv_aload_n hx hb dX6_earn_5 rfl (lv_at hl 0 rfl) ?_
  refine lv_iload_n hx hb dX6_earn_6 rfl (lv_at hl 1 rfl) ?_
  refine vp_callSi (W.runV (As := [.int x0]) (rest := []) ⟨hx, hb, hml, hown, hts⟩ (c_X6_isScout l dC dI a k S 0 x0 hI) (cwV 1 hts gX6_earn_X6_isScout rfl rfl rfl (by decide +kernel) ⟨(Nat.le_of_ble_eq_true rfl), (Nat.le_of_ble_eq_true rfl)⟩) ⟨cR_blind, va_recv hK hP (ci := 6) (q0 := 0) rfl rfl, fun U hU hW => ⟨rfl, cR_of hK hP hU hW⟩⟩ rfl rfl hl.1 rfl (lv_room (Nat.le_of_ble_eq_true rfl)) dX6_earn_7 ⟨(by show 0 + 0 ≤ 0; omega), (by show 0 + 0 ≤ 0; omega)⟩) (fun r er => ?_)
  subst er
  refine lv_if_eq (tgt := 21) hx hb dX6_earn_10 (by decide) (fun c_10 => ?_) (fun c_10 => ?_)
  · have c_10 : (ix x0 (c_ns S)) = false := bI_0 c_10
    refine lv_aload_n hx hb dX6_earn_21 rfl (lv_at hl 0 rfl) ?_
    refine lv_iconst (v := nI 1) hx hb dX6_earn_22 (by decide) ?_
    have hF_23 : ∀ q, va_A (mb_w a k S 0) H.size q → A q := va_free hD hS hA [0, 1, 2, 3, 4, 5, 6, 7, 8, 9, 10, 11, 12, 13, 14] rfl
    refine va_calli (va_runV (As := [.int (nI 1)]) (rest := []) ⟨hx, hb, hml, hown, hts⟩ (c_X6_no l dC dI a k S 0 H.size 1) (cwV 1 hts gX6_earn_X6_no rfl rfl rfl (by decide +kernel) ⟨(Nat.le_of_ble_eq_true rfl), (Nat.le_of_ble_eq_true rfl)⟩) ⟨cT_blind, va_recv hK hP (ci := 6) (q0 := 0) rfl rfl, fun U hU hW => ⟨rfl, cT_of hK hP hD hU hW⟩⟩ rfl rfl hl.1 rfl (lv_room (Nat.le_of_ble_eq_true rfl)) dX6_earn_23 ⟨(by show 0 + 0 ≤ 0; omega), (by show 0 + 0 ≤ 0; omega)⟩) hS (fun q _ h => hF_23 q h) hF_23 (fun r_23 u8 t8 H_23 L_23_ ht hvm hw hB hz1 hk1 hS => ?_)
    obtain ⟨hP, -, hD9⟩ := hB
    rw [ht] at hP
    have hD := hD9.weaken (B := A) (fun _ q _ h => hF_23 q.1 h)
    have hP : va_P (dC, dI) vwCl (mb_w a k S 1) H_23 := hP
    have hD : va_D A (mb_w a k S 1) := hD
    subst hw
    have hk9 : k_earn S x0 x1 = 1 := by simp only [k_earn, c_10, if_true, if_false, Bool.false_eq_true, true_or, or_true, false_or, or_false, reduceCtorEq]
    have ew : (mb_w a k S 1) = (mb_w a k (kS (k_earn S x0 x1) (S_earn S x0 x1) S) (k_earn S x0 x1)) := (by rw [hk9]; first | done | rfl)
    have hP : va_P (dC, dI) vwCl (mb_w a k (kS (k_earn S x0 x1) (S_earn S x0 x1) S) (k_earn S x0 x1)) H_23 := by rw [← ew]; exact hP
    have hD : va_D A (mb_w a k (kS (k_earn S x0 x1) (S_earn S x0 x1) S) (k_earn S x0 x1)) := by rw [← ew]; exact hD
    rw [hQ]
    refine W.widen (k := 0) (n := 0) (by omega) (by omega) ?_
    exact W.iret (v := nI 0) hx hb hr (fun t9 ht9 hW9 => ⟨⟨nI 0, (), rfl, (fun h => absurd (hk9.symm.trans h) (by decide)), cB_of hP hK hD ht9 hW9⟩, hS.F ht9⟩) hS.2.2 dX6_earn_26
  · have c_10 : (ix x0 (c_ns S)) = true := bI_n c_10
    obtain ⟨u, hu, eu⟩ := ix_t c_10 (by omega)
    rw [eu] at hl
    have tu : toN x0 = u := by rw [eu]; exact tn (by omega)
    refine lv_aload_n hx hb dX6_earn_13 rfl (lv_at hl 0 rfl) ?_
    refine lv_iload_n hx hb dX6_earn_14 rfl (lv_at hl 2 rfl) ?_
    refine vp_callSi (W.runV (As := [.int x1]) (rest := []) ⟨hx, hb, hml, hown, hts⟩ (c_X6_isBadge l dC dI a k S 0 x1 hI) (cwV 1 hts gX6_earn_X6_isBadge rfl rfl rfl (by decide +kernel) ⟨(Nat.le_of_ble_eq_true rfl), (Nat.le_of_ble_eq_true rfl)⟩) ⟨cR_blind, va_recv hK hP (ci := 6) (q0 := 0) rfl rfl, fun U hU hW => ⟨rfl, cR_of hK hP hU hW⟩⟩ rfl rfl hl.1 rfl (lv_room (Nat.le_of_ble_eq_true rfl)) dX6_earn_15 ⟨(by show 0 + 0 ≤ 0; omega), (by show 0 + 0 ≤ 0; omega)⟩) (fun r er => ?_)
    subst er
    refine lv_if_ne (tgt := 27) hx hb dX6_earn_18 (by decide) (fun c_18 => ?_) (fun c_18 => ?_)
    · have c_18 : (ix x1 (c_nb S)) = true := bI_n c_18
      obtain ⟨bb, hbb, ebb⟩ := ix_t c_18 (by omega)
      rw [ebb] at hl
      have tbb : toN x1 = bb := by rw [ebb]; exact tn (by omega)
      refine lv_aload_n hx hb dX6_earn_27 rfl (lv_at hl 0 rfl) ?_
      refine lv_iload_n hx hb dX6_earn_28 rfl (lv_at hl 1 rfl) ?_
      refine lv_iload_n hx hb dX6_earn_29 rfl (lv_at hl 2 rfl) ?_
      refine vp_callSi (W.runV (As := [.int (nI u), .int (nI bb)]) (rest := []) ⟨hx, hb, hml, hown, hts⟩ (c_X6_awayFrom l dC dI a k S 0 u bb (by omega) (by omega) hI) (cwV 2 hts gX6_earn_X6_awayFrom rfl rfl rfl (by decide +kernel) ⟨(Nat.le_of_ble_eq_true rfl), (Nat.le_of_ble_eq_true rfl)⟩) ⟨cR_blind, va_recv hK hP (ci := 6) (q0 := 0) rfl rfl, fun U hU hW => ⟨rfl, cR_of hK hP hU hW⟩⟩ rfl rfl hl.1 rfl (lv_room (Nat.le_of_ble_eq_true rfl)) dX6_earn_30 ⟨(by show 0 + 0 ≤ 0; omega), (by show 0 + 0 ≤ 0; omega)⟩) (fun r er => ?_)
      subst er
      refine lv_if_eq (tgt := 42) hx hb dX6_earn_33 (by decide) (fun c_33 => ?_) (fun c_33 => ?_)
      · skip
        refine lv_aload_n hx hb dX6_earn_42 rfl (lv_at hl 0 rfl) ?_
        refine va_get (D := (dC, dI)) (ci := 6) (v := .ref (a 6)) (C := RX6) (T := TX6) (N := 23) hx hb hts i_X6 hown hK hP 0 rfl rfl 9 (by decide) f_1 (fun _ h9 => h9) rfl dX6_earn_43 ?_
        refine lv_iload_n hx hb dX6_earn_46 rfl (lv_at hl 1 rfl) ?_
        refine lv_dup2_11 hx hb dX6_earn_47 rfl rfl ?_
        refine cb_iald hx hb hK hP 6 5 (f := c_bad S) rfl rfl (j := u) (by omega) (Nat.le_of_ble_eq_true rfl) dX6_earn_48 ?_
        refine lv_iconst (v := nI 1) hx hb dX6_earn_49 (by decide) ?_
        refine lv_iload_n hx hb dX6_earn_50 rfl (lv_at hl 2 rfl) ?_
        refine lv_ishl hx hb dX6_earn_51 ?_
        refine cb_topi (z := nI (2 ^ bb)) (cb_ishl (by omega)) ?_
        refine lv_iadd hx hb dX6_earn_52 ?_
        refine cb_topi (z := nbad S u bb) (dist0 hI (by omega) c_33) ?_
        refine cb_iast hx hb hK hP hD hS 6 5 (f := c_bad S) rfl rfl (j := u) (by omega) (Nat.le_of_ble_eq_true rfl) dX6_earn_53 (fun H locs hP hD hS => ?_)
        rw [wsM_bad] at hP hD
        have hP : va_P (dC, dI) vwCl (mb_w a k (s_bad S (upd (c_bad S) u (nbad S u bb))) 0) H := hP
        have hD : va_D A (mb_w a k (s_bad S (upd (c_bad S) u (nbad S u bb))) 0) := hD
        obtain ⟨z9, hz9, ez9⟩ := badlt hI (u := u) (b := bb) (by omega)
        refine lv_iconst (v := nI 0) hx hb dX6_earn_54 (by decide) ?_
        refine lv_istore_n (lv' := [(3, .int (nI 0)), (0, .ref (a 0)), (1, .int (nI u)), (2, .int (nI bb))]) hx hb dX6_earn_55 rfl hl (by decide) rfl (fun ls hl => ?_)
        refine lv_iconst (v := nI 0) hx hb dX6_earn_56 (by decide) ?_
        refine lv_istore (lv' := [(4, .int (nI 0)), (3, .int (nI 0)), (0, .ref (a 0)), (1, .int (nI u)), (2, .int (nI bb))]) hx hb dX6_earn_57 hl (by decide) rfl (fun ls hl => ?_)
        have L_59 : ∀ (n i : Nat), i ≤ 8 → 8 + 1 ≤ i + n → ∀ (H : Heap) (locs : List Loc), va_P (dC, dI) vwCl (mb_w a k (s_bad S (upd (c_bad S) u (nbad S u bb))) 0) H → va_D A (mb_w a k (s_bad S (upd (c_bad S) u (nbad S u bb))) 0) → va_S A s.heap H locs → ∀ (ls : Array Slot), lv_has ls 5 [(0, .ref (a 0)), (1, .int (nI u)), (2, .int (nI bb)), (3, .int (nI (fb_ct (fun j => z9.testBit j) i))), (4, .int (nI i))] → W p l e rm_X6_earn s m ([.ref (a 0), .int x0, .int x1] : List Value).toArray below meth c H locs 0 0 Q (F0 m 59 ls []) := by
          intro n
          induction n with
          | zero => intro i h1 h2; exact absurd h2 (by omega)
          | succ n ih_59 =>
            intro i hle_59 hfu_59 H locs hP hD hS ls hl
            refine lv_iload hx hb dX6_earn_59 (lv_at hl 4 rfl) ?_
            refine lv_bipush (v := nI 8) hx hb dX6_earn_61 (by decide) ?_
            refine lv_icmp_ge (tgt := 86) hx hb dX6_earn_63 (by decide) (fun c_63 => ?_) (fun c_63 => ?_)
            · have c_63 : 8 ≤ i := cb_ge (by omega) (by omega) c_63
              refine lv_iload_n hx hb dX6_earn_86 rfl (lv_at hl 3 rfl) ?_
              have hk9 : k_earn S x0 x1 = 0 := by simp only [k_earn, c_10, c_18, c_33, tu, tbb, if_true, if_false, Bool.false_eq_true, true_or, or_true, false_or, or_false, reduceCtorEq]
              have ew : (mb_w a k (s_bad S (upd (c_bad S) u (nbad S u bb))) 0) = (mb_w a k (kS (k_earn S x0 x1) (S_earn S x0 x1) S) (k_earn S x0 x1)) := (by rw [hk9, kS_0, S_earn, tu, tbb]; first | done | rfl)
              have hP : va_P (dC, dI) vwCl (mb_w a k (kS (k_earn S x0 x1) (S_earn S x0 x1) S) (k_earn S x0 x1)) H := by rw [← ew]; exact hP
              have hD : va_D A (mb_w a k (kS (k_earn S x0 x1) (S_earn S x0 x1) S) (k_earn S x0 x1)) := by rw [← ew]; exact hD
              rw [hQ]
              refine W.widen (k := 0) (n := 0) (by omega) (by omega) ?_
              exact W.iret (v := nI (fb_ct (fun j => z9.testBit j) i)) hx hb hr (fun t9 ht9 hW9 => ⟨⟨nI (fb_ct (fun j => z9.testBit j) i), (), rfl, (fun _ => by rw [r_earn, tu, tbb, ez9, badN_nI hz9, show i = 8 by omega, cnt8 z9 hz9]), cB_of hP hK hD ht9 hW9⟩, hS.F ht9⟩) hS.2.2 dX6_earn_87
            · have c_63 : i < 8 := cb_nge (by omega) (by omega) c_63
              refine lv_iload_n hx hb dX6_earn_66 rfl (lv_at hl 3 rfl) ?_
              refine lv_aload_n hx hb dX6_earn_67 rfl (lv_at hl 0 rfl) ?_
              refine va_get (D := (dC, dI)) (ci := 6) (v := .ref (a 6)) (C := RX6) (T := TX6) (N := 23) hx hb hts i_X6 hown hK hP 0 rfl rfl 9 (by decide) f_1 (fun _ h9 => h9) rfl dX6_earn_68 ?_
              refine lv_iload_n hx hb dX6_earn_71 rfl (lv_at hl 1 rfl) ?_
              refine cb_iald hx hb hK hP 6 5 (f := upd (c_bad S) u (nbad S u bb)) rfl rfl (j := u) (by omega) (Nat.le_of_ble_eq_true rfl) dX6_earn_72 ?_
              refine cb_topi (z := nI z9) (pk_us.trans ez9) ?_
              refine lv_iload hx hb dX6_earn_73 (lv_at hl 4 rfl) ?_
              refine lv_ishr hx hb dX6_earn_75 ?_
              refine lv_iconst (v := nI 1) hx hb dX6_earn_76 (by decide) ?_
              refine lv_iand hx hb dX6_earn_77 ?_
              refine cb_topi (z := nI (if z9.testBit i then 1 else 0)) (by rw [sar_bit (by omega), bt_nI _ (by omega)]) ?_
              refine lv_iadd hx hb dX6_earn_78 ?_
              refine cb_topi (nI_add _ _) ?_
              refine lv_istore_n (lv' := [(3, .int (nI ((fb_ct (fun j => z9.testBit j) i) + (if z9.testBit i then 1 else 0)))), (0, .ref (a 0)), (1, .int (nI u)), (2, .int (nI bb)), (4, .int (nI i))]) hx hb dX6_earn_79 rfl hl (by decide) rfl (fun ls hl => ?_)
              refine lv_iinc (v := nI (i + 1)) (lv' := [(4, .int (nI (i + 1))), (3, .int (nI ((fb_ct (fun j => z9.testBit j) i) + (if z9.testBit i then 1 else 0)))), (0, .ref (a 0)), (1, .int (nI u)), (2, .int (nI bb))]) hx hb dX6_earn_80 hl (k := 4) rfl (nI_1 _) (by decide) rfl (fun ls hl => ?_)
              refine lv_goto (tgt := 59) hx hb dX6_earn_83 (by decide) ?_
              have hl : lv_has ls 5 [(4, .int (nI (i + 1))), (3, .int (nI (fb_ct (fun j => z9.testBit j) (i + 1)))), (0, .ref (a 0)), (1, .int (nI u)), (2, .int (nI bb))] := cb_loc hl (e := Value.int (nI (fb_ct (fun j => z9.testBit j) (i + 1)))) 1 rfl (congrArg Value.int (show nI ((fb_ct (fun j => z9.testBit j) i) + (if z9.testBit i then 1 else 0)) = nI (fb_ct (fun j => z9.testBit j) (i + 1)) from rfl))
              exact ih_59 (i + 1) (by omega) (by omega) H locs hP hD hS ls (lv_sub hl [2, 3, 4, 1, 0] rfl)
        have hl : lv_has ls 5 [(4, .int (nI 0)), (3, .int (nI (fb_ct (fun j => z9.testBit j) 0))), (0, .ref (a 0)), (1, .int (nI u)), (2, .int (nI bb))] := cb_loc hl (e := Value.int (nI (fb_ct (fun j => z9.testBit j) 0))) 1 rfl (congrArg Value.int (show nI 0 = nI (fb_ct (fun j => z9.testBit j) 0) from rfl))
        exact L_59 (8 + 1) 0 (by omega) (by omega) H locs hP hD hS ls (lv_sub hl [2, 3, 4, 1, 0] rfl)
      · skip
        refine lv_aload_n hx hb dX6_earn_36 rfl (lv_at hl 0 rfl) ?_
        refine lv_iconst (v := nI 2) hx hb dX6_earn_37 (by decide) ?_
        have hF_38 : ∀ q, va_A (mb_w a k S 0) H.size q → A q := va_free hD hS hA [0, 1, 2, 3, 4, 5, 6, 7, 8, 9, 10, 11, 12, 13, 14] rfl
        refine va_calli (va_runV (As := [.int (nI 2)]) (rest := []) ⟨hx, hb, hml, hown, hts⟩ (c_X6_no l dC dI a k S 0 H.size 2) (cwV 1 hts gX6_earn_X6_no rfl rfl rfl (by decide +kernel) ⟨(Nat.le_of_ble_eq_true rfl), (Nat.le_of_ble_eq_true rfl)⟩) ⟨cT_blind, va_recv hK hP (ci := 6) (q0 := 0) rfl rfl, fun U hU hW => ⟨rfl, cT_of hK hP hD hU hW⟩⟩ rfl rfl hl.1 rfl (lv_room (Nat.le_of_ble_eq_true rfl)) dX6_earn_38 ⟨(by show 0 + 0 ≤ 0; omega), (by show 0 + 0 ≤ 0; omega)⟩) hS (fun q _ h => hF_38 q h) hF_38 (fun r_38 u8 t8 H_38 L_38_ ht hvm hw hB hz1 hk1 hS => ?_)
        obtain ⟨hP, -, hD9⟩ := hB
        rw [ht] at hP
        have hD := hD9.weaken (B := A) (fun _ q _ h => hF_38 q.1 h)
        have hP : va_P (dC, dI) vwCl (mb_w a k S 2) H_38 := hP
        have hD : va_D A (mb_w a k S 2) := hD
        subst hw
        have hk9 : k_earn S x0 x1 = 2 := by simp only [k_earn, c_10, c_18, c_33, tu, tbb, if_true, if_false, Bool.false_eq_true, true_or, or_true, false_or, or_false, reduceCtorEq]
        have ew : (mb_w a k S 2) = (mb_w a k (kS (k_earn S x0 x1) (S_earn S x0 x1) S) (k_earn S x0 x1)) := (by rw [hk9]; first | done | rfl)
        have hP : va_P (dC, dI) vwCl (mb_w a k (kS (k_earn S x0 x1) (S_earn S x0 x1) S) (k_earn S x0 x1)) H_38 := by rw [← ew]; exact hP
        have hD : va_D A (mb_w a k (kS (k_earn S x0 x1) (S_earn S x0 x1) S) (k_earn S x0 x1)) := by rw [← ew]; exact hD
        rw [hQ]
        refine W.widen (k := 0) (n := 0) (by omega) (by omega) ?_
        exact W.iret (v := nI 0) hx hb hr (fun t9 ht9 hW9 => ⟨⟨nI 0, (), rfl, (fun h => absurd (hk9.symm.trans h) (by decide)), cB_of hP hK hD ht9 hW9⟩, hS.F ht9⟩) hS.2.2 dX6_earn_41
    · have c_18 : (ix x1 (c_nb S)) = false := bI_0 c_18
      refine lv_aload_n hx hb dX6_earn_21 rfl (lv_at hl 0 rfl) ?_
      refine lv_iconst (v := nI 1) hx hb dX6_earn_22 (by decide) ?_
      have hF_23 : ∀ q, va_A (mb_w a k S 0) H.size q → A q := va_free hD hS hA [0, 1, 2, 3, 4, 5, 6, 7, 8, 9, 10, 11, 12, 13, 14] rfl
      refine va_calli (va_runV (As := [.int (nI 1)]) (rest := []) ⟨hx, hb, hml, hown, hts⟩ (c_X6_no l dC dI a k S 0 H.size 1) (cwV 1 hts gX6_earn_X6_no rfl rfl rfl (by decide +kernel) ⟨(Nat.le_of_ble_eq_true rfl), (Nat.le_of_ble_eq_true rfl)⟩) ⟨cT_blind, va_recv hK hP (ci := 6) (q0 := 0) rfl rfl, fun U hU hW => ⟨rfl, cT_of hK hP hD hU hW⟩⟩ rfl rfl hl.1 rfl (lv_room (Nat.le_of_ble_eq_true rfl)) dX6_earn_23 ⟨(by show 0 + 0 ≤ 0; omega), (by show 0 + 0 ≤ 0; omega)⟩) hS (fun q _ h => hF_23 q h) hF_23 (fun r_23 u8 t8 H_23 L_23_ ht hvm hw hB hz1 hk1 hS => ?_)
      obtain ⟨hP, -, hD9⟩ := hB
      rw [ht] at hP
      have hD := hD9.weaken (B := A) (fun _ q _ h => hF_23 q.1 h)
      have hP : va_P (dC, dI) vwCl (mb_w a k S 1) H_23 := hP
      have hD : va_D A (mb_w a k S 1) := hD
      subst hw
      have hk9 : k_earn S x0 x1 = 1 := by simp only [k_earn, c_10, c_18, tu, if_true, if_false, Bool.false_eq_true, true_or, or_true, false_or, or_false, reduceCtorEq]
      have ew : (mb_w a k S 1) = (mb_w a k (kS (k_earn S x0 x1) (S_earn S x0 x1) S) (k_earn S x0 x1)) := (by rw [hk9]; first | done | rfl)
      have hP : va_P (dC, dI) vwCl (mb_w a k (kS (k_earn S x0 x1) (S_earn S x0 x1) S) (k_earn S x0 x1)) H_23 := by rw [← ew]; exact hP
      have hD : va_D A (mb_w a k (kS (k_earn S x0 x1) (S_earn S x0 x1) S) (k_earn S x0 x1)) := by rw [← ew]; exact hD
      rw [hQ]
      refine W.widen (k := 0) (n := 0) (by omega) (by omega) ?_
      exact W.iret (v := nI 0) hx hb hr (fun t9 ht9 hW9 => ⟨⟨nI 0, (), rfl, (fun h => absurd (hk9.symm.trans h) (by decide)), cB_of hP hK hD ht9 hW9⟩, hS.F ht9⟩) hS.2.2 dX6_earn_26
abbrev rm_X6_hike : Room := { frames := 1, cells := 0, slots := 0, locals := 22 }
set_option maxHeartbeats 4000000 in
set_option maxRecDepth 100000 in
theorem c_X6_hike (l : Launch) (dC : Nat → ClassId) (dI : Nat → Nat → Nat) (a : Nat → Nat) (k : Nat → ClassId) (S : cs_S) (th : Nat) (sz : Nat) (y : Int64) (x1 : Int32) (x2 : Int32) (hI : Inv S) : Met l yX6_hike wsX6_hike rm_X6_hike (va_Pc [.ref (a 0), .long y, .int x1, .int x2] (cT dC dI sz (mb_w a k S th) (mb_ty k))) (va_Qi (fun (r : Int32) (_ : Unit) => (k_hike S y x1 x2 = 0 → r = r_hike S y x1 x2)) (fun _ t => cB dC dI (va_A (mb_w a k S th) sz) (mb_w a k S (k_hike S y x1 x2)) (mb_ty k) t) (va_A (mb_w a k S th) sz)) 0 0 (va_A (mb_w a k S th) sz) := by
  refine Met.ofW (cc := cX6_hike) (maxL := 9) (ret := (some .int)) (by decide) rfl ?_
  intro p e s m args below meth c s₁ B hml hv
  obtain ⟨rfl, hsz, hP, hK, hD0⟩ := hv
  have hx := B.exec
  have hb := B.bytes
  have hr := B.returns
  have hts := atoms_spec (ws := wsX6_hike) B.pre
  have hown : s.vm.findClass RX6 = some m.cls := findClass_of_methodNamed B.named
  have hlocks := B.notSynchronized
  subst hsz
  have hD := hD0.self (sz := s.heap.size)
  generalize hAe : va_A (mb_w a k S th) s.heap.size = A at hD ⊢
  have hA : ∀ q : Nat, s.heap.size ≤ q → A q := fun q h => by rw [← hAe]; exact Or.inr h
  have hS : va_S A s.heap s.heap [] := va_S.rf
  obtain ⟨Q, hQ⟩ : ∃ Q, Q = MQ below (va_Qi (fun (r : Int32) (_ : Unit) => (k_hike S y x1 x2 = 0 → r = r_hike S y x1 x2)) (fun _ t => cB dC dI A (mb_w a k S (k_hike S y x1 x2)) (mb_ty k) t) A) ([.ref (a 0), .long y, .int x1, .int x2] : List Value).toArray s 0 0 A := ⟨_, rfl⟩
  show W p l e rm_X6_hike s m _ below meth c s.heap [] 0 0 (MQ below _ _ _ _ _ _) _
  rw [← hQ]
  have i_X6 : ∀ w ∈ wsX60, w ∈ wsX6_hike := fun w h => List.mem_cons_of_mem _ (List.mem_append_right _ h)
  obtain ⟨⟨hday, hnp, hns, hnt, hnf, hnm, hnb, hme⟩, hpat, hage, hten, hcnt, hplc, heat, hned, hhld, hbad, hbad0, hbag⟩ := id hI
  have f_0 := hts (.fieldLink RX6 53 "CampBookModel" "thrown" "I") (by decide +kernel)
  have f_1 := hts (.fieldLink RX6 64 "CampBookModel" "scouts" "I") (by decide +kernel)
  have f_2 := hts (.fieldLink RX6 13 "CampBookModel" "ages" "[I") (by decide +kernel)
  have f_3 := hts (.methodLink RX6 153 Lib.Math.max.name) (by decide +kernel)
  have f_4 := hts (.static Lib.Math.max.name) (by decide +kernel)
  have f_5 := hts (.initialized "java/lang/Math") (by decide +kernel)
  have f_6 := hts (.code Lib.Math.max.name Lib.Math.max.code 2 (some .int)) (by decide +kernel)
  have f_7 := hts (.fieldLink RX6 16 "CampBookModel" "skills" "[I") (by decide +kernel)
  have hl := lv_entry ([.ref (a 0), .long y, .int x1, .int x2]) (n := 9) (Nat.le_of_ble_eq_true rfl)
  rw [lg_entry_eq]
  generalize (lg_sl ([.ref (a 0), .long y, .int x1, .int x2]) ++ List.replicate (9 - (lg_sl ([.ref (a 0), .long y, .int x1, .int x2])).length) Slot.unset).toArray = ls at hl ⊢
  have hl : lv_has ls 9 [(0, .ref (a 0)), (1, .long y), (3, .int x1), (4, .int x2)] := hl
  refine lv_aload_n hx hb dX6_hike_0 rfl (lv_at hl 0 rfl) ?_
  refine lv_iconst (v := nI 0) hx hb dX6_hike_1 (by decide) ?_
  refine va_put (D := (dC, dI)) (ci := 6) (v := .int (nI 0)) (ty := .int) (C := RX6) (T := TX6) (N := 23) hx hb hts i_X6 tyX6 tyX6_ok nmX6 hown hK hP hD hS 0 rfl rfl 0 (by decide) f_0 (fun _ h9 => h9) rfl (by decide +kernel) rfl rfl (Nat.le_of_ble_eq_true rfl) dX6_hike_2 (fun H locs hP hD hS => ?_)
  rw [wsM_TH] at hP hD
  have hP : va_P (dC, dI) vwCl (mb_w a k S 0) H := hP
  have hD : va_D A (mb_w a k S 0) := hD
  refine lv_lload_n hx hb dX6_hike_5 rfl (lv_at hl 1 rfl) ?_
  refine lv_lconst (v := lN 0) hx hb dX6_hike_6 rfl ?_
  refine W.lcmp hx hb dX6_hike_7 ?_
  refine lv_if_le (tgt := 44) hx hb dX6_hike_8 (by decide) (fun c_8 => ?_) (fun c_8 => ?_)
  · have c_8 : y ≤ (lN 0) := cb_cmp_le c_8
    refine lv_aload_n hx hb dX6_hike_44 rfl (lv_at hl 0 rfl) ?_
    refine lv_iconst (v := nI 1) hx hb dX6_hike_45 (by decide) ?_
    have hF_46 : ∀ q, va_A (mb_w a k S 0) H.size q → A q := va_free hD hS hA [0, 1, 2, 3, 4, 5, 6, 7, 8, 9, 10, 11, 12, 13, 14] rfl
    refine va_calli (va_runV (As := [.int (nI 1)]) (rest := []) ⟨hx, hb, hml, hown, hts⟩ (c_X6_no l dC dI a k S 0 H.size 1) (cwV 1 hts gX6_hike_X6_no rfl rfl rfl (by decide +kernel) ⟨(Nat.le_of_ble_eq_true rfl), (Nat.le_of_ble_eq_true rfl)⟩) ⟨cT_blind, va_recv hK hP (ci := 6) (q0 := 0) rfl rfl, fun U hU hW => ⟨rfl, cT_of hK hP hD hU hW⟩⟩ rfl rfl hl.1 rfl (lv_room (Nat.le_of_ble_eq_true rfl)) dX6_hike_46 ⟨(by show 0 + 0 ≤ 0; omega), (by show 0 + 0 ≤ 0; omega)⟩) hS (fun q _ h => hF_46 q h) hF_46 (fun r_46 u8 t8 H_46 L_46_ ht hvm hw hB hz1 hk1 hS => ?_)
    obtain ⟨hP, -, hD9⟩ := hB
    rw [ht] at hP
    have hD := hD9.weaken (B := A) (fun _ q _ h => hF_46 q.1 h)
    have hP : va_P (dC, dI) vwCl (mb_w a k S 1) H_46 := hP
    have hD : va_D A (mb_w a k S 1) := hD
    subst hw
    have hk9 : k_hike S y x1 x2 = 1 := khA ((l_there (by omega)).mp (Or.inl c_8))
    have ew : (mb_w a k S 1) = (mb_w a k S (k_hike S y x1 x2)) := (by rw [hk9]; first | done | rfl)
    have hP : va_P (dC, dI) vwCl (mb_w a k S (k_hike S y x1 x2)) H_46 := by rw [← ew]; exact hP
    have hD : va_D A (mb_w a k S (k_hike S y x1 x2)) := by rw [← ew]; exact hD
    rw [hQ]
    refine W.widen (k := 0) (n := 0) (by omega) (by omega) ?_
    exact W.iret (v := nI 0) hx hb hr (fun t9 ht9 hW9 => ⟨⟨nI 0, (), rfl, (fun h => absurd (hk9.symm.trans h) (by decide)), cB_of hP hK hD ht9 hW9⟩, hS.F ht9⟩) hS.2.2 dX6_hike_49
  · have c_8 : ¬ y ≤ (lN 0) := cb_cmp_nle c_8
    refine lv_lload_n hx hb dX6_hike_11 rfl (lv_at hl 1 rfl) ?_
    refine lv_aload_n hx hb dX6_hike_12 rfl (lv_at hl 0 rfl) ?_
    refine va_get (D := (dC, dI)) (ci := 6) (v := .int (nI (c_ns S))) (C := RX6) (T := TX6) (N := 23) hx hb hts i_X6 hown hK hP 0 rfl rfl 3 (by decide) f_1 (fun _ h9 => h9) rfl dX6_hike_13 ?_
    refine lv_lshr hx hb dX6_hike_16 rfl ?_
    refine lv_lconst (v := lN 0) hx hb dX6_hike_17 rfl ?_
    refine W.lcmp hx hb dX6_hike_18 ?_
    refine lv_if_ne (tgt := 44) hx hb dX6_hike_19 (by decide) (fun c_19 => ?_) (fun c_19 => ?_)
    · have c_19 : ¬ (y >>> ((nI (c_ns S)).toInt64 &&& 63)) = (lN 0) := lg_cmp_f c_19
      refine lv_aload_n hx hb dX6_hike_44 rfl (lv_at hl 0 rfl) ?_
      refine lv_iconst (v := nI 1) hx hb dX6_hike_45 (by decide) ?_
      have hF_46 : ∀ q, va_A (mb_w a k S 0) H.size q → A q := va_free hD hS hA [0, 1, 2, 3, 4, 5, 6, 7, 8, 9, 10, 11, 12, 13, 14] rfl
      refine va_calli (va_runV (As := [.int (nI 1)]) (rest := []) ⟨hx, hb, hml, hown, hts⟩ (c_X6_no l dC dI a k S 0 H.size 1) (cwV 1 hts gX6_hike_X6_no rfl rfl rfl (by decide +kernel) ⟨(Nat.le_of_ble_eq_true rfl), (Nat.le_of_ble_eq_true rfl)⟩) ⟨cT_blind, va_recv hK hP (ci := 6) (q0 := 0) rfl rfl, fun U hU hW => ⟨rfl, cT_of hK hP hD hU hW⟩⟩ rfl rfl hl.1 rfl (lv_room (Nat.le_of_ble_eq_true rfl)) dX6_hike_46 ⟨(by show 0 + 0 ≤ 0; omega), (by show 0 + 0 ≤ 0; omega)⟩) hS (fun q _ h => hF_46 q h) hF_46 (fun r_46 u8 t8 H_46 L_46_ ht hvm hw hB hz1 hk1 hS => ?_)
      obtain ⟨hP, -, hD9⟩ := hB
      rw [ht] at hP
      have hD := hD9.weaken (B := A) (fun _ q _ h => hF_46 q.1 h)
      have hP : va_P (dC, dI) vwCl (mb_w a k S 1) H_46 := hP
      have hD : va_D A (mb_w a k S 1) := hD
      subst hw
      have hk9 : k_hike S y x1 x2 = 1 := khA ((l_there (by omega)).mp (Or.inr c_19))
      have ew : (mb_w a k S 1) = (mb_w a k S (k_hike S y x1 x2)) := (by rw [hk9]; first | done | rfl)
      have hP : va_P (dC, dI) vwCl (mb_w a k S (k_hike S y x1 x2)) H_46 := by rw [← ew]; exact hP
      have hD : va_D A (mb_w a k S (k_hike S y x1 x2)) := by rw [← ew]; exact hD
      rw [hQ]
      refine W.widen (k := 0) (n := 0) (by omega) (by omega) ?_
      exact W.iret (v := nI 0) hx hb hr (fun t9 ht9 hW9 => ⟨⟨nI 0, (), rfl, (fun h => absurd (hk9.symm.trans h) (by decide)), cB_of hP hK hD ht9 hW9⟩, hS.F ht9⟩) hS.2.2 dX6_hike_49
    · have c_19 : (y >>> ((nI (c_ns S)).toInt64 &&& 63)) = (lN 0) := lg_cmp_t c_19
      obtain ⟨hy1, hy2⟩ := khB hns c_8 c_19
      refine lv_iload_n hx hb dX6_hike_22 rfl (lv_at hl 2 rfl) ?_
      refine lv_iconst (v := nI 1) hx hb dX6_hike_23 (by decide) ?_
      refine lv_bipush (v := nI 50) hx hb dX6_hike_24 (by decide) ?_
      refine vp_callSi (W.runS (As := [.int x1, .int (nI 1), .int (nI 50)]) (rest := []) ⟨hx, hb, hml, hown, hts⟩ (c_X6_isIn l x1 (nI 1) (nI 50)) (va_cwS 3 hts gX6_hike_X6_isIn rfl rfl rfl (by decide +kernel) ⟨(Nat.le_of_ble_eq_true rfl), (Nat.le_of_ble_eq_true rfl)⟩) ⟨cN_blind, fun U hU hW => ⟨rfl, trivial⟩⟩ rfl rfl hl.1 rfl (lv_room (Nat.le_of_ble_eq_true rfl)) dX6_hike_26 ⟨(by show 0 + 0 ≤ 0; omega), (by show 0 + 0 ≤ 0; omega)⟩) (fun r er => ?_)
      subst er
      refine lv_if_eq (tgt := 44) hx hb dX6_hike_29 (by decide) (fun c_29 => ?_) (fun c_29 => ?_)
      · have c_29 : (inR x1 (nI 1) (nI 50)) = false := bI_0 c_29
        refine lv_aload_n hx hb dX6_hike_44 rfl (lv_at hl 0 rfl) ?_
        refine lv_iconst (v := nI 1) hx hb dX6_hike_45 (by decide) ?_
        have hF_46 : ∀ q, va_A (mb_w a k S 0) H.size q → A q := va_free hD hS hA [0, 1, 2, 3, 4, 5, 6, 7, 8, 9, 10, 11, 12, 13, 14] rfl
        refine va_calli (va_runV (As := [.int (nI 1)]) (rest := []) ⟨hx, hb, hml, hown, hts⟩ (c_X6_no l dC dI a k S 0 H.size 1) (cwV 1 hts gX6_hike_X6_no rfl rfl rfl (by decide +kernel) ⟨(Nat.le_of_ble_eq_true rfl), (Nat.le_of_ble_eq_true rfl)⟩) ⟨cT_blind, va_recv hK hP (ci := 6) (q0 := 0) rfl rfl, fun U hU hW => ⟨rfl, cT_of hK hP hD hU hW⟩⟩ rfl rfl hl.1 rfl (lv_room (Nat.le_of_ble_eq_true rfl)) dX6_hike_46 ⟨(by show 0 + 0 ≤ 0; omega), (by show 0 + 0 ≤ 0; omega)⟩) hS (fun q _ h => hF_46 q h) hF_46 (fun r_46 u8 t8 H_46 L_46_ ht hvm hw hB hz1 hk1 hS => ?_)
        obtain ⟨hP, -, hD9⟩ := hB
        rw [ht] at hP
        have hD := hD9.weaken (B := A) (fun _ q _ h => hF_46 q.1 h)
        have hP : va_P (dC, dI) vwCl (mb_w a k S 1) H_46 := hP
        have hD : va_D A (mb_w a k S 1) := hD
        subst hw
        have hk9 : k_hike S y x1 x2 = 1 := by rw [k_hike, if_neg hy1, if_pos hy2, if_neg (by rw [c_29]; decide)]
        have ew : (mb_w a k S 1) = (mb_w a k S (k_hike S y x1 x2)) := (by rw [hk9]; first | done | rfl)
        have hP : va_P (dC, dI) vwCl (mb_w a k S (k_hike S y x1 x2)) H_46 := by rw [← ew]; exact hP
        have hD : va_D A (mb_w a k S (k_hike S y x1 x2)) := by rw [← ew]; exact hD
        rw [hQ]
        refine W.widen (k := 0) (n := 0) (by omega) (by omega) ?_
        exact W.iret (v := nI 0) hx hb hr (fun t9 ht9 hW9 => ⟨⟨nI 0, (), rfl, (fun h => absurd (hk9.symm.trans h) (by decide)), cB_of hP hK hD ht9 hW9⟩, hS.F ht9⟩) hS.2.2 dX6_hike_49
      · have c_29 : (inR x1 (nI 1) (nI 50)) = true := bI_n c_29
        refine lv_iload hx hb dX6_hike_32 (lv_at hl 3 rfl) ?_
        refine lv_iconst (v := nI 0) hx hb dX6_hike_34 (by decide) ?_
        refine lv_sipush (v := nI 3000) hx hb dX6_hike_35 (by decide) ?_
        refine vp_callSi (W.runS (As := [.int x2, .int (nI 0), .int (nI 3000)]) (rest := []) ⟨hx, hb, hml, hown, hts⟩ (c_X6_isIn l x2 (nI 0) (nI 3000)) (va_cwS 3 hts gX6_hike_X6_isIn rfl rfl rfl (by decide +kernel) ⟨(Nat.le_of_ble_eq_true rfl), (Nat.le_of_ble_eq_true rfl)⟩) ⟨cN_blind, fun U hU hW => ⟨rfl, trivial⟩⟩ rfl rfl hl.1 rfl (lv_room (Nat.le_of_ble_eq_true rfl)) dX6_hike_38 ⟨(by show 0 + 0 ≤ 0; omega), (by show 0 + 0 ≤ 0; omega)⟩) (fun r er => ?_)
        subst er
        refine lv_if_ne (tgt := 50) hx hb dX6_hike_41 (by decide) (fun c_41 => ?_) (fun c_41 => ?_)
        · have c_41 : (inR x2 (nI 0) (nI 3000)) = true := bI_n c_41
          refine lv_iconst (v := nI 0) hx hb dX6_hike_50 (by decide) ?_
          refine lv_istore (lv' := [(5, .int (nI 0)), (0, .ref (a 0)), (1, .long y), (3, .int x1), (4, .int x2)]) hx hb dX6_hike_51 hl (by decide) rfl (fun ls hl => ?_)
          refine lv_iconst (v := nI 0) hx hb dX6_hike_53 (by decide) ?_
          refine lv_istore (lv' := [(6, .int (nI 0)), (5, .int (nI 0)), (0, .ref (a 0)), (1, .long y), (3, .int x1), (4, .int x2)]) hx hb dX6_hike_54 hl (by decide) rfl (fun ls hl => ?_)
          refine lv_iconst (v := nI 0) hx hb dX6_hike_56 (by decide) ?_
          refine lv_istore (lv' := [(7, .int (nI 0)), (6, .int (nI 0)), (5, .int (nI 0)), (0, .ref (a 0)), (1, .long y), (3, .int x1), (4, .int x2)]) hx hb dX6_hike_57 hl (by decide) rfl (fun ls hl => ?_)
          refine lv_iconst (v := nI 0) hx hb dX6_hike_59 (by decide) ?_
          refine lv_istore (lv' := [(8, .int (nI 0)), (7, .int (nI 0)), (6, .int (nI 0)), (5, .int (nI 0)), (0, .ref (a 0)), (1, .long y), (3, .int x1), (4, .int x2)]) hx hb dX6_hike_60 hl (by decide) rfl (fun ls hl => ?_)
          have L_62 : ∀ (n i : Nat), i ≤ c_ns S → c_ns S + 1 ≤ i + n → ∀ (H : Heap) (locs : List Loc), va_P (dC, dI) vwCl (mb_w a k S 0) H → va_D A (mb_w a k S 0) → va_S A s.heap H locs → ∀ (ls : Array Slot), lv_has ls 9 [(0, .ref (a 0)), (1, .long y), (3, .int x1), (4, .int x2), (5, .int (slowS S y i)), (6, .int (bI (eldK S y i))), (7, .int (bI (sk1K S y i))), (8, .int (nI i))] → W p l e rm_X6_hike s m ([.ref (a 0), .long y, .int x1, .int x2] : List Value).toArray below meth c H locs 0 0 Q (F0 m 62 ls []) := by
            intro n
            induction n with
            | zero => intro i h1 h2; exact absurd h2 (by omega)
            | succ n ih_62 =>
              intro i hle_62 hfu_62 H locs hP hD hS ls hl
              refine lv_iload hx hb dX6_hike_62 (lv_at hl 7 rfl) ?_
              refine lv_aload_n hx hb dX6_hike_64 rfl (lv_at hl 0 rfl) ?_
              refine va_get (D := (dC, dI)) (ci := 6) (v := .int (nI (c_ns S))) (C := RX6) (T := TX6) (N := 23) hx hb hts i_X6 hown hK hP 0 rfl rfl 3 (by decide) f_1 (fun _ h9 => h9) rfl dX6_hike_65 ?_
              refine lv_icmp_ge (tgt := 178) hx hb dX6_hike_68 (by decide) (fun c_68 => ?_) (fun c_68 => ?_)
              · have c_68 : (c_ns S) ≤ i := cb_ge (by omega) (by omega) c_68
                have e9 : i = c_ns S := by omega
                subst e9
                refine lv_iload hx hb dX6_hike_178 (lv_at hl 5 rfl) ?_
                refine lv_if_eq (tgt := 188) hx hb dX6_hike_180 (by decide) (fun c_180 => ?_) (fun c_180 => ?_)
                · have c_180 : (eldK S y (c_ns S)) = false := bI_0 c_180
                  refine lv_aload_n hx hb dX6_hike_188 rfl (lv_at hl 0 rfl) ?_
                  refine lv_iconst (v := nI 2) hx hb dX6_hike_189 (by decide) ?_
                  have hF_190 : ∀ q, va_A (mb_w a k S 0) H.size q → A q := va_free hD hS hA [0, 1, 2, 3, 4, 5, 6, 7, 8, 9, 10, 11, 12, 13, 14] rfl
                  refine va_calli (va_runV (As := [.int (nI 2)]) (rest := []) ⟨hx, hb, hml, hown, hts⟩ (c_X6_no l dC dI a k S 0 H.size 2) (cwV 1 hts gX6_hike_X6_no rfl rfl rfl (by decide +kernel) ⟨(Nat.le_of_ble_eq_true rfl), (Nat.le_of_ble_eq_true rfl)⟩) ⟨cT_blind, va_recv hK hP (ci := 6) (q0 := 0) rfl rfl, fun U hU hW => ⟨rfl, cT_of hK hP hD hU hW⟩⟩ rfl rfl hl.1 rfl (lv_room (Nat.le_of_ble_eq_true rfl)) dX6_hike_190 ⟨(by show 0 + 0 ≤ 0; omega), (by show 0 + 0 ≤ 0; omega)⟩) hS (fun q _ h => hF_190 q h) hF_190 (fun r_190 u8 t8 H_190 L_190_ ht hvm hw hB hz1 hk1 hS => ?_)
                  obtain ⟨hP, -, hD9⟩ := hB
                  rw [ht] at hP
                  have hD := hD9.weaken (B := A) (fun _ q _ h => hF_190 q.1 h)
                  have hP : va_P (dC, dI) vwCl (mb_w a k S 2) H_190 := hP
                  have hD : va_D A (mb_w a k S 2) := hD
                  subst hw
                  have hk9 : k_hike S y x1 x2 = 2 := by rw [k_hike, if_neg hy1, if_pos hy2, if_pos c_29, if_pos c_41, if_pos ((l_and_set (by omega)).mpr c_180)]
                  have ew : (mb_w a k S 2) = (mb_w a k S (k_hike S y x1 x2)) := (by rw [hk9]; first | done | rfl)
                  have hP : va_P (dC, dI) vwCl (mb_w a k S (k_hike S y x1 x2)) H_190 := by rw [← ew]; exact hP
                  have hD : va_D A (mb_w a k S (k_hike S y x1 x2)) := by rw [← ew]; exact hD
                  rw [hQ]
                  refine W.widen (k := 0) (n := 0) (by omega) (by omega) ?_
                  exact W.iret (v := nI 0) hx hb hr (fun t9 ht9 hW9 => ⟨⟨nI 0, (), rfl, (fun h => absurd (hk9.symm.trans h) (by decide)), cB_of hP hK hD ht9 hW9⟩, hS.F ht9⟩) hS.2.2 dX6_hike_193
                · have c_180 : (eldK S y (c_ns S)) = true := bI_n c_180
                  refine lv_iload hx hb dX6_hike_183 (lv_at hl 6 rfl) ?_
                  refine lv_if_ne (tgt := 194) hx hb dX6_hike_185 (by decide) (fun c_185 => ?_) (fun c_185 => ?_)
                  · have c_185 : (sk1K S y (c_ns S)) = true := bI_n c_185
                    refine lv_iload hx hb dX6_hike_194 (lv_at hl 4 rfl) ?_
                    refine lv_iload_n hx hb dX6_hike_196 rfl (lv_at hl 2 rfl) ?_
                    refine lv_imul hx hb dX6_hike_197 ?_
                    refine lv_iload hx hb dX6_hike_198 (lv_at hl 3 rfl) ?_
                    refine lv_bipush (v := nI 100) hx hb dX6_hike_200 (by decide) ?_
                    refine lv_idiv hx hb dX6_hike_202 (by decide) ?_
                    refine lv_bipush (v := nI 10) hx hb dX6_hike_203 (by decide) ?_
                    refine lv_imul hx hb dX6_hike_205 ?_
                    refine lv_iadd hx hb dX6_hike_206 ?_
                    refine lv_istore (lv' := [(8, .int (((slowS S y (c_ns S)) * x1) + ((x2 / (nI 100)) * (nI 10)))), (0, .ref (a 0)), (1, .long y), (3, .int x1), (4, .int x2), (5, .int (slowS S y (c_ns S))), (6, .int (bI (eldK S y (c_ns S)))), (7, .int (bI (sk1K S y (c_ns S))))]) hx hb dX6_hike_207 hl (by decide) rfl (fun ls hl => ?_)
                    refine lv_iload hx hb dX6_hike_209 (lv_at hl 0 rfl) ?_
                    refine lv_iload hx hb dX6_hike_211 (lv_at hl 0 rfl) ?_
                    refine lv_bipush (v := nI 60) hx hb dX6_hike_213 (by decide) ?_
                    refine lv_idiv hx hb dX6_hike_215 (by decide) ?_
                    refine lv_iconst (v := nI 5) hx hb dX6_hike_216 (by decide) ?_
                    refine lv_imul hx hb dX6_hike_217 ?_
                    refine lv_iadd hx hb dX6_hike_218 ?_
                    have hk9 : k_hike S y x1 x2 = 0 := by rw [k_hike, if_neg hy1, if_pos hy2, if_pos c_29, if_pos c_41, if_neg (fun z => absurd (((l_and_set (by omega)).mp z).symm.trans c_180) (by decide)), if_neg (fun z => absurd (((l_and_set (by omega)).mp z).symm.trans c_185) (by decide))]
                    have ew : (mb_w a k S 0) = (mb_w a k S (k_hike S y x1 x2)) := (by rw [hk9]; first | done | rfl)
                    have hP : va_P (dC, dI) vwCl (mb_w a k S (k_hike S y x1 x2)) H := by rw [← ew]; exact hP
                    have hD : va_D A (mb_w a k S (k_hike S y x1 x2)) := by rw [← ew]; exact hD
                    rw [hQ]
                    refine W.widen (k := 0) (n := 0) (by omega) (by omega) ?_
                    exact W.iret (v := (((slowS S y (c_ns S)) * x1) + ((x2 / (nI 100)) * (nI 10))) + (((((slowS S y (c_ns S)) * x1) + ((x2 / (nI 100)) * (nI 10))) / (nI 60)) * (nI 5))) hx hb hr (fun t9 ht9 hW9 => ⟨⟨(((slowS S y (c_ns S)) * x1) + ((x2 / (nI 100)) * (nI 10))) + (((((slowS S y (c_ns S)) * x1) + ((x2 / (nI 100)) * (nI 10))) / (nI 60)) * (nI 5)), (), rfl, (fun _ => rfl), cB_of hP hK hD ht9 hW9⟩, hS.F ht9⟩) hS.2.2 dX6_hike_219
                  · have c_185 : (sk1K S y (c_ns S)) = false := bI_0 c_185
                    refine lv_aload_n hx hb dX6_hike_188 rfl (lv_at hl 0 rfl) ?_
                    refine lv_iconst (v := nI 2) hx hb dX6_hike_189 (by decide) ?_
                    have hF_190 : ∀ q, va_A (mb_w a k S 0) H.size q → A q := va_free hD hS hA [0, 1, 2, 3, 4, 5, 6, 7, 8, 9, 10, 11, 12, 13, 14] rfl
                    refine va_calli (va_runV (As := [.int (nI 2)]) (rest := []) ⟨hx, hb, hml, hown, hts⟩ (c_X6_no l dC dI a k S 0 H.size 2) (cwV 1 hts gX6_hike_X6_no rfl rfl rfl (by decide +kernel) ⟨(Nat.le_of_ble_eq_true rfl), (Nat.le_of_ble_eq_true rfl)⟩) ⟨cT_blind, va_recv hK hP (ci := 6) (q0 := 0) rfl rfl, fun U hU hW => ⟨rfl, cT_of hK hP hD hU hW⟩⟩ rfl rfl hl.1 rfl (lv_room (Nat.le_of_ble_eq_true rfl)) dX6_hike_190 ⟨(by show 0 + 0 ≤ 0; omega), (by show 0 + 0 ≤ 0; omega)⟩) hS (fun q _ h => hF_190 q h) hF_190 (fun r_190 u8 t8 H_190 L_190_ ht hvm hw hB hz1 hk1 hS => ?_)
                    obtain ⟨hP, -, hD9⟩ := hB
                    rw [ht] at hP
                    have hD := hD9.weaken (B := A) (fun _ q _ h => hF_190 q.1 h)
                    have hP : va_P (dC, dI) vwCl (mb_w a k S 2) H_190 := hP
                    have hD : va_D A (mb_w a k S 2) := hD
                    subst hw
                    have hk9 : k_hike S y x1 x2 = 2 := by rw [k_hike, if_neg hy1, if_pos hy2, if_pos c_29, if_pos c_41, if_neg (fun z => absurd (((l_and_set (by omega)).mp z).symm.trans c_180) (by decide)), if_pos ((l_and_set (by omega)).mpr c_185)]
                    have ew : (mb_w a k S 2) = (mb_w a k S (k_hike S y x1 x2)) := (by rw [hk9]; first | done | rfl)
                    have hP : va_P (dC, dI) vwCl (mb_w a k S (k_hike S y x1 x2)) H_190 := by rw [← ew]; exact hP
                    have hD : va_D A (mb_w a k S (k_hike S y x1 x2)) := by rw [← ew]; exact hD
                    rw [hQ]
                    refine W.widen (k := 0) (n := 0) (by omega) (by omega) ?_
                    exact W.iret (v := nI 0) hx hb hr (fun t9 ht9 hW9 => ⟨⟨nI 0, (), rfl, (fun h => absurd (hk9.symm.trans h) (by decide)), cB_of hP hK hD ht9 hW9⟩, hS.F ht9⟩) hS.2.2 dX6_hike_193
              · have c_68 : i < (c_ns S) := cb_nge (by omega) (by omega) c_68
                refine lv_lload_n hx hb dX6_hike_71 rfl (lv_at hl 1 rfl) ?_
                refine lv_iload hx hb dX6_hike_72 (lv_at hl 7 rfl) ?_
                refine lv_lshr hx hb dX6_hike_74 rfl ?_
                refine lv_lconst (v := lN 1) hx hb dX6_hike_75 rfl ?_
                refine lv_land hx hb dX6_hike_76 ?_
                refine lv_lconst (v := lN 0) hx hb dX6_hike_77 rfl ?_
                refine W.lcmp hx hb dX6_hike_78 ?_
                refine lv_if_ne (tgt := 85) hx hb dX6_hike_79 (by decide) (fun c_79 => ?_) (fun c_79 => ?_)
                · have c_79 : ¬ ((y >>> ((nI i).toInt64 &&& 63)) &&& (lN 1)) = (lN 0) := lg_cmp_f c_79
                  have c_79 : ¬ y &&& lN (2 ^ i) = lN 0 := fun z => c_79 ((l_bits (by omega)).mpr z)
                  refine lv_iload hx hb dX6_hike_85 (lv_at hl 4 rfl) ?_
                  refine lv_bipush (v := nI 12) hx hb dX6_hike_87 (by decide) ?_
                  refine lv_iconst (v := nI 0) hx hb dX6_hike_89 (by decide) ?_
                  refine lv_bipush (v := nI 14) hx hb dX6_hike_90 (by decide) ?_
                  refine lv_aload_n hx hb dX6_hike_92 rfl (lv_at hl 0 rfl) ?_
                  refine va_get (D := (dC, dI)) (ci := 6) (v := .ref (a 2)) (C := RX6) (T := TX6) (N := 23) hx hb hts i_X6 hown hK hP 0 rfl rfl 5 (by decide) f_2 (fun _ h9 => h9) rfl dX6_hike_93 ?_
                  refine lv_iload hx hb dX6_hike_96 (lv_at hl 7 rfl) ?_
                  refine cb_iald hx hb hK hP 2 1 (f := c_age S) rfl rfl (j := i) (by omega) (Nat.le_of_ble_eq_true rfl) dX6_hike_98 ?_
                  refine lv_isub hx hb dX6_hike_99 ?_
                  refine va_mmax hx hb (hml.trans hl.1.symm) hown f_3 f_4 f_5 f_6 (Nat.le_of_ble_eq_true rfl) (Nat.le_of_ble_eq_true rfl) (by show _ ≤ 0; omega) (by show _ ≤ 0; omega) dX6_hike_100 ?_
                  refine cb_topi (z := cMax (nI 0) ((nI 14) - (c_age S i))) rfl ?_
                  refine lv_iadd hx hb dX6_hike_103 ?_
                  refine lv_iconst (v := nI 2) hx hb dX6_hike_104 (by decide) ?_
                  refine lv_aload_n hx hb dX6_hike_105 rfl (lv_at hl 0 rfl) ?_
                  refine va_get (D := (dC, dI)) (ci := 6) (v := .ref (a 3)) (C := RX6) (T := TX6) (N := 23) hx hb hts i_X6 hown hK hP 0 rfl rfl 6 (by decide) f_7 (fun _ h9 => h9) rfl dX6_hike_106 ?_
                  refine lv_iload hx hb dX6_hike_109 (lv_at hl 7 rfl) ?_
                  refine cb_iald hx hb hK hP 3 2 (f := c_skl S) rfl rfl (j := i) (by omega) (Nat.le_of_ble_eq_true rfl) dX6_hike_111 ?_
                  refine lv_iconst (v := nI 1) hx hb dX6_hike_112 (by decide) ?_
                  refine lv_iand hx hb dX6_hike_113 ?_
                  refine lv_imul hx hb dX6_hike_114 ?_
                  refine lv_isub hx hb dX6_hike_115 ?_
                  refine va_mmax hx hb (hml.trans hl.1.symm) hown f_3 f_4 f_5 f_6 (Nat.le_of_ble_eq_true rfl) (Nat.le_of_ble_eq_true rfl) (by show _ ≤ 0; omega) (by show _ ≤ 0; omega) dX6_hike_116 ?_
                  refine cb_topi (z := cMax (slowS S y i) (((nI 12) + (cMax (nI 0) ((nI 14) - (c_age S i)))) - ((nI 2) * ((c_skl S i) &&& (nI 1))))) rfl ?_
                  refine lv_istore (lv' := [(5, .int (cMax (slowS S y i) (((nI 12) + (cMax (nI 0) ((nI 14) - (c_age S i)))) - ((nI 2) * ((c_skl S i) &&& (nI 1)))))), (0, .ref (a 0)), (1, .long y), (3, .int x1), (4, .int x2), (6, .int (bI (eldK S y i))), (7, .int (bI (sk1K S y i))), (8, .int (nI i))]) hx hb dX6_hike_119 hl (by decide) rfl (fun ls hl => ?_)
                  refine lv_iload hx hb dX6_hike_121 (lv_at hl 5 rfl) ?_
                  refine lv_if_ne (tgt := 138) hx hb dX6_hike_123 (by decide) (fun c_123 => ?_) (fun c_123 => ?_)
                  · have c_123 : (eldK S y i) = true := bI_n c_123
                    refine lv_iconst (v := nI 1) hx hb dX6_hike_138 (by decide) ?_
                    refine lv_goto (tgt := 143) hx hb dX6_hike_139 (by decide) ?_
                    refine lv_istore (lv' := [(6, .int (nI 1)), (5, .int (cMax (slowS S y i) (((nI 12) + (cMax (nI 0) ((nI 14) - (c_age S i)))) - ((nI 2) * ((c_skl S i) &&& (nI 1)))))), (0, .ref (a 0)), (1, .long y), (3, .int x1), (4, .int x2), (7, .int (bI (sk1K S y i))), (8, .int (nI i))]) hx hb dX6_hike_143 hl (by decide) rfl (fun ls hl => ?_)
                    refine lv_iload hx hb dX6_hike_145 (lv_at hl 6 rfl) ?_
                    refine lv_if_ne (tgt := 165) hx hb dX6_hike_147 (by decide) (fun c_147 => ?_) (fun c_147 => ?_)
                    · have c_147 : (sk1K S y i) = true := bI_n c_147
                      refine lv_iconst (v := nI 1) hx hb dX6_hike_165 (by decide) ?_
                      refine lv_goto (tgt := 170) hx hb dX6_hike_166 (by decide) ?_
                      refine lv_istore (lv' := [(7, .int (nI 1)), (6, .int (nI 1)), (5, .int (cMax (slowS S y i) (((nI 12) + (cMax (nI 0) ((nI 14) - (c_age S i)))) - ((nI 2) * ((c_skl S i) &&& (nI 1)))))), (0, .ref (a 0)), (1, .long y), (3, .int x1), (4, .int x2), (8, .int (nI i))]) hx hb dX6_hike_170 hl (by decide) rfl (fun ls hl => ?_)
                      refine lv_iinc (v := nI (i + 1)) (lv' := [(8, .int (nI (i + 1))), (7, .int (nI 1)), (6, .int (nI 1)), (5, .int (cMax (slowS S y i) (((nI 12) + (cMax (nI 0) ((nI 14) - (c_age S i)))) - ((nI 2) * ((c_skl S i) &&& (nI 1)))))), (0, .ref (a 0)), (1, .long y), (3, .int x1), (4, .int x2)]) hx hb dX6_hike_172 hl (k := 7) rfl (nI_1 _) (by decide) rfl (fun ls hl => ?_)
                      refine lv_goto (tgt := 62) hx hb dX6_hike_175 (by decide) ?_
                      have hl : lv_has ls 9 [(8, .int (nI (i + 1))), (7, .int (nI 1)), (6, .int (nI 1)), (5, .int (slowS S y (i + 1))), (0, .ref (a 0)), (1, .long y), (3, .int x1), (4, .int x2)] := cb_loc hl (e := Value.int (slowS S y (i + 1))) 3 rfl (congrArg Value.int (show cMax (slowS S y i) (((nI 12) + (cMax (nI 0) ((nI 14) - (c_age S i)))) - ((nI 2) * ((c_skl S i) &&& (nI 1)))) = slowS S y (i + 1) from (slow_t c_79)))
                      have hl : lv_has ls 9 [(8, .int (nI (i + 1))), (7, .int (nI 1)), (6, .int (bI (eldK S y (i + 1)))), (5, .int (slowS S y (i + 1))), (0, .ref (a 0)), (1, .long y), (3, .int x1), (4, .int x2)] := cb_loc hl (e := Value.int (bI (eldK S y (i + 1)))) 2 rfl (congrArg Value.int (show nI 1 = bI (eldK S y (i + 1)) from (bI_eq1 (by rw [eldK_t c_79, c_123]; rfl))))
                      have hl : lv_has ls 9 [(8, .int (nI (i + 1))), (7, .int (bI (sk1K S y (i + 1)))), (6, .int (bI (eldK S y (i + 1)))), (5, .int (slowS S y (i + 1))), (0, .ref (a 0)), (1, .long y), (3, .int x1), (4, .int x2)] := cb_loc hl (e := Value.int (bI (sk1K S y (i + 1)))) 1 rfl (congrArg Value.int (show nI 1 = bI (sk1K S y (i + 1)) from (bI_eq1 (by rw [sk1K_t c_79, c_147]; rfl))))
                      exact ih_62 (i + 1) (by omega) (by omega) H locs hP hD hS ls (lv_sub hl [4, 5, 6, 7, 3, 2, 1, 0] rfl)
                    · have c_147 : (sk1K S y i) = false := bI_0 c_147
                      refine lv_aload_n hx hb dX6_hike_150 rfl (lv_at hl 2 rfl) ?_
                      refine va_get (D := (dC, dI)) (ci := 6) (v := .ref (a 3)) (C := RX6) (T := TX6) (N := 23) hx hb hts i_X6 hown hK hP 0 rfl rfl 6 (by decide) f_7 (fun _ h9 => h9) rfl dX6_hike_151 ?_
                      refine lv_iload hx hb dX6_hike_154 (lv_at hl 7 rfl) ?_
                      refine cb_iald hx hb hK hP 3 2 (f := c_skl S) rfl rfl (j := i) (by omega) (Nat.le_of_ble_eq_true rfl) dX6_hike_156 ?_
                      refine lv_iconst (v := nI 1) hx hb dX6_hike_157 (by decide) ?_
                      refine lv_ishr hx hb dX6_hike_158 ?_
                      refine lv_iconst (v := nI 1) hx hb dX6_hike_159 (by decide) ?_
                      refine lv_iand hx hb dX6_hike_160 ?_
                      refine lv_iconst (v := nI 1) hx hb dX6_hike_161 (by decide) ?_
                      refine lv_icmp_ne (tgt := 169) hx hb dX6_hike_162 (by decide) (fun c_162 => ?_) (fun c_162 => ?_)
                      · skip
                        refine lv_iconst (v := nI 0) hx hb dX6_hike_169 (by decide) ?_
                        refine lv_istore (lv' := [(7, .int (nI 0)), (6, .int (nI 1)), (5, .int (cMax (slowS S y i) (((nI 12) + (cMax (nI 0) ((nI 14) - (c_age S i)))) - ((nI 2) * ((c_skl S i) &&& (nI 1)))))), (0, .ref (a 0)), (1, .long y), (3, .int x1), (4, .int x2), (8, .int (nI i))]) hx hb dX6_hike_170 hl (by decide) rfl (fun ls hl => ?_)
                        refine lv_iinc (v := nI (i + 1)) (lv' := [(8, .int (nI (i + 1))), (7, .int (nI 0)), (6, .int (nI 1)), (5, .int (cMax (slowS S y i) (((nI 12) + (cMax (nI 0) ((nI 14) - (c_age S i)))) - ((nI 2) * ((c_skl S i) &&& (nI 1)))))), (0, .ref (a 0)), (1, .long y), (3, .int x1), (4, .int x2)]) hx hb dX6_hike_172 hl (k := 7) rfl (nI_1 _) (by decide) rfl (fun ls hl => ?_)
                        refine lv_goto (tgt := 62) hx hb dX6_hike_175 (by decide) ?_
                        have hl : lv_has ls 9 [(8, .int (nI (i + 1))), (7, .int (nI 0)), (6, .int (nI 1)), (5, .int (slowS S y (i + 1))), (0, .ref (a 0)), (1, .long y), (3, .int x1), (4, .int x2)] := cb_loc hl (e := Value.int (slowS S y (i + 1))) 3 rfl (congrArg Value.int (show cMax (slowS S y i) (((nI 12) + (cMax (nI 0) ((nI 14) - (c_age S i)))) - ((nI 2) * ((c_skl S i) &&& (nI 1)))) = slowS S y (i + 1) from (slow_t c_79)))
                        have hl : lv_has ls 9 [(8, .int (nI (i + 1))), (7, .int (nI 0)), (6, .int (bI (eldK S y (i + 1)))), (5, .int (slowS S y (i + 1))), (0, .ref (a 0)), (1, .long y), (3, .int x1), (4, .int x2)] := cb_loc hl (e := Value.int (bI (eldK S y (i + 1)))) 2 rfl (congrArg Value.int (show nI 1 = bI (eldK S y (i + 1)) from (bI_eq1 (by rw [eldK_t c_79, c_123]; rfl))))
                        have hl : lv_has ls 9 [(8, .int (nI (i + 1))), (7, .int (bI (sk1K S y (i + 1)))), (6, .int (bI (eldK S y (i + 1)))), (5, .int (slowS S y (i + 1))), (0, .ref (a 0)), (1, .long y), (3, .int x1), (4, .int x2)] := cb_loc hl (e := Value.int (bI (sk1K S y (i + 1)))) 1 rfl (congrArg Value.int (show nI 0 = bI (sk1K S y (i + 1)) from (bI_eq0 (by rw [sk1K_t c_79, c_147, skl1]; exact ts_nt (fun z => c_162 ((sar1 (by omega)).mpr z))))))
                        exact ih_62 (i + 1) (by omega) (by omega) H locs hP hD hS ls (lv_sub hl [4, 5, 6, 7, 3, 2, 1, 0] rfl)
                      · skip
                        refine lv_iconst (v := nI 1) hx hb dX6_hike_165 (by decide) ?_
                        refine lv_goto (tgt := 170) hx hb dX6_hike_166 (by decide) ?_
                        refine lv_istore (lv' := [(7, .int (nI 1)), (6, .int (nI 1)), (5, .int (cMax (slowS S y i) (((nI 12) + (cMax (nI 0) ((nI 14) - (c_age S i)))) - ((nI 2) * ((c_skl S i) &&& (nI 1)))))), (0, .ref (a 0)), (1, .long y), (3, .int x1), (4, .int x2), (8, .int (nI i))]) hx hb dX6_hike_170 hl (by decide) rfl (fun ls hl => ?_)
                        refine lv_iinc (v := nI (i + 1)) (lv' := [(8, .int (nI (i + 1))), (7, .int (nI 1)), (6, .int (nI 1)), (5, .int (cMax (slowS S y i) (((nI 12) + (cMax (nI 0) ((nI 14) - (c_age S i)))) - ((nI 2) * ((c_skl S i) &&& (nI 1)))))), (0, .ref (a 0)), (1, .long y), (3, .int x1), (4, .int x2)]) hx hb dX6_hike_172 hl (k := 7) rfl (nI_1 _) (by decide) rfl (fun ls hl => ?_)
                        refine lv_goto (tgt := 62) hx hb dX6_hike_175 (by decide) ?_
                        have hl : lv_has ls 9 [(8, .int (nI (i + 1))), (7, .int (nI 1)), (6, .int (nI 1)), (5, .int (slowS S y (i + 1))), (0, .ref (a 0)), (1, .long y), (3, .int x1), (4, .int x2)] := cb_loc hl (e := Value.int (slowS S y (i + 1))) 3 rfl (congrArg Value.int (show cMax (slowS S y i) (((nI 12) + (cMax (nI 0) ((nI 14) - (c_age S i)))) - ((nI 2) * ((c_skl S i) &&& (nI 1)))) = slowS S y (i + 1) from (slow_t c_79)))
                        have hl : lv_has ls 9 [(8, .int (nI (i + 1))), (7, .int (nI 1)), (6, .int (bI (eldK S y (i + 1)))), (5, .int (slowS S y (i + 1))), (0, .ref (a 0)), (1, .long y), (3, .int x1), (4, .int x2)] := cb_loc hl (e := Value.int (bI (eldK S y (i + 1)))) 2 rfl (congrArg Value.int (show nI 1 = bI (eldK S y (i + 1)) from (bI_eq1 (by rw [eldK_t c_79, c_123]; rfl))))
                        have hl : lv_has ls 9 [(8, .int (nI (i + 1))), (7, .int (bI (sk1K S y (i + 1)))), (6, .int (bI (eldK S y (i + 1)))), (5, .int (slowS S y (i + 1))), (0, .ref (a 0)), (1, .long y), (3, .int x1), (4, .int x2)] := cb_loc hl (e := Value.int (bI (sk1K S y (i + 1)))) 1 rfl (congrArg Value.int (show nI 1 = bI (sk1K S y (i + 1)) from (bI_eq1 (by rw [sk1K_t c_79, c_147, skl1]; exact (sar1 (by omega)).mp c_162))))
                        exact ih_62 (i + 1) (by omega) (by omega) H locs hP hD hS ls (lv_sub hl [4, 5, 6, 7, 3, 2, 1, 0] rfl)
                  · have c_123 : (eldK S y i) = false := bI_0 c_123
                    refine lv_aload_n hx hb dX6_hike_126 rfl (lv_at hl 1 rfl) ?_
                    refine va_get (D := (dC, dI)) (ci := 6) (v := .ref (a 2)) (C := RX6) (T := TX6) (N := 23) hx hb hts i_X6 hown hK hP 0 rfl rfl 5 (by decide) f_2 (fun _ h9 => h9) rfl dX6_hike_127 ?_
                    refine lv_iload hx hb dX6_hike_130 (lv_at hl 7 rfl) ?_
                    refine cb_iald hx hb hK hP 2 1 (f := c_age S) rfl rfl (j := i) (by omega) (Nat.le_of_ble_eq_true rfl) dX6_hike_132 ?_
                    refine lv_bipush (v := nI 14) hx hb dX6_hike_133 (by decide) ?_
                    refine lv_icmp_lt (tgt := 142) hx hb dX6_hike_135 (by decide) (fun c_135 => ?_) (fun c_135 => ?_)
                    · skip
                      refine lv_iconst (v := nI 0) hx hb dX6_hike_142 (by decide) ?_
                      refine lv_istore (lv' := [(6, .int (nI 0)), (5, .int (cMax (slowS S y i) (((nI 12) + (cMax (nI 0) ((nI 14) - (c_age S i)))) - ((nI 2) * ((c_skl S i) &&& (nI 1)))))), (0, .ref (a 0)), (1, .long y), (3, .int x1), (4, .int x2), (7, .int (bI (sk1K S y i))), (8, .int (nI i))]) hx hb dX6_hike_143 hl (by decide) rfl (fun ls hl => ?_)
                      refine lv_iload hx hb dX6_hike_145 (lv_at hl 6 rfl) ?_
                      refine lv_if_ne (tgt := 165) hx hb dX6_hike_147 (by decide) (fun c_147 => ?_) (fun c_147 => ?_)
                      · have c_147 : (sk1K S y i) = true := bI_n c_147
                        refine lv_iconst (v := nI 1) hx hb dX6_hike_165 (by decide) ?_
                        refine lv_goto (tgt := 170) hx hb dX6_hike_166 (by decide) ?_
                        refine lv_istore (lv' := [(7, .int (nI 1)), (6, .int (nI 0)), (5, .int (cMax (slowS S y i) (((nI 12) + (cMax (nI 0) ((nI 14) - (c_age S i)))) - ((nI 2) * ((c_skl S i) &&& (nI 1)))))), (0, .ref (a 0)), (1, .long y), (3, .int x1), (4, .int x2), (8, .int (nI i))]) hx hb dX6_hike_170 hl (by decide) rfl (fun ls hl => ?_)
                        refine lv_iinc (v := nI (i + 1)) (lv' := [(8, .int (nI (i + 1))), (7, .int (nI 1)), (6, .int (nI 0)), (5, .int (cMax (slowS S y i) (((nI 12) + (cMax (nI 0) ((nI 14) - (c_age S i)))) - ((nI 2) * ((c_skl S i) &&& (nI 1)))))), (0, .ref (a 0)), (1, .long y), (3, .int x1), (4, .int x2)]) hx hb dX6_hike_172 hl (k := 7) rfl (nI_1 _) (by decide) rfl (fun ls hl => ?_)
                        refine lv_goto (tgt := 62) hx hb dX6_hike_175 (by decide) ?_
                        have hl : lv_has ls 9 [(8, .int (nI (i + 1))), (7, .int (nI 1)), (6, .int (nI 0)), (5, .int (slowS S y (i + 1))), (0, .ref (a 0)), (1, .long y), (3, .int x1), (4, .int x2)] := cb_loc hl (e := Value.int (slowS S y (i + 1))) 3 rfl (congrArg Value.int (show cMax (slowS S y i) (((nI 12) + (cMax (nI 0) ((nI 14) - (c_age S i)))) - ((nI 2) * ((c_skl S i) &&& (nI 1)))) = slowS S y (i + 1) from (slow_t c_79)))
                        have hl : lv_has ls 9 [(8, .int (nI (i + 1))), (7, .int (nI 1)), (6, .int (bI (eldK S y (i + 1)))), (5, .int (slowS S y (i + 1))), (0, .ref (a 0)), (1, .long y), (3, .int x1), (4, .int x2)] := cb_loc hl (e := Value.int (bI (eldK S y (i + 1)))) 2 rfl (congrArg Value.int (show nI 0 = bI (eldK S y (i + 1)) from (bI_eq0 (by rw [eldK_t c_79, c_123]; exact decide_eq_false (Int32.not_le.mpr c_135)))))
                        have hl : lv_has ls 9 [(8, .int (nI (i + 1))), (7, .int (bI (sk1K S y (i + 1)))), (6, .int (bI (eldK S y (i + 1)))), (5, .int (slowS S y (i + 1))), (0, .ref (a 0)), (1, .long y), (3, .int x1), (4, .int x2)] := cb_loc hl (e := Value.int (bI (sk1K S y (i + 1)))) 1 rfl (congrArg Value.int (show nI 1 = bI (sk1K S y (i + 1)) from (bI_eq1 (by rw [sk1K_t c_79, c_147]; rfl))))
                        exact ih_62 (i + 1) (by omega) (by omega) H locs hP hD hS ls (lv_sub hl [4, 5, 6, 7, 3, 2, 1, 0] rfl)
                      · have c_147 : (sk1K S y i) = false := bI_0 c_147
                        refine lv_aload_n hx hb dX6_hike_150 rfl (lv_at hl 2 rfl) ?_
                        refine va_get (D := (dC, dI)) (ci := 6) (v := .ref (a 3)) (C := RX6) (T := TX6) (N := 23) hx hb hts i_X6 hown hK hP 0 rfl rfl 6 (by decide) f_7 (fun _ h9 => h9) rfl dX6_hike_151 ?_
                        refine lv_iload hx hb dX6_hike_154 (lv_at hl 7 rfl) ?_
                        refine cb_iald hx hb hK hP 3 2 (f := c_skl S) rfl rfl (j := i) (by omega) (Nat.le_of_ble_eq_true rfl) dX6_hike_156 ?_
                        refine lv_iconst (v := nI 1) hx hb dX6_hike_157 (by decide) ?_
                        refine lv_ishr hx hb dX6_hike_158 ?_
                        refine lv_iconst (v := nI 1) hx hb dX6_hike_159 (by decide) ?_
                        refine lv_iand hx hb dX6_hike_160 ?_
                        refine lv_iconst (v := nI 1) hx hb dX6_hike_161 (by decide) ?_
                        refine lv_icmp_ne (tgt := 169) hx hb dX6_hike_162 (by decide) (fun c_162 => ?_) (fun c_162 => ?_)
                        · skip
                          refine lv_iconst (v := nI 0) hx hb dX6_hike_169 (by decide) ?_
                          refine lv_istore (lv' := [(7, .int (nI 0)), (6, .int (nI 0)), (5, .int (cMax (slowS S y i) (((nI 12) + (cMax (nI 0) ((nI 14) - (c_age S i)))) - ((nI 2) * ((c_skl S i) &&& (nI 1)))))), (0, .ref (a 0)), (1, .long y), (3, .int x1), (4, .int x2), (8, .int (nI i))]) hx hb dX6_hike_170 hl (by decide) rfl (fun ls hl => ?_)
                          refine lv_iinc (v := nI (i + 1)) (lv' := [(8, .int (nI (i + 1))), (7, .int (nI 0)), (6, .int (nI 0)), (5, .int (cMax (slowS S y i) (((nI 12) + (cMax (nI 0) ((nI 14) - (c_age S i)))) - ((nI 2) * ((c_skl S i) &&& (nI 1)))))), (0, .ref (a 0)), (1, .long y), (3, .int x1), (4, .int x2)]) hx hb dX6_hike_172 hl (k := 7) rfl (nI_1 _) (by decide) rfl (fun ls hl => ?_)
                          refine lv_goto (tgt := 62) hx hb dX6_hike_175 (by decide) ?_
                          have hl : lv_has ls 9 [(8, .int (nI (i + 1))), (7, .int (nI 0)), (6, .int (nI 0)), (5, .int (slowS S y (i + 1))), (0, .ref (a 0)), (1, .long y), (3, .int x1), (4, .int x2)] := cb_loc hl (e := Value.int (slowS S y (i + 1))) 3 rfl (congrArg Value.int (show cMax (slowS S y i) (((nI 12) + (cMax (nI 0) ((nI 14) - (c_age S i)))) - ((nI 2) * ((c_skl S i) &&& (nI 1)))) = slowS S y (i + 1) from (slow_t c_79)))
                          have hl : lv_has ls 9 [(8, .int (nI (i + 1))), (7, .int (nI 0)), (6, .int (bI (eldK S y (i + 1)))), (5, .int (slowS S y (i + 1))), (0, .ref (a 0)), (1, .long y), (3, .int x1), (4, .int x2)] := cb_loc hl (e := Value.int (bI (eldK S y (i + 1)))) 2 rfl (congrArg Value.int (show nI 0 = bI (eldK S y (i + 1)) from (bI_eq0 (by rw [eldK_t c_79, c_123]; exact decide_eq_false (Int32.not_le.mpr c_135)))))
                          have hl : lv_has ls 9 [(8, .int (nI (i + 1))), (7, .int (bI (sk1K S y (i + 1)))), (6, .int (bI (eldK S y (i + 1)))), (5, .int (slowS S y (i + 1))), (0, .ref (a 0)), (1, .long y), (3, .int x1), (4, .int x2)] := cb_loc hl (e := Value.int (bI (sk1K S y (i + 1)))) 1 rfl (congrArg Value.int (show nI 0 = bI (sk1K S y (i + 1)) from (bI_eq0 (by rw [sk1K_t c_79, c_147, skl1]; exact ts_nt (fun z => c_162 ((sar1 (by omega)).mpr z))))))
                          exact ih_62 (i + 1) (by omega) (by omega) H locs hP hD hS ls (lv_sub hl [4, 5, 6, 7, 3, 2, 1, 0] rfl)
                        · skip
                          refine lv_iconst (v := nI 1) hx hb dX6_hike_165 (by decide) ?_
                          refine lv_goto (tgt := 170) hx hb dX6_hike_166 (by decide) ?_
                          refine lv_istore (lv' := [(7, .int (nI 1)), (6, .int (nI 0)), (5, .int (cMax (slowS S y i) (((nI 12) + (cMax (nI 0) ((nI 14) - (c_age S i)))) - ((nI 2) * ((c_skl S i) &&& (nI 1)))))), (0, .ref (a 0)), (1, .long y), (3, .int x1), (4, .int x2), (8, .int (nI i))]) hx hb dX6_hike_170 hl (by decide) rfl (fun ls hl => ?_)
                          refine lv_iinc (v := nI (i + 1)) (lv' := [(8, .int (nI (i + 1))), (7, .int (nI 1)), (6, .int (nI 0)), (5, .int (cMax (slowS S y i) (((nI 12) + (cMax (nI 0) ((nI 14) - (c_age S i)))) - ((nI 2) * ((c_skl S i) &&& (nI 1)))))), (0, .ref (a 0)), (1, .long y), (3, .int x1), (4, .int x2)]) hx hb dX6_hike_172 hl (k := 7) rfl (nI_1 _) (by decide) rfl (fun ls hl => ?_)
                          refine lv_goto (tgt := 62) hx hb dX6_hike_175 (by decide) ?_
                          have hl : lv_has ls 9 [(8, .int (nI (i + 1))), (7, .int (nI 1)), (6, .int (nI 0)), (5, .int (slowS S y (i + 1))), (0, .ref (a 0)), (1, .long y), (3, .int x1), (4, .int x2)] := cb_loc hl (e := Value.int (slowS S y (i + 1))) 3 rfl (congrArg Value.int (show cMax (slowS S y i) (((nI 12) + (cMax (nI 0) ((nI 14) - (c_age S i)))) - ((nI 2) * ((c_skl S i) &&& (nI 1)))) = slowS S y (i + 1) from (slow_t c_79)))
                          have hl : lv_has ls 9 [(8, .int (nI (i + 1))), (7, .int (nI 1)), (6, .int (bI (eldK S y (i + 1)))), (5, .int (slowS S y (i + 1))), (0, .ref (a 0)), (1, .long y), (3, .int x1), (4, .int x2)] := cb_loc hl (e := Value.int (bI (eldK S y (i + 1)))) 2 rfl (congrArg Value.int (show nI 0 = bI (eldK S y (i + 1)) from (bI_eq0 (by rw [eldK_t c_79, c_123]; exact decide_eq_false (Int32.not_le.mpr c_135)))))
                          have hl : lv_has ls 9 [(8, .int (nI (i + 1))), (7, .int (bI (sk1K S y (i + 1)))), (6, .int (bI (eldK S y (i + 1)))), (5, .int (slowS S y (i + 1))), (0, .ref (a 0)), (1, .long y), (3, .int x1), (4, .int x2)] := cb_loc hl (e := Value.int (bI (sk1K S y (i + 1)))) 1 rfl (congrArg Value.int (show nI 1 = bI (sk1K S y (i + 1)) from (bI_eq1 (by rw [sk1K_t c_79, c_147, skl1]; exact (sar1 (by omega)).mp c_162))))
                          exact ih_62 (i + 1) (by omega) (by omega) H locs hP hD hS ls (lv_sub hl [4, 5, 6, 7, 3, 2, 1, 0] rfl)
                    · skip
                      refine lv_iconst (v := nI 1) hx hb dX6_hike_138 (by decide) ?_
                      refine lv_goto (tgt := 143) hx hb dX6_hike_139 (by decide) ?_
                      refine lv_istore (lv' := [(6, .int (nI 1)), (5, .int (cMax (slowS S y i) (((nI 12) + (cMax (nI 0) ((nI 14) - (c_age S i)))) - ((nI 2) * ((c_skl S i) &&& (nI 1)))))), (0, .ref (a 0)), (1, .long y), (3, .int x1), (4, .int x2), (7, .int (bI (sk1K S y i))), (8, .int (nI i))]) hx hb dX6_hike_143 hl (by decide) rfl (fun ls hl => ?_)
                      refine lv_iload hx hb dX6_hike_145 (lv_at hl 6 rfl) ?_
                      refine lv_if_ne (tgt := 165) hx hb dX6_hike_147 (by decide) (fun c_147 => ?_) (fun c_147 => ?_)
                      · have c_147 : (sk1K S y i) = true := bI_n c_147
                        refine lv_iconst (v := nI 1) hx hb dX6_hike_165 (by decide) ?_
                        refine lv_goto (tgt := 170) hx hb dX6_hike_166 (by decide) ?_
                        refine lv_istore (lv' := [(7, .int (nI 1)), (6, .int (nI 1)), (5, .int (cMax (slowS S y i) (((nI 12) + (cMax (nI 0) ((nI 14) - (c_age S i)))) - ((nI 2) * ((c_skl S i) &&& (nI 1)))))), (0, .ref (a 0)), (1, .long y), (3, .int x1), (4, .int x2), (8, .int (nI i))]) hx hb dX6_hike_170 hl (by decide) rfl (fun ls hl => ?_)
                        refine lv_iinc (v := nI (i + 1)) (lv' := [(8, .int (nI (i + 1))), (7, .int (nI 1)), (6, .int (nI 1)), (5, .int (cMax (slowS S y i) (((nI 12) + (cMax (nI 0) ((nI 14) - (c_age S i)))) - ((nI 2) * ((c_skl S i) &&& (nI 1)))))), (0, .ref (a 0)), (1, .long y), (3, .int x1), (4, .int x2)]) hx hb dX6_hike_172 hl (k := 7) rfl (nI_1 _) (by decide) rfl (fun ls hl => ?_)
                        refine lv_goto (tgt := 62) hx hb dX6_hike_175 (by decide) ?_
                        have hl : lv_has ls 9 [(8, .int (nI (i + 1))), (7, .int (nI 1)), (6, .int (nI 1)), (5, .int (slowS S y (i + 1))), (0, .ref (a 0)), (1, .long y), (3, .int x1), (4, .int x2)] := cb_loc hl (e := Value.int (slowS S y (i + 1))) 3 rfl (congrArg Value.int (show cMax (slowS S y i) (((nI 12) + (cMax (nI 0) ((nI 14) - (c_age S i)))) - ((nI 2) * ((c_skl S i) &&& (nI 1)))) = slowS S y (i + 1) from (slow_t c_79)))
                        have hl : lv_has ls 9 [(8, .int (nI (i + 1))), (7, .int (nI 1)), (6, .int (bI (eldK S y (i + 1)))), (5, .int (slowS S y (i + 1))), (0, .ref (a 0)), (1, .long y), (3, .int x1), (4, .int x2)] := cb_loc hl (e := Value.int (bI (eldK S y (i + 1)))) 2 rfl (congrArg Value.int (show nI 1 = bI (eldK S y (i + 1)) from (bI_eq1 (by rw [eldK_t c_79, c_123]; exact decide_eq_true (Int32.not_lt.mp c_135)))))
                        have hl : lv_has ls 9 [(8, .int (nI (i + 1))), (7, .int (bI (sk1K S y (i + 1)))), (6, .int (bI (eldK S y (i + 1)))), (5, .int (slowS S y (i + 1))), (0, .ref (a 0)), (1, .long y), (3, .int x1), (4, .int x2)] := cb_loc hl (e := Value.int (bI (sk1K S y (i + 1)))) 1 rfl (congrArg Value.int (show nI 1 = bI (sk1K S y (i + 1)) from (bI_eq1 (by rw [sk1K_t c_79, c_147]; rfl))))
                        exact ih_62 (i + 1) (by omega) (by omega) H locs hP hD hS ls (lv_sub hl [4, 5, 6, 7, 3, 2, 1, 0] rfl)
                      · have c_147 : (sk1K S y i) = false := bI_0 c_147
                        refine lv_aload_n hx hb dX6_hike_150 rfl (lv_at hl 2 rfl) ?_
                        refine va_get (D := (dC, dI)) (ci := 6) (v := .ref (a 3)) (C := RX6) (T := TX6) (N := 23) hx hb hts i_X6 hown hK hP 0 rfl rfl 6 (by decide) f_7 (fun _ h9 => h9) rfl dX6_hike_151 ?_
                        refine lv_iload hx hb dX6_hike_154 (lv_at hl 7 rfl) ?_
                        refine cb_iald hx hb hK hP 3 2 (f := c_skl S) rfl rfl (j := i) (by omega) (Nat.le_of_ble_eq_true rfl) dX6_hike_156 ?_
                        refine lv_iconst (v := nI 1) hx hb dX6_hike_157 (by decide) ?_
                        refine lv_ishr hx hb dX6_hike_158 ?_
                        refine lv_iconst (v := nI 1) hx hb dX6_hike_159 (by decide) ?_
                        refine lv_iand hx hb dX6_hike_160 ?_
                        refine lv_iconst (v := nI 1) hx hb dX6_hike_161 (by decide) ?_
                        refine lv_icmp_ne (tgt := 169) hx hb dX6_hike_162 (by decide) (fun c_162 => ?_) (fun c_162 => ?_)
                        · skip
                          refine lv_iconst (v := nI 0) hx hb dX6_hike_169 (by decide) ?_
                          refine lv_istore (lv' := [(7, .int (nI 0)), (6, .int (nI 1)), (5, .int (cMax (slowS S y i) (((nI 12) + (cMax (nI 0) ((nI 14) - (c_age S i)))) - ((nI 2) * ((c_skl S i) &&& (nI 1)))))), (0, .ref (a 0)), (1, .long y), (3, .int x1), (4, .int x2), (8, .int (nI i))]) hx hb dX6_hike_170 hl (by decide) rfl (fun ls hl => ?_)
                          refine lv_iinc (v := nI (i + 1)) (lv' := [(8, .int (nI (i + 1))), (7, .int (nI 0)), (6, .int (nI 1)), (5, .int (cMax (slowS S y i) (((nI 12) + (cMax (nI 0) ((nI 14) - (c_age S i)))) - ((nI 2) * ((c_skl S i) &&& (nI 1)))))), (0, .ref (a 0)), (1, .long y), (3, .int x1), (4, .int x2)]) hx hb dX6_hike_172 hl (k := 7) rfl (nI_1 _) (by decide) rfl (fun ls hl => ?_)
                          refine lv_goto (tgt := 62) hx hb dX6_hike_175 (by decide) ?_
                          have hl : lv_has ls 9 [(8, .int (nI (i + 1))), (7, .int (nI 0)), (6, .int (nI 1)), (5, .int (slowS S y (i + 1))), (0, .ref (a 0)), (1, .long y), (3, .int x1), (4, .int x2)] := cb_loc hl (e := Value.int (slowS S y (i + 1))) 3 rfl (congrArg Value.int (show cMax (slowS S y i) (((nI 12) + (cMax (nI 0) ((nI 14) - (c_age S i)))) - ((nI 2) * ((c_skl S i) &&& (nI 1)))) = slowS S y (i + 1) from (slow_t c_79)))
                          have hl : lv_has ls 9 [(8, .int (nI (i + 1))), (7, .int (nI 0)), (6, .int (bI (eldK S y (i + 1)))), (5, .int (slowS S y (i + 1))), (0, .ref (a 0)), (1, .long y), (3, .int x1), (4, .int x2)] := cb_loc hl (e := Value.int (bI (eldK S y (i + 1)))) 2 rfl (congrArg Value.int (show nI 1 = bI (eldK S y (i + 1)) from (bI_eq1 (by rw [eldK_t c_79, c_123]; exact decide_eq_true (Int32.not_lt.mp c_135)))))
                          have hl : lv_has ls 9 [(8, .int (nI (i + 1))), (7, .int (bI (sk1K S y (i + 1)))), (6, .int (bI (eldK S y (i + 1)))), (5, .int (slowS S y (i + 1))), (0, .ref (a 0)), (1, .long y), (3, .int x1), (4, .int x2)] := cb_loc hl (e := Value.int (bI (sk1K S y (i + 1)))) 1 rfl (congrArg Value.int (show nI 0 = bI (sk1K S y (i + 1)) from (bI_eq0 (by rw [sk1K_t c_79, c_147, skl1]; exact ts_nt (fun z => c_162 ((sar1 (by omega)).mpr z))))))
                          exact ih_62 (i + 1) (by omega) (by omega) H locs hP hD hS ls (lv_sub hl [4, 5, 6, 7, 3, 2, 1, 0] rfl)
                        · skip
                          refine lv_iconst (v := nI 1) hx hb dX6_hike_165 (by decide) ?_
                          refine lv_goto (tgt := 170) hx hb dX6_hike_166 (by decide) ?_
                          refine lv_istore (lv' := [(7, .int (nI 1)), (6, .int (nI 1)), (5, .int (cMax (slowS S y i) (((nI 12) + (cMax (nI 0) ((nI 14) - (c_age S i)))) - ((nI 2) * ((c_skl S i) &&& (nI 1)))))), (0, .ref (a 0)), (1, .long y), (3, .int x1), (4, .int x2), (8, .int (nI i))]) hx hb dX6_hike_170 hl (by decide) rfl (fun ls hl => ?_)
                          refine lv_iinc (v := nI (i + 1)) (lv' := [(8, .int (nI (i + 1))), (7, .int (nI 1)), (6, .int (nI 1)), (5, .int (cMax (slowS S y i) (((nI 12) + (cMax (nI 0) ((nI 14) - (c_age S i)))) - ((nI 2) * ((c_skl S i) &&& (nI 1)))))), (0, .ref (a 0)), (1, .long y), (3, .int x1), (4, .int x2)]) hx hb dX6_hike_172 hl (k := 7) rfl (nI_1 _) (by decide) rfl (fun ls hl => ?_)
                          refine lv_goto (tgt := 62) hx hb dX6_hike_175 (by decide) ?_
                          have hl : lv_has ls 9 [(8, .int (nI (i + 1))), (7, .int (nI 1)), (6, .int (nI 1)), (5, .int (slowS S y (i + 1))), (0, .ref (a 0)), (1, .long y), (3, .int x1), (4, .int x2)] := cb_loc hl (e := Value.int (slowS S y (i + 1))) 3 rfl (congrArg Value.int (show cMax (slowS S y i) (((nI 12) + (cMax (nI 0) ((nI 14) - (c_age S i)))) - ((nI 2) * ((c_skl S i) &&& (nI 1)))) = slowS S y (i + 1) from (slow_t c_79)))
                          have hl : lv_has ls 9 [(8, .int (nI (i + 1))), (7, .int (nI 1)), (6, .int (bI (eldK S y (i + 1)))), (5, .int (slowS S y (i + 1))), (0, .ref (a 0)), (1, .long y), (3, .int x1), (4, .int x2)] := cb_loc hl (e := Value.int (bI (eldK S y (i + 1)))) 2 rfl (congrArg Value.int (show nI 1 = bI (eldK S y (i + 1)) from (bI_eq1 (by rw [eldK_t c_79, c_123]; exact decide_eq_true (Int32.not_lt.mp c_135)))))
                          have hl : lv_has ls 9 [(8, .int (nI (i + 1))), (7, .int (bI (sk1K S y (i + 1)))), (6, .int (bI (eldK S y (i + 1)))), (5, .int (slowS S y (i + 1))), (0, .ref (a 0)), (1, .long y), (3, .int x1), (4, .int x2)] := cb_loc hl (e := Value.int (bI (sk1K S y (i + 1)))) 1 rfl (congrArg Value.int (show nI 1 = bI (sk1K S y (i + 1)) from (bI_eq1 (by rw [sk1K_t c_79, c_147, skl1]; exact (sar1 (by omega)).mp c_162))))
                          exact ih_62 (i + 1) (by omega) (by omega) H locs hP hD hS ls (lv_sub hl [4, 5, 6, 7, 3, 2, 1, 0] rfl)
                · have c_79 : ((y >>> ((nI i).toInt64 &&& 63)) &&& (lN 1)) = (lN 0) := lg_cmp_t c_79
                  have c_79 := (l_bits (by omega)).mp c_79
                  refine lv_goto (tgt := 172) hx hb dX6_hike_82 (by decide) ?_
                  refine lv_iinc (v := nI (i + 1)) (lv' := [(8, .int (nI (i + 1))), (0, .ref (a 0)), (1, .long y), (3, .int x1), (4, .int x2), (5, .int (slowS S y i)), (6, .int (bI (eldK S y i))), (7, .int (bI (sk1K S y i)))]) hx hb dX6_hike_172 hl (k := 7) rfl (nI_1 _) (by decide) rfl (fun ls hl => ?_)
                  refine lv_goto (tgt := 62) hx hb dX6_hike_175 (by decide) ?_
                  have hl : lv_has ls 9 [(8, .int (nI (i + 1))), (0, .ref (a 0)), (1, .long y), (3, .int x1), (4, .int x2), (5, .int (slowS S y (i + 1))), (6, .int (bI (eldK S y i))), (7, .int (bI (sk1K S y i)))] := cb_loc hl (e := Value.int (slowS S y (i + 1))) 5 rfl (congrArg Value.int (show slowS S y i = slowS S y (i + 1) from (slow_f c_79)))
                  have hl : lv_has ls 9 [(8, .int (nI (i + 1))), (0, .ref (a 0)), (1, .long y), (3, .int x1), (4, .int x2), (5, .int (slowS S y (i + 1))), (6, .int (bI (eldK S y (i + 1)))), (7, .int (bI (sk1K S y i)))] := cb_loc hl (e := Value.int (bI (eldK S y (i + 1)))) 6 rfl (congrArg Value.int (show bI (eldK S y i) = bI (eldK S y (i + 1)) from (congrArg bI (eldK_f c_79))))
                  have hl : lv_has ls 9 [(8, .int (nI (i + 1))), (0, .ref (a 0)), (1, .long y), (3, .int x1), (4, .int x2), (5, .int (slowS S y (i + 1))), (6, .int (bI (eldK S y (i + 1)))), (7, .int (bI (sk1K S y (i + 1))))] := cb_loc hl (e := Value.int (bI (sk1K S y (i + 1)))) 7 rfl (congrArg Value.int (show bI (sk1K S y i) = bI (sk1K S y (i + 1)) from (congrArg bI (sk1K_f c_79))))
                  exact ih_62 (i + 1) (by omega) (by omega) H locs hP hD hS ls (lv_sub hl [1, 2, 3, 4, 5, 6, 7, 0] rfl)
          have hl : lv_has ls 9 [(8, .int (nI 0)), (7, .int (nI 0)), (6, .int (nI 0)), (5, .int (slowS S y 0)), (0, .ref (a 0)), (1, .long y), (3, .int x1), (4, .int x2)] := cb_loc hl (e := Value.int (slowS S y 0)) 3 rfl (congrArg Value.int (show nI 0 = slowS S y 0 from rfl))
          have hl : lv_has ls 9 [(8, .int (nI 0)), (7, .int (nI 0)), (6, .int (bI (eldK S y 0))), (5, .int (slowS S y 0)), (0, .ref (a 0)), (1, .long y), (3, .int x1), (4, .int x2)] := cb_loc hl (e := Value.int (bI (eldK S y 0))) 2 rfl (congrArg Value.int (show nI 0 = bI (eldK S y 0) from (bI_eq0 rfl)))
          have hl : lv_has ls 9 [(8, .int (nI 0)), (7, .int (bI (sk1K S y 0))), (6, .int (bI (eldK S y 0))), (5, .int (slowS S y 0)), (0, .ref (a 0)), (1, .long y), (3, .int x1), (4, .int x2)] := cb_loc hl (e := Value.int (bI (sk1K S y 0))) 1 rfl (congrArg Value.int (show nI 0 = bI (sk1K S y 0) from (bI_eq0 rfl)))
          exact L_62 (c_ns S + 1) 0 (by omega) (by omega) H locs hP hD hS ls (lv_sub hl [4, 5, 6, 7, 3, 2, 1, 0] rfl)
        · have c_41 : (inR x2 (nI 0) (nI 3000)) = false := bI_0 c_41
          refine lv_aload_n hx hb dX6_hike_44 rfl (lv_at hl 0 rfl) ?_
          refine lv_iconst (v := nI 1) hx hb dX6_hike_45 (by decide) ?_
          have hF_46 : ∀ q, va_A (mb_w a k S 0) H.size q → A q := va_free hD hS hA [0, 1, 2, 3, 4, 5, 6, 7, 8, 9, 10, 11, 12, 13, 14] rfl
          refine va_calli (va_runV (As := [.int (nI 1)]) (rest := []) ⟨hx, hb, hml, hown, hts⟩ (c_X6_no l dC dI a k S 0 H.size 1) (cwV 1 hts gX6_hike_X6_no rfl rfl rfl (by decide +kernel) ⟨(Nat.le_of_ble_eq_true rfl), (Nat.le_of_ble_eq_true rfl)⟩) ⟨cT_blind, va_recv hK hP (ci := 6) (q0 := 0) rfl rfl, fun U hU hW => ⟨rfl, cT_of hK hP hD hU hW⟩⟩ rfl rfl hl.1 rfl (lv_room (Nat.le_of_ble_eq_true rfl)) dX6_hike_46 ⟨(by show 0 + 0 ≤ 0; omega), (by show 0 + 0 ≤ 0; omega)⟩) hS (fun q _ h => hF_46 q h) hF_46 (fun r_46 u8 t8 H_46 L_46_ ht hvm hw hB hz1 hk1 hS => ?_)
          obtain ⟨hP, -, hD9⟩ := hB
          rw [ht] at hP
          have hD := hD9.weaken (B := A) (fun _ q _ h => hF_46 q.1 h)
          have hP : va_P (dC, dI) vwCl (mb_w a k S 1) H_46 := hP
          have hD : va_D A (mb_w a k S 1) := hD
          subst hw
          have hk9 : k_hike S y x1 x2 = 1 := by rw [k_hike, if_neg hy1, if_pos hy2, if_pos c_29, if_neg (by rw [c_41]; decide)]
          have ew : (mb_w a k S 1) = (mb_w a k S (k_hike S y x1 x2)) := (by rw [hk9]; first | done | rfl)
          have hP : va_P (dC, dI) vwCl (mb_w a k S (k_hike S y x1 x2)) H_46 := by rw [← ew]; exact hP
          have hD : va_D A (mb_w a k S (k_hike S y x1 x2)) := by rw [← ew]; exact hD
          rw [hQ]
          refine W.widen (k := 0) (n := 0) (by omega) (by omega) ?_
          exact W.iret (v := nI 0) hx hb hr (fun t9 ht9 hW9 => ⟨⟨nI 0, (), rfl, (fun h => absurd (hk9.symm.trans h) (by decide)), cB_of hP hK hD ht9 hW9⟩, hS.F ht9⟩) hS.2.2 dX6_hike_49
abbrev rm_X6_end : Room := { frames := 1, cells := 0, slots := 0, locals := 21 }
set_option maxHeartbeats 4000000 in
set_option maxRecDepth 100000 in
theorem c_X6_end (l : Launch) (dC : Nat → ClassId) (dI : Nat → Nat → Nat) (a : Nat → Nat) (k : Nat → ClassId) (S : cs_S) (th : Nat) (sz : Nat) (hI : Inv S) : Met l yX6_end wsX6_end rm_X6_end (va_Pc [.ref (a 0)] (cT dC dI sz (mb_w a k S th) (mb_ty k))) (va_Qi (fun (r : Int32) (_ : Unit) => (k_end S = 0 → r = nI (c_day S + 1))) (fun _ t => cB dC dI (va_A (mb_w a k S th) sz) (mb_w a k (kS (k_end S) (S_end S) S) (k_end S)) (mb_ty k) t) (va_A (mb_w a k S th) sz)) 0 0 (va_A (mb_w a k S th) sz) := by
  refine Met.ofW (cc := cX6_end) (maxL := 2) (ret := (some .int)) (by decide) rfl ?_
  intro p e s m args below meth c s₁ B hml hv
  obtain ⟨rfl, hsz, hP, hK, hD0⟩ := hv
  have hx := B.exec
  have hb := B.bytes
  have hr := B.returns
  have hts := atoms_spec (ws := wsX6_end) B.pre
  have hown : s.vm.findClass RX6 = some m.cls := findClass_of_methodNamed B.named
  have hlocks := B.notSynchronized
  subst hsz
  have hD := hD0.self (sz := s.heap.size)
  generalize hAe : va_A (mb_w a k S th) s.heap.size = A at hD ⊢
  have hA : ∀ q : Nat, s.heap.size ≤ q → A q := fun q h => by rw [← hAe]; exact Or.inr h
  have hS : va_S A s.heap s.heap [] := va_S.rf
  obtain ⟨Q, hQ⟩ : ∃ Q, Q = MQ below (va_Qi (fun (r : Int32) (_ : Unit) => (k_end S = 0 → r = nI (c_day S + 1))) (fun _ t => cB dC dI A (mb_w a k (kS (k_end S) (S_end S) S) (k_end S)) (mb_ty k) t) A) ([.ref (a 0)] : List Value).toArray s 0 0 A := ⟨_, rfl⟩
  show W p l e rm_X6_end s m _ below meth c s.heap [] 0 0 (MQ below _ _ _ _ _ _) _
  rw [← hQ]
  have i_X6 : ∀ w ∈ wsX60, w ∈ wsX6_end := fun w h => List.mem_cons_of_mem _ (List.mem_append_right _ h)
  obtain ⟨⟨hday, hnp, hns, hnt, hnf, hnm, hnb, hme⟩, hpat, hage, hten, hcnt, hplc, heat, hned, hhld, hbad, hbad0, hbag⟩ := id hI
  have f_0 := hts (.fieldLink RX6 53 "CampBookModel" "thrown" "I") (by decide +kernel)
  have f_1 := hts (.fieldLink RX6 128 "CampBookModel" "day" "I") (by decide +kernel)
  have f_2 := hts (.fieldLink RX6 156 "CampBookModel" "eaten" "I") (by decide +kernel)
  have f_3 := hts (.fieldLink RX6 31 "CampBookModel" "hasEaten" "[Z") (by decide +kernel)
  have hl := lv_entry ([.ref (a 0)]) (n := 2) (Nat.le_of_ble_eq_true rfl)
  rw [lg_entry_eq]
  generalize (lg_sl ([.ref (a 0)]) ++ List.replicate (2 - (lg_sl ([.ref (a 0)])).length) Slot.unset).toArray = ls at hl ⊢
  have hl : lv_has ls 2 [(0, .ref (a 0))] := hl
  refine lv_aload_n hx hb dX6_end_0 rfl (lv_at hl 0 rfl) ?_
  refine lv_iconst (v := nI 0) hx hb dX6_end_1 (by decide) ?_
  refine va_put (D := (dC, dI)) (ci := 6) (v := .int (nI 0)) (ty := .int) (C := RX6) (T := TX6) (N := 23) hx hb hts i_X6 tyX6 tyX6_ok nmX6 hown hK hP hD hS 0 rfl rfl 0 (by decide) f_0 (fun _ h9 => h9) rfl (by decide +kernel) rfl rfl (Nat.le_of_ble_eq_true rfl) dX6_end_2 (fun H locs hP hD hS => ?_)
  rw [wsM_TH] at hP hD
  have hP : va_P (dC, dI) vwCl (mb_w a k S 0) H := hP
  have hD : va_D A (mb_w a k S 0) := hD
  refine lv_aload_n hx hb dX6_end_5 rfl (lv_at hl 0 rfl) ?_
  refine va_get (D := (dC, dI)) (ci := 6) (v := .int (nI (c_day S))) (C := RX6) (T := TX6) (N := 23) hx hb hts i_X6 hown hK hP 0 rfl rfl 1 (by decide) f_1 (fun _ h9 => h9) rfl dX6_end_6 ?_
  refine lv_bipush (v := nI 60) hx hb dX6_end_9 (by decide) ?_
  refine lv_icmp_ne (tgt := 20) hx hb dX6_end_11 (by decide) (fun c_11 => ?_) (fun c_11 => ?_)
  · have c_11 : (c_day S) ≠ 60 := cb_ne (by omega) (by omega) c_11
    have hq : c_day S < 60 := by omega
    refine lv_aload_n hx hb dX6_end_20 rfl (lv_at hl 0 rfl) ?_
    refine lv_dup hx hb dX6_end_21 rfl ?_
    refine va_get (D := (dC, dI)) (ci := 6) (v := .int (nI (c_day S))) (C := RX6) (T := TX6) (N := 23) hx hb hts i_X6 hown hK hP 0 rfl rfl 1 (by decide) f_1 (fun _ h9 => h9) rfl dX6_end_22 ?_
    refine lv_iconst (v := nI 1) hx hb dX6_end_25 (by decide) ?_
    refine lv_iadd hx hb dX6_end_26 ?_
    refine cb_topi (nI_add _ _) ?_
    refine va_put (D := (dC, dI)) (ci := 6) (v := .int (nI ((c_day S) + 1))) (ty := .int) (C := RX6) (T := TX6) (N := 23) hx hb hts i_X6 tyX6 tyX6_ok nmX6 hown hK hP hD hS 0 rfl rfl 1 (by decide) f_1 (fun _ h9 => h9) rfl (by decide +kernel) rfl rfl (Nat.le_of_ble_eq_true rfl) dX6_end_27 (fun H locs hP hD hS => ?_)
    rw [wsM_day] at hP hD
    have hP : va_P (dC, dI) vwCl (mb_w a k (s_day S ((c_day S) + 1)) 0) H := hP
    have hD : va_D A (mb_w a k (s_day S ((c_day S) + 1)) 0) := hD
    refine lv_aload_n hx hb dX6_end_30 rfl (lv_at hl 0 rfl) ?_
    refine lv_iconst (v := nI 0) hx hb dX6_end_31 (by decide) ?_
    refine va_put (D := (dC, dI)) (ci := 6) (v := .int (nI 0)) (ty := .int) (C := RX6) (T := TX6) (N := 23) hx hb hts i_X6 tyX6 tyX6_ok nmX6 hown hK hP hD hS 0 rfl rfl 19 (by decide) f_2 (fun _ h9 => h9) rfl (by decide +kernel) rfl rfl (Nat.le_of_ble_eq_true rfl) dX6_end_32 (fun H locs hP hD hS => ?_)
    rw [wsM_me] at hP hD
    have hP : va_P (dC, dI) vwCl (mb_w a k (s_me (s_day S ((c_day S) + 1)) 0) 0) H := hP
    have hD : va_D A (mb_w a k (s_me (s_day S ((c_day S) + 1)) 0) 0) := hD
    refine lv_iconst (v := nI 0) hx hb dX6_end_35 (by decide) ?_
    refine lv_istore_n (lv' := [(1, .int (nI 0)), (0, .ref (a 0))]) hx hb dX6_end_36 rfl hl (by decide) rfl (fun ls hl => ?_)
    have L_37 : ∀ (n i : Nat), i ≤ 30 → 30 + 1 ≤ i + n → ∀ (H : Heap) (locs : List Loc), va_P (dC, dI) vwCl (mb_w a k (s_eat (s_me (s_day S (c_day S + 1)) 0) (endK S i)) 0) H → va_D A (mb_w a k (s_eat (s_me (s_day S (c_day S + 1)) 0) (endK S i)) 0) → va_S A s.heap H locs → ∀ (ls : Array Slot), lv_has ls 2 [(0, .ref (a 0)), (1, .int (nI i))] → W p l e rm_X6_end s m ([.ref (a 0)] : List Value).toArray below meth c H locs 0 0 Q (F0 m 37 ls []) := by
      intro n
      induction n with
      | zero => intro i h1 h2; exact absurd h2 (by omega)
      | succ n ih_37 =>
        intro i hle_37 hfu_37 H locs hP hD hS ls hl
        refine lv_iload_n hx hb dX6_end_37 rfl (lv_at hl 1 rfl) ?_
        refine lv_bipush (v := nI 30) hx hb dX6_end_38 (by decide) ?_
        refine lv_icmp_ge (tgt := 56) hx hb dX6_end_40 (by decide) (fun c_40 => ?_) (fun c_40 => ?_)
        · have c_40 : 30 ≤ i := cb_ge (by omega) (by omega) c_40
          have e9 : i = 30 := by omega
          subst e9
          refine lv_aload_n hx hb dX6_end_56 rfl (lv_at hl 0 rfl) ?_
          refine va_get (D := (dC, dI)) (ci := 6) (v := .int (nI (c_day S + 1))) (C := RX6) (T := TX6) (N := 23) hx hb hts i_X6 hown hK hP 0 rfl rfl 1 (by decide) f_1 (fun _ h9 => h9) rfl dX6_end_57 ?_
          have hk9 : k_end S = 0 := by simp only [k_end, hq, if_true, if_false, Bool.false_eq_true, true_or, or_true, false_or, or_false, reduceCtorEq]
          have ew : (mb_w a k (s_eat (s_me (s_day S (c_day S + 1)) 0) (endK S 30)) 0) = (mb_w a k (kS (k_end S) (S_end S) S) (k_end S)) := (by rw [hk9, kS_0, S_end, ss_end, endK_30 hI]; first | done | rfl)
          have hP : va_P (dC, dI) vwCl (mb_w a k (kS (k_end S) (S_end S) S) (k_end S)) H := by rw [← ew]; exact hP
          have hD : va_D A (mb_w a k (kS (k_end S) (S_end S) S) (k_end S)) := by rw [← ew]; exact hD
          rw [hQ]
          refine W.widen (k := 0) (n := 0) (by omega) (by omega) ?_
          exact W.iret (v := nI (c_day S + 1)) hx hb hr (fun t9 ht9 hW9 => ⟨⟨nI (c_day S + 1), (), rfl, (fun _ => rfl), cB_of hP hK hD ht9 hW9⟩, hS.F ht9⟩) hS.2.2 dX6_end_60
        · have c_40 : i < 30 := cb_nge (by omega) (by omega) c_40
          refine lv_aload_n hx hb dX6_end_43 rfl (lv_at hl 0 rfl) ?_
          refine va_get (D := (dC, dI)) (ci := 6) (v := .ref (a 8)) (C := RX6) (T := TX6) (N := 23) hx hb hts i_X6 hown hK hP 0 rfl rfl 11 (by decide) f_3 (fun _ h9 => h9) rfl dX6_end_44 ?_
          refine lv_iload_n hx hb dX6_end_47 rfl (lv_at hl 1 rfl) ?_
          refine lv_iconst (v := nI 0) hx hb dX6_end_48 (by decide) ?_
          refine cb_zast hx hb hK hP hD hS 8 7 (f := fun j => bI ((endK S i) j)) (x := false) rfl rfl (j := i) (by omega) (Nat.le_of_ble_eq_true rfl) dX6_end_49 (fun H locs hP hD hS => ?_)
          rw [updB_I] at hP hD
          rw [wsM_eat, ss_eat] at hP hD
          have hP : va_P (dC, dI) vwCl (mb_w a k (s_eat (s_me (s_day S (c_day S + 1)) 0) (updB (endK S i) i false)) 0) H := hP
          have hD : va_D A (mb_w a k (s_eat (s_me (s_day S (c_day S + 1)) 0) (updB (endK S i) i false)) 0) := hD
          refine lv_iinc (v := nI (i + 1)) (lv' := [(1, .int (nI (i + 1))), (0, .ref (a 0))]) hx hb dX6_end_50 hl (k := 1) rfl (nI_1 _) (by decide) rfl (fun ls hl => ?_)
          refine lv_goto (tgt := 37) hx hb dX6_end_53 (by decide) ?_
          have ew : (mb_w a k (s_eat (s_me (s_day S (c_day S + 1)) 0) (updB (endK S i) i false)) 0) = (mb_w a k (s_eat (s_me (s_day S (c_day S + 1)) 0) (endK S (i + 1))) 0) := (by rw [endK_s])
          have hP : va_P (dC, dI) vwCl (mb_w a k (s_eat (s_me (s_day S (c_day S + 1)) 0) (endK S (i + 1))) 0) H := by rw [← ew]; exact hP
          have hD : va_D A (mb_w a k (s_eat (s_me (s_day S (c_day S + 1)) 0) (endK S (i + 1))) 0) := by rw [← ew]; exact hD
          exact ih_37 (i + 1) (by omega) (by omega) H locs hP hD hS ls (lv_sub hl [1, 0] rfl)
    have ew : (mb_w a k (s_me (s_day S ((c_day S) + 1)) 0) 0) = (mb_w a k (s_eat (s_me (s_day S (c_day S + 1)) 0) (endK S 0)) 0) := (by rw [end_in])
    have hP : va_P (dC, dI) vwCl (mb_w a k (s_eat (s_me (s_day S (c_day S + 1)) 0) (endK S 0)) 0) H := by rw [← ew]; exact hP
    have hD : va_D A (mb_w a k (s_eat (s_me (s_day S (c_day S + 1)) 0) (endK S 0)) 0) := by rw [← ew]; exact hD
    exact L_37 (30 + 1) 0 (by omega) (by omega) H locs hP hD hS ls (lv_sub hl [1, 0] rfl)
  · have c_11 : (c_day S) = 60 := cb_nne (by omega) (by omega) c_11
    have hq : ¬ c_day S < 60 := by omega
    refine lv_aload_n hx hb dX6_end_14 rfl (lv_at hl 0 rfl) ?_
    refine lv_iconst (v := nI 1) hx hb dX6_end_15 (by decide) ?_
    have hF_16 : ∀ q, va_A (mb_w a k S 0) H.size q → A q := va_free hD hS hA [0, 1, 2, 3, 4, 5, 6, 7, 8, 9, 10, 11, 12, 13, 14] rfl
    refine va_calli (va_runV (As := [.int (nI 1)]) (rest := []) ⟨hx, hb, hml, hown, hts⟩ (c_X6_no l dC dI a k S 0 H.size 1) (cwV 1 hts gX6_end_X6_no rfl rfl rfl (by decide +kernel) ⟨(Nat.le_of_ble_eq_true rfl), (Nat.le_of_ble_eq_true rfl)⟩) ⟨cT_blind, va_recv hK hP (ci := 6) (q0 := 0) rfl rfl, fun U hU hW => ⟨rfl, cT_of hK hP hD hU hW⟩⟩ rfl rfl hl.1 rfl (lv_room (Nat.le_of_ble_eq_true rfl)) dX6_end_16 ⟨(by show 0 + 0 ≤ 0; omega), (by show 0 + 0 ≤ 0; omega)⟩) hS (fun q _ h => hF_16 q h) hF_16 (fun r_16 u8 t8 H_16 L_16_ ht hvm hw hB hz1 hk1 hS => ?_)
    obtain ⟨hP, -, hD9⟩ := hB
    rw [ht] at hP
    have hD := hD9.weaken (B := A) (fun _ q _ h => hF_16 q.1 h)
    have hP : va_P (dC, dI) vwCl (mb_w a k S 1) H_16 := hP
    have hD : va_D A (mb_w a k S 1) := hD
    subst hw
    have hk9 : k_end S = 1 := by simp only [k_end, hq, if_true, if_false, Bool.false_eq_true, true_or, or_true, false_or, or_false, reduceCtorEq]
    have ew : (mb_w a k S 1) = (mb_w a k (kS (k_end S) (S_end S) S) (k_end S)) := (by rw [hk9]; first | done | rfl)
    have hP : va_P (dC, dI) vwCl (mb_w a k (kS (k_end S) (S_end S) S) (k_end S)) H_16 := by rw [← ew]; exact hP
    have hD : va_D A (mb_w a k (kS (k_end S) (S_end S) S) (k_end S)) := by rw [← ew]; exact hD
    rw [hQ]
    refine W.widen (k := 0) (n := 0) (by omega) (by omega) ?_
    exact W.iret (v := nI 0) hx hb hr (fun t9 ht9 hW9 => ⟨⟨nI 0, (), rfl, (fun h => absurd (hk9.symm.trans h) (by decide)), cB_of hP hK hD ht9 hW9⟩, hS.F ht9⟩) hS.2.2 dX6_end_19
abbrev rm_X6_day : Room := { frames := 0, cells := 0, slots := 0, locals := 0 }
set_option maxHeartbeats 4000000 in
set_option maxRecDepth 100000 in
theorem c_X6_day (l : Launch) (dC : Nat → ClassId) (dI : Nat → Nat → Nat) (a : Nat → Nat) (k : Nat → ClassId) (S : cs_S) (th : Nat) (sz : Nat)  : Met l yX6_day wsX6_day rm_X6_day (va_Pc [.ref (a 0)] (cT dC dI sz (mb_w a k S th) (mb_ty k))) (va_Qi (fun (r : Int32) (_ : Unit) => r = nI (c_day S)) (fun _ t => cB dC dI (va_A (mb_w a k S th) sz) (mb_w a k S 0) (mb_ty k) t) (va_A (mb_w a k S th) sz)) 0 0 (va_A (mb_w a k S th) sz) := by
  refine Met.ofW (cc := cX6_day) (maxL := 1) (ret := (some .int)) (by decide) rfl ?_
  intro p e s m args below meth c s₁ B hml hv
  obtain ⟨rfl, hsz, hP, hK, hD0⟩ := hv
  have hx := B.exec
  have hb := B.bytes
  have hr := B.returns
  have hts := atoms_spec (ws := wsX6_day) B.pre
  have hown : s.vm.findClass RX6 = some m.cls := findClass_of_methodNamed B.named
  have hlocks := B.notSynchronized
  subst hsz
  have hD := hD0.self (sz := s.heap.size)
  generalize hAe : va_A (mb_w a k S th) s.heap.size = A at hD ⊢
  have hA : ∀ q : Nat, s.heap.size ≤ q → A q := fun q h => by rw [← hAe]; exact Or.inr h
  have hS : va_S A s.heap s.heap [] := va_S.rf
  obtain ⟨Q, hQ⟩ : ∃ Q, Q = MQ below (va_Qi (fun (r : Int32) (_ : Unit) => r = nI (c_day S)) (fun _ t => cB dC dI A (mb_w a k S 0) (mb_ty k) t) A) ([.ref (a 0)] : List Value).toArray s 0 0 A := ⟨_, rfl⟩
  show W p l e rm_X6_day s m _ below meth c s.heap [] 0 0 (MQ below _ _ _ _ _ _) _
  rw [← hQ]
  have i_X6 : ∀ w ∈ wsX60, w ∈ wsX6_day := fun w h => List.mem_cons_of_mem _ (List.mem_append_right _ h)
  have f_0 := hts (.fieldLink RX6 53 "CampBookModel" "thrown" "I") (by decide +kernel)
  have f_1 := hts (.fieldLink RX6 128 "CampBookModel" "day" "I") (by decide +kernel)
  have hl := lv_entry ([.ref (a 0)]) (n := 1) (Nat.le_of_ble_eq_true rfl)
  rw [lg_entry_eq]
  generalize (lg_sl ([.ref (a 0)]) ++ List.replicate (1 - (lg_sl ([.ref (a 0)])).length) Slot.unset).toArray = ls at hl ⊢
  have hl : lv_has ls 1 [(0, .ref (a 0))] := hl
  refine lv_aload_n hx hb dX6_day_0 rfl (lv_at hl 0 rfl) ?_
  refine lv_iconst (v := nI 0) hx hb dX6_day_1 (by decide) ?_
  refine va_put (D := (dC, dI)) (ci := 6) (v := .int (nI 0)) (ty := .int) (C := RX6) (T := TX6) (N := 23) hx hb hts i_X6 tyX6 tyX6_ok nmX6 hown hK hP hD hS 0 rfl rfl 0 (by decide) f_0 (fun _ h9 => h9) rfl (by decide +kernel) rfl rfl (Nat.le_of_ble_eq_true rfl) dX6_day_2 (fun H locs hP hD hS => ?_)
  rw [wsM_TH] at hP hD
  have hP : va_P (dC, dI) vwCl (mb_w a k S 0) H := hP
  have hD : va_D A (mb_w a k S 0) := hD
  refine lv_aload_n hx hb dX6_day_5 rfl (lv_at hl 0 rfl) ?_
  refine va_get (D := (dC, dI)) (ci := 6) (v := .int (nI (c_day S))) (C := RX6) (T := TX6) (N := 23) hx hb hts i_X6 hown hK hP 0 rfl rfl 1 (by decide) f_1 (fun _ h9 => h9) rfl dX6_day_6 ?_
  have ew : (mb_w a k S 0) = (mb_w a k S 0) := rfl
  have hP : va_P (dC, dI) vwCl (mb_w a k S 0) H := by rw [← ew]; exact hP
  have hD : va_D A (mb_w a k S 0) := by rw [← ew]; exact hD
  rw [hQ]
  refine W.widen (k := 0) (n := 0) (by omega) (by omega) ?_
  exact W.iret (v := nI (c_day S)) hx hb hr (fun t9 ht9 hW9 => ⟨⟨nI (c_day S), (), rfl, rfl, cB_of hP hK hD ht9 hW9⟩, hS.F ht9⟩) hS.2.2 dX6_day_9
abbrev rm_X6_meanAge : Room := { frames := 0, cells := 0, slots := 0, locals := 0 }
set_option maxHeartbeats 4000000 in
set_option maxRecDepth 100000 in
theorem c_X6_meanAge (l : Launch) (dC : Nat → ClassId) (dI : Nat → Nat → Nat) (a : Nat → Nat) (k : Nat → ClassId) (S : cs_S) (th : Nat) (sz : Nat) (hI : Inv S) : Met l yX6_meanAge wsX6_meanAge rm_X6_meanAge (va_Pc [.ref (a 0)] (cT dC dI sz (mb_w a k S th) (mb_ty k))) (va_Qd (fun (r : UInt64) (_ : Unit) => r = mean S) (fun _ t => cB dC dI (va_A (mb_w a k S th) sz) (mb_w a k S 0) (mb_ty k) t) (va_A (mb_w a k S th) sz)) 0 0 (va_A (mb_w a k S th) sz) := by
  refine Met.ofW (cc := cX6_meanAge) (maxL := 3) (ret := (some .double)) (by decide) rfl ?_
  intro p e s m args below meth c s₁ B hml hv
  obtain ⟨rfl, hsz, hP, hK, hD0⟩ := hv
  have hx := B.exec
  have hb := B.bytes
  have hr := B.returns
  have hts := atoms_spec (ws := wsX6_meanAge) B.pre
  have hown : s.vm.findClass RX6 = some m.cls := findClass_of_methodNamed B.named
  have hlocks := B.notSynchronized
  subst hsz
  have hD := hD0.self (sz := s.heap.size)
  generalize hAe : va_A (mb_w a k S th) s.heap.size = A at hD ⊢
  have hA : ∀ q : Nat, s.heap.size ≤ q → A q := fun q h => by rw [← hAe]; exact Or.inr h
  have hS : va_S A s.heap s.heap [] := va_S.rf
  obtain ⟨Q, hQ⟩ : ∃ Q, Q = MQ below (va_Qd (fun (r : UInt64) (_ : Unit) => r = mean S) (fun _ t => cB dC dI A (mb_w a k S 0) (mb_ty k) t) A) ([.ref (a 0)] : List Value).toArray s 0 0 A := ⟨_, rfl⟩
  show W p l e rm_X6_meanAge s m _ below meth c s.heap [] 0 0 (MQ below _ _ _ _ _ _) _
  rw [← hQ]
  have i_X6 : ∀ w ∈ wsX60, w ∈ wsX6_meanAge := fun w h => List.mem_cons_of_mem _ (List.mem_append_right _ h)
  obtain ⟨⟨hday, hnp, hns, hnt, hnf, hnm, hnb, hme⟩, hpat, hage, hten, hcnt, hplc, heat, hned, hhld, hbad, hbad0, hbag⟩ := id hI
  have f_0 := hts (.fieldLink RX6 53 "CampBookModel" "thrown" "I") (by decide +kernel)
  have f_1 := hts (.fieldLink RX6 64 "CampBookModel" "scouts" "I") (by decide +kernel)
  have f_2 := hts (.fieldLink RX6 13 "CampBookModel" "ages" "[I") (by decide +kernel)
  have hl := lv_entry ([.ref (a 0)]) (n := 3) (Nat.le_of_ble_eq_true rfl)
  rw [lg_entry_eq]
  generalize (lg_sl ([.ref (a 0)]) ++ List.replicate (3 - (lg_sl ([.ref (a 0)])).length) Slot.unset).toArray = ls at hl ⊢
  have hl : lv_has ls 3 [(0, .ref (a 0))] := hl
  refine lv_aload_n hx hb dX6_meanAge_0 rfl (lv_at hl 0 rfl) ?_
  refine lv_iconst (v := nI 0) hx hb dX6_meanAge_1 (by decide) ?_
  refine va_put (D := (dC, dI)) (ci := 6) (v := .int (nI 0)) (ty := .int) (C := RX6) (T := TX6) (N := 23) hx hb hts i_X6 tyX6 tyX6_ok nmX6 hown hK hP hD hS 0 rfl rfl 0 (by decide) f_0 (fun _ h9 => h9) rfl (by decide +kernel) rfl rfl (Nat.le_of_ble_eq_true rfl) dX6_meanAge_2 (fun H locs hP hD hS => ?_)
  rw [wsM_TH] at hP hD
  have hP : va_P (dC, dI) vwCl (mb_w a k S 0) H := hP
  have hD : va_D A (mb_w a k S 0) := hD
  refine lv_iconst (v := nI 0) hx hb dX6_meanAge_5 (by decide) ?_
  refine lv_istore_n (lv' := [(1, .int (nI 0)), (0, .ref (a 0))]) hx hb dX6_meanAge_6 rfl hl (by decide) rfl (fun ls hl => ?_)
  refine lv_iconst (v := nI 0) hx hb dX6_meanAge_7 (by decide) ?_
  refine lv_istore_n (lv' := [(2, .int (nI 0)), (1, .int (nI 0)), (0, .ref (a 0))]) hx hb dX6_meanAge_8 rfl hl (by decide) rfl (fun ls hl => ?_)
  have L_9 : ∀ (n i : Nat), i ≤ c_ns S → c_ns S + 1 ≤ i + n → ∀ (H : Heap) (locs : List Loc), va_P (dC, dI) vwCl (mb_w a k S 0) H → va_D A (mb_w a k S 0) → va_S A s.heap H locs → ∀ (ls : Array Slot), lv_has ls 3 [(0, .ref (a 0)), (1, .int (sm (c_age S) i)), (2, .int (nI i))] → W p l e rm_X6_meanAge s m ([.ref (a 0)] : List Value).toArray below meth c H locs 0 0 Q (F0 m 9 ls []) := by
    intro n
    induction n with
    | zero => intro i h1 h2; exact absurd h2 (by omega)
    | succ n ih_9 =>
      intro i hle_9 hfu_9 H locs hP hD hS ls hl
      refine lv_iload_n hx hb dX6_meanAge_9 rfl (lv_at hl 2 rfl) ?_
      refine lv_aload_n hx hb dX6_meanAge_10 rfl (lv_at hl 0 rfl) ?_
      refine va_get (D := (dC, dI)) (ci := 6) (v := .int (nI (c_ns S))) (C := RX6) (T := TX6) (N := 23) hx hb hts i_X6 hown hK hP 0 rfl rfl 3 (by decide) f_1 (fun _ h9 => h9) rfl dX6_meanAge_11 ?_
      refine lv_icmp_ge (tgt := 32) hx hb dX6_meanAge_14 (by decide) (fun c_14 => ?_) (fun c_14 => ?_)
      · have c_14 : (c_ns S) ≤ i := cb_ge (by omega) (by omega) c_14
        refine lv_aload_n hx hb dX6_meanAge_32 rfl (lv_at hl 0 rfl) ?_
        refine va_get (D := (dC, dI)) (ci := 6) (v := .int (nI (c_ns S))) (C := RX6) (T := TX6) (N := 23) hx hb hts i_X6 hown hK hP 0 rfl rfl 3 (by decide) f_1 (fun _ h9 => h9) rfl dX6_meanAge_33 ?_
        refine lv_if_ne (tgt := 43) hx hb dX6_meanAge_36 (by decide) (fun c_36 => ?_) (fun c_36 => ?_)
        · have c_36 : (c_ns S) ≠ 0 := cb_ne (by omega) (by omega) c_36
          refine lv_iload_n hx hb dX6_meanAge_43 rfl (lv_at hl 1 rfl) ?_
          refine lv_i2d hx hb dX6_meanAge_44 ?_
          refine lv_aload_n hx hb dX6_meanAge_45 rfl (lv_at hl 0 rfl) ?_
          refine va_get (D := (dC, dI)) (ci := 6) (v := .int (nI (c_ns S))) (C := RX6) (T := TX6) (N := 23) hx hb hts i_X6 hown hK hP 0 rfl rfl 3 (by decide) f_1 (fun _ h9 => h9) rfl dX6_meanAge_46 ?_
          refine lv_i2d hx hb dX6_meanAge_49 ?_
          refine lv_ddiv hx hb dX6_meanAge_50 (mean_num (ns_nz (by omega) c_36)) ?_
          have ew : (mb_w a k S 0) = (mb_w a k S 0) := rfl
          have hP : va_P (dC, dI) vwCl (mb_w a k S 0) H := by rw [← ew]; exact hP
          have hD : va_D A (mb_w a k S 0) := by rw [← ew]; exact hD
          rw [hQ]
          refine W.widen (k := 0) (n := 0) (by omega) (by omega) ?_
          exact W.dret (v := FP.ddiv (FP.i2d (sm (c_age S) i)) (FP.i2d (nI (c_ns S)))) hx hb hr (fun t9 ht9 hW9 => ⟨⟨FP.ddiv (FP.i2d (sm (c_age S) i)) (FP.i2d (nI (c_ns S))), (), rfl, (by rw [mean_n c_36, show i = c_ns S by omega]), cB_of hP hK hD ht9 hW9⟩, hS.F ht9⟩) hS.2.2 dX6_meanAge_51
        · have c_36 : (c_ns S) = 0 := cb_nne (by omega) (by omega) c_36
          refine lv_dconst0 hx hb dX6_meanAge_39 ?_
          refine lv_goto (tgt := 51) hx hb dX6_meanAge_40 (by decide) ?_
          have ew : (mb_w a k S 0) = (mb_w a k S 0) := rfl
          have hP : va_P (dC, dI) vwCl (mb_w a k S 0) H := by rw [← ew]; exact hP
          have hD : va_D A (mb_w a k S 0) := by rw [← ew]; exact hD
          rw [hQ]
          refine W.widen (k := 0) (n := 0) (by omega) (by omega) ?_
          exact W.dret (v := FP.dconst0) hx hb hr (fun t9 ht9 hW9 => ⟨⟨FP.dconst0, (), rfl, (by rw [mean_0 c_36]), cB_of hP hK hD ht9 hW9⟩, hS.F ht9⟩) hS.2.2 dX6_meanAge_51
      · have c_14 : i < (c_ns S) := cb_nge (by omega) (by omega) c_14
        refine lv_iload_n hx hb dX6_meanAge_17 rfl (lv_at hl 1 rfl) ?_
        refine lv_aload_n hx hb dX6_meanAge_18 rfl (lv_at hl 0 rfl) ?_
        refine va_get (D := (dC, dI)) (ci := 6) (v := .ref (a 2)) (C := RX6) (T := TX6) (N := 23) hx hb hts i_X6 hown hK hP 0 rfl rfl 5 (by decide) f_2 (fun _ h9 => h9) rfl dX6_meanAge_19 ?_
        refine lv_iload_n hx hb dX6_meanAge_22 rfl (lv_at hl 2 rfl) ?_
        refine cb_iald hx hb hK hP 2 1 (f := c_age S) rfl rfl (j := i) (by omega) (Nat.le_of_ble_eq_true rfl) dX6_meanAge_23 ?_
        refine lv_iadd hx hb dX6_meanAge_24 ?_
        refine lv_istore_n (lv' := [(1, .int ((sm (c_age S) i) + (c_age S i))), (0, .ref (a 0)), (2, .int (nI i))]) hx hb dX6_meanAge_25 rfl hl (by decide) rfl (fun ls hl => ?_)
        refine lv_iinc (v := nI (i + 1)) (lv' := [(2, .int (nI (i + 1))), (1, .int ((sm (c_age S) i) + (c_age S i))), (0, .ref (a 0))]) hx hb dX6_meanAge_26 hl (k := 2) rfl (nI_1 _) (by decide) rfl (fun ls hl => ?_)
        refine lv_goto (tgt := 9) hx hb dX6_meanAge_29 (by decide) ?_
        have hl : lv_has ls 3 [(2, .int (nI (i + 1))), (1, .int (sm (c_age S) (i + 1))), (0, .ref (a 0))] := cb_loc hl (e := Value.int (sm (c_age S) (i + 1))) 1 rfl (congrArg Value.int (show (sm (c_age S) i) + (c_age S i) = sm (c_age S) (i + 1) from rfl))
        exact ih_9 (i + 1) (by omega) (by omega) H locs hP hD hS ls (lv_sub hl [2, 1, 0] rfl)
  have hl : lv_has ls 3 [(2, .int (nI 0)), (1, .int (sm (c_age S) 0)), (0, .ref (a 0))] := cb_loc hl (e := Value.int (sm (c_age S) 0)) 1 rfl (congrArg Value.int (show nI 0 = sm (c_age S) 0 from rfl))
  exact L_9 (c_ns S + 1) 0 (by omega) (by omega) H locs hP hD hS ls (lv_sub hl [2, 1, 0] rfl)
abbrev rm_X5_meanAge : Room := { frames := 0, cells := 0, slots := 0, locals := 0 }
set_option maxHeartbeats 4000000 in
set_option maxRecDepth 100000 in
theorem c_X5_meanAge (l : Launch) (dC : Nat → ClassId) (dI : Nat → Nat → Nat) (a : Nat → Nat) (k : Nat → ClassId) (S : cs_S) (hI : Inv S) : Met l yX5_meanAge wsX5_meanAge rm_X5_meanAge (va_Pc [.ref (a 0)] (cR dC dI (cb_w a k S) (cb_ty k))) (vp_Sd (fun r => r = mean S)) 0 0 (fun _ => False) := by
  refine Met.ofW (cc := cX5_meanAge) (maxL := 3) (ret := (some .double)) (by decide) rfl ?_
  intro p e s m args below meth c s₁ B hml hv
  obtain ⟨rfl, hP, hK⟩ := hv
  have hx := B.exec
  have hb := B.bytes
  have hr := B.returns
  have hts := atoms_spec (ws := wsX5_meanAge) B.pre
  have hown : s.vm.findClass RX5 = some m.cls := findClass_of_methodNamed B.named
  have hlocks := B.notSynchronized
  obtain ⟨Q, hQ⟩ : ∃ Q, Q = MQ below (vp_Sd (fun r => r = mean S)) ([.ref (a 0)] : List Value).toArray s 0 0 (fun _ => False) := ⟨_, rfl⟩
  show W p l e rm_X5_meanAge s m _ below meth c s.heap [] 0 0 (MQ below _ _ _ _ _ _) _
  rw [← hQ]
  have i_X3 : ∀ w ∈ wsX30, w ∈ wsX5_meanAge := fun w h => List.mem_cons_of_mem _ (List.mem_append_right _ h)
  have i_X5 : ∀ w ∈ wsX50, w ∈ wsX5_meanAge := fun w h => List.mem_cons_of_mem _ (List.mem_append_left _ (List.mem_append_right _ h))
  obtain ⟨⟨hday, hnp, hns, hnt, hnf, hnm, hnb, hme⟩, hpat, hage, hten, hcnt, hplc, heat, hned, hhld, hbad, hbad0, hbag⟩ := id hI
  have f_0 := hts (.fieldLink RX5 10 "CampBook" "people" "LCampBook$People;") (by decide +kernel)
  have f_1 := hts (.fieldLink RX5 66 "CampBook$People" "scouts" "I") (by decide +kernel)
  have f_2 := hts (.fieldLink RX5 112 "CampBook$People" "age" "[I") (by decide +kernel)
  have hl := lv_entry ([.ref (a 0)]) (n := 3) (Nat.le_of_ble_eq_true rfl)
  rw [lg_entry_eq]
  generalize (lg_sl ([.ref (a 0)]) ++ List.replicate (3 - (lg_sl ([.ref (a 0)])).length) Slot.unset).toArray = ls at hl ⊢
  have hl : lv_has ls 3 [(0, .ref (a 0))] := hl
  refine lv_aload_n hx hb dX5_meanAge_0 rfl (lv_at hl 0 rfl) ?_
  refine va_get (D := (dC, dI)) (ci := 5) (v := .ref (a 1)) (C := RX5) (T := TX5) (N := 6) hx hb hts i_X5 hown hK hP 0 rfl rfl 0 (by decide) f_0 (fun _ h9 => h9) rfl dX5_meanAge_1 ?_
  refine va_get (D := (dC, dI)) (ci := 3) (v := .int (nI (c_ns S))) (C := RX3) (T := TX3) (N := 8) hx hb hts i_X3 hown hK hP 1 rfl rfl 1 (by decide) f_1 (fun _ h9 => h9) rfl dX5_meanAge_4 ?_
  refine lv_if_ne (tgt := 12) hx hb dX5_meanAge_7 (by decide) (fun c_7 => ?_) (fun c_7 => ?_)
  · have c_7 : (c_ns S) ≠ 0 := cb_ne (by omega) (by omega) c_7
    refine lv_iconst (v := nI 0) hx hb dX5_meanAge_12 (by decide) ?_
    refine lv_istore_n (lv' := [(1, .int (nI 0)), (0, .ref (a 0))]) hx hb dX5_meanAge_13 rfl hl (by decide) rfl (fun ls hl => ?_)
    refine lv_iconst (v := nI 0) hx hb dX5_meanAge_14 (by decide) ?_
    refine lv_istore_n (lv' := [(2, .int (nI 0)), (1, .int (nI 0)), (0, .ref (a 0))]) hx hb dX5_meanAge_15 rfl hl (by decide) rfl (fun ls hl => ?_)
    have L_16 : ∀ (n i : Nat), i ≤ c_ns S → c_ns S + 1 ≤ i + n → ∀ (ls : Array Slot), lv_has ls 3 [(0, .ref (a 0)), (1, .int (sm (c_age S) i)), (2, .int (nI i))] → W p l e rm_X5_meanAge s m ([.ref (a 0)] : List Value).toArray below meth c s.heap [] 0 0 Q (F0 m 16 ls []) := by
      intro n
      induction n with
      | zero => intro i h1 h2; exact absurd h2 (by omega)
      | succ n ih_16 =>
        intro i hle_16 hfu_16 ls hl
        refine lv_iload_n hx hb dX5_meanAge_16 rfl (lv_at hl 2 rfl) ?_
        refine lv_aload_n hx hb dX5_meanAge_17 rfl (lv_at hl 0 rfl) ?_
        refine va_get (D := (dC, dI)) (ci := 5) (v := .ref (a 1)) (C := RX5) (T := TX5) (N := 6) hx hb hts i_X5 hown hK hP 0 rfl rfl 0 (by decide) f_0 (fun _ h9 => h9) rfl dX5_meanAge_18 ?_
        refine va_get (D := (dC, dI)) (ci := 3) (v := .int (nI (c_ns S))) (C := RX3) (T := TX3) (N := 8) hx hb hts i_X3 hown hK hP 1 rfl rfl 1 (by decide) f_1 (fun _ h9 => h9) rfl dX5_meanAge_21 ?_
        refine lv_icmp_ge (tgt := 45) hx hb dX5_meanAge_24 (by decide) (fun c_24 => ?_) (fun c_24 => ?_)
        · have c_24 : (c_ns S) ≤ i := cb_ge (by omega) (by omega) c_24
          refine lv_iload_n hx hb dX5_meanAge_45 rfl (lv_at hl 1 rfl) ?_
          refine lv_i2d hx hb dX5_meanAge_46 ?_
          refine lv_aload_n hx hb dX5_meanAge_47 rfl (lv_at hl 0 rfl) ?_
          refine va_get (D := (dC, dI)) (ci := 5) (v := .ref (a 1)) (C := RX5) (T := TX5) (N := 6) hx hb hts i_X5 hown hK hP 0 rfl rfl 0 (by decide) f_0 (fun _ h9 => h9) rfl dX5_meanAge_48 ?_
          refine va_get (D := (dC, dI)) (ci := 3) (v := .int (nI (c_ns S))) (C := RX3) (T := TX3) (N := 8) hx hb hts i_X3 hown hK hP 1 rfl rfl 1 (by decide) f_1 (fun _ h9 => h9) rfl dX5_meanAge_51 ?_
          refine lv_i2d hx hb dX5_meanAge_54 ?_
          refine lv_ddiv hx hb dX5_meanAge_55 (mean_num (ns_nz (by omega) c_7)) ?_
          rw [hQ]
          exact W.dret (v := FP.ddiv (FP.i2d (sm (c_age S) i)) (FP.i2d (nI (c_ns S)))) hx hb hr (fun t9 ht9 hW9 => ⟨FP.ddiv (FP.i2d (sm (c_age S) i)) (FP.i2d (nI (c_ns S))), rfl, (by rw [mean_n c_7, show i = c_ns S by omega]), ht9⟩) (fun q h => absurd h List.not_mem_nil) dX5_meanAge_56
        · have c_24 : i < (c_ns S) := cb_nge (by omega) (by omega) c_24
          refine lv_iload_n hx hb dX5_meanAge_27 rfl (lv_at hl 1 rfl) ?_
          refine lv_aload_n hx hb dX5_meanAge_28 rfl (lv_at hl 0 rfl) ?_
          refine va_get (D := (dC, dI)) (ci := 5) (v := .ref (a 1)) (C := RX5) (T := TX5) (N := 6) hx hb hts i_X5 hown hK hP 0 rfl rfl 0 (by decide) f_0 (fun _ h9 => h9) rfl dX5_meanAge_29 ?_
          refine va_get (D := (dC, dI)) (ci := 3) (v := .ref (a 7)) (C := RX3) (T := TX3) (N := 8) hx hb hts i_X3 hown hK hP 1 rfl rfl 3 (by decide) f_2 (fun _ h9 => h9) rfl dX5_meanAge_32 ?_
          refine lv_iload_n hx hb dX5_meanAge_35 rfl (lv_at hl 2 rfl) ?_
          refine cb_iald hx hb hK hP 7 1 (f := c_age S) rfl rfl (j := i) (by omega) (Nat.le_of_ble_eq_true rfl) dX5_meanAge_36 ?_
          refine lv_iadd hx hb dX5_meanAge_37 ?_
          refine lv_istore_n (lv' := [(1, .int ((sm (c_age S) i) + (c_age S i))), (0, .ref (a 0)), (2, .int (nI i))]) hx hb dX5_meanAge_38 rfl hl (by decide) rfl (fun ls hl => ?_)
          refine lv_iinc (v := nI (i + 1)) (lv' := [(2, .int (nI (i + 1))), (1, .int ((sm (c_age S) i) + (c_age S i))), (0, .ref (a 0))]) hx hb dX5_meanAge_39 hl (k := 2) rfl (nI_1 _) (by decide) rfl (fun ls hl => ?_)
          refine lv_goto (tgt := 16) hx hb dX5_meanAge_42 (by decide) ?_
          have hl : lv_has ls 3 [(2, .int (nI (i + 1))), (1, .int (sm (c_age S) (i + 1))), (0, .ref (a 0))] := cb_loc hl (e := Value.int (sm (c_age S) (i + 1))) 1 rfl (congrArg Value.int (show (sm (c_age S) i) + (c_age S i) = sm (c_age S) (i + 1) from rfl))
          exact ih_16 (i + 1) (by omega) (by omega) ls (lv_sub hl [2, 1, 0] rfl)
    have hl : lv_has ls 3 [(2, .int (nI 0)), (1, .int (sm (c_age S) 0)), (0, .ref (a 0))] := cb_loc hl (e := Value.int (sm (c_age S) 0)) 1 rfl (congrArg Value.int (show nI 0 = sm (c_age S) 0 from rfl))
    exact L_16 (c_ns S + 1) 0 (by omega) (by omega) ls (lv_sub hl [2, 1, 0] rfl)
  · have c_7 : (c_ns S) = 0 := cb_nne (by omega) (by omega) c_7
    refine lv_dconst0 hx hb dX5_meanAge_10 ?_
    rw [hQ]
    exact W.dret (v := FP.dconst0) hx hb hr (fun t9 ht9 hW9 => ⟨FP.dconst0, rfl, (by rw [mean_0 c_7]), ht9⟩) (fun q h => absurd h List.not_mem_nil) dX5_meanAge_11
end CBM
