/-! p35: the law: the ages in a tent -/
section CBV3
set_option maxHeartbeats 4000000 in
set_option maxRecDepth 100000 in
theorem lp_ages {p : Program} {l : Launch} {e : Env} {s : State} {m : MethodId} {below : List Frame} {meth : Method} {c : Code} {b L : Nat} {xs : Nat → Int32} {dC : Nat → ClassId} {dI : Nat → Nat → Nat} {a : Nat → Nat} {k : Nat → ClassId} {qt : Nat} {kt : ClassId} {tl : Nat → Int32} {qp : Nat} {kp : ClassId} {pl : Nat → Int32} {np ns nt dy hq cells slots cE sE : Nat} {Q : State → Prop} {S : cs_S} {t : Nat} {x8 lf asl th : Int32} (hl9 : l.stackTraces = false) (C0 : LC p s m c b L xs dC dI k kt kp) (hB : BD np ns nt) (h1 : cells + 240 ≤ cE) (h2 : slots + 1440 ≤ sE) (hc : cE ≤ 200000) (hs : sE ≤ 2000000) (hC : Cp dy np ns nt 4 3 1 hq 12 tl pl S) (ht : t < nt) (kk : ∀ (y o : Int32) (H : Heap) (locs : List Loc) (ls : Array Slot), YE S t y o → va_P (dC, dI) vwCl (cb_w a k S ++ [(qt, .inl (kt, (90, .inl tl))), (qp, .inl (kp, (10, .inl pl)))]) H → va_D (fun z => s.heap.size ≤ z) (cb_w a k S ++ [(qt, .inl (kt, (90, .inl tl))), (qp, .inl (kp, (10, .inl pl)))]) → va_S (fun z => s.heap.size ≤ z) s.heap H locs → lv_has ls 19 [(0, .ref b), (1, .ref (a 0)), (2, .int (nI np)), (3, .ref qt), (4, .int (nI ns)), (5, .ref qp), (6, .int (nI nt)), (7, .int (nI dy)), (8, .int x8), (10, .int lf), (11, .int asl), (12, .int (nI t)), (13, .long (lN (bs (inT S t) ns))), (15, .int th), (16, .int y), (17, .int o)] → W p l e room_1 s m #[Value.ref b] below meth c H locs cE sE Q (F0 m 494 ls [])) : ∀ (n u : Nat), u ≤ ns → ns + 1 ≤ u + n → ∀ (y o : Int32) (H : Heap) (locs : List Loc) (ls : Array Slot), YE S t y o → va_P (dC, dI) vwCl (cb_w a k S ++ [(qt, .inl (kt, (90, .inl tl))), (qp, .inl (kp, (10, .inl pl)))]) H → va_D (fun z => s.heap.size ≤ z) (cb_w a k S ++ [(qt, .inl (kt, (90, .inl tl))), (qp, .inl (kp, (10, .inl pl)))]) → va_S (fun z => s.heap.size ≤ z) s.heap H locs → lv_has ls 19 [(0, .ref b), (1, .ref (a 0)), (2, .int (nI np)), (3, .ref qt), (4, .int (nI ns)), (5, .ref qp), (6, .int (nI nt)), (7, .int (nI dy)), (8, .int x8), (10, .int lf), (11, .int asl), (12, .int (nI t)), (13, .long (lN (bs (inT S t) ns))), (15, .int th), (16, .int y), (17, .int o), (18, .int (nI u))] → W p l e room_1 s m #[Value.ref b] below meth c H locs (cells + 8 * u) (slots + 48 * u) Q (F0 m 397 ls []) := by
  have C1 := C0
  obtain ⟨hx, hb, hml, hown, hts, hX, hbl, hL, hK, hE⟩ := C0
  have hbA : ¬ (fun z => s.heap.size ≤ z) b := Nat.not_le.mpr hbl
  have hA : ∀ q : Nat, s.heap.size ≤ q → (fun z => s.heap.size ≤ z) q := fun q h => h
  have hBD := hB
  obtain ⟨hp1, hp6, hn2, hn29, ht1, ht8⟩ := hB
  have f_0 := hts (.methodLink RL 76 Lib.Math.min.name) (by decide +kernel)
  have f_1 := hts (.static Lib.Math.min.name) (by decide +kernel)
  have f_2 := hts (.initialized "java/lang/Math") (by decide +kernel)
  have f_3 := hts (.code Lib.Math.min.name Lib.Math.min.code 2 (some .int)) (by decide +kernel)
  have f_4 := hts (.methodLink RL 81 Lib.Math.max.name) (by decide +kernel)
  have f_5 := hts (.static Lib.Math.max.name) (by decide +kernel)
  have f_6 := hts (.code Lib.Math.max.name Lib.Math.max.code 2 (some .int)) (by decide +kernel)
  intro n
  induction n with
  | zero => intro u h1 h2; exact absurd h2 (by omega)
  | succ n ih =>
    intro u hle hfu y o H locs ls hY hP hD hS hl
    refine lv_iload hx hb dL_law_397 (lv_at hl 16 rfl) ?_
    refine lv_iload hx hb dL_law_399 (lv_at hl 4 rfl) ?_
    refine lv_icmp_ge (tgt := 494) hx hb dL_law_401 (by decide) (fun c_401 => ?_) (fun c_401 => ?_)
    · have c_401 : ns ≤ u := cb_ge (by omega) (by omega) c_401
      refine W.widen (k := cE) (n := sE) (by omega) (by omega) ?_
      exact kk y o H locs ls hY hP hD hS (lv_sub hl [0, 1, 2, 3, 4, 5, 6, 7, 8, 9, 10, 11, 12, 13, 14, 15] rfl)
    · have c_401 : u < ns := cb_nge (by omega) (by omega) c_401
      refine lv_lload hx hb dL_law_404 (lv_at hl 12 rfl) ?_
      refine lv_iload hx hb dL_law_406 (lv_at hl 16 rfl) ?_
      refine lv_lshr hx hb dL_law_408 rfl ?_
      refine lv_lconst (v := lN 1) hx hb dL_law_409 rfl ?_
      refine lv_land hx hb dL_law_410 ?_
      refine cb_topl (z := lN (bl (inT S t u))) (shr_bit (by omega) c_401) ?_
      refine lv_lconst (v := lN 1) hx hb dL_law_411 rfl ?_
      refine W.lcmp hx hb dL_law_412 ?_
      refine lv_if_ne (tgt := 420) hx hb dL_law_413 (by decide) (fun c_413 => ?_) (fun c_413 => ?_)
      · have c_413 : ¬ (lN (bl (inT S t u))) = (lN 1) := lg_cmp_f c_413
        have hT := bl_n1 c_413
        refine lv_iconst (v := nI 0) hx hb dL_law_420 (by decide) ?_
        refine lv_aload_n hx hb dL_law_421 rfl (lv_at hl 1 rfl) ?_
        refine lv_iload hx hb dL_law_422 (lv_at hl 16 rfl) ?_
        refine lv_iconst (v := nI 4) hx hb dL_law_424 (by decide) ?_
        have hPc := hP.sub (ws' := (cb_w a k S)) [0, 1, 2, 3, 4, 5, 6, 7, 8, 9, 10, 11, 12, 13, 14, 15, 16, 17, 18, 19] rfl
        have hDc := hD.sub (ws' := (cb_w a k S)) [0, 1, 2, 3, 4, 5, 6, 7, 8, 9, 10, 11, 12, 13, 14, 15, 16, 17, 18, 19] (by decide) rfl
        have hKc := hK.sub (tys' := (cb_ty k)) [0, 1, 2, 3, 4, 5, 6, 7, 8, 9, 10, 11, 12, 13] rfl
        have hF : ∀ z, va_A (cb_w a k S) H.size z → (fun z => s.heap.size ≤ z) z := va_free hD hS hA [0, 1, 2, 3, 4, 5, 6, 7, 8, 9, 10, 11, 12, 13, 14, 15, 16, 17, 18, 19] rfl
        refine vx_calli (vx_runV (As := [.int (nI u), .int (nI 4)]) (rest := [.int (nI 0)]) ⟨hx, hb, hml, hown, hts⟩ (c_X5_scout l hl9 dC dI a k S H.size (nI u) (nI 4) hC.1) (cwV 2 hts gL_law_X5_scout rfl rfl rfl (by decide +kernel) ⟨(Nat.le_of_ble_eq_true rfl), (Nat.le_of_ble_eq_true rfl)⟩) ⟨cU_blind, va_recv hKc hPc (ci := 5) (q0 := 0) rfl rfl, fun U hU hW => ⟨rfl, cU_of hKc hPc hDc hE hS hU hW hF⟩⟩ rfl rfl hl.1 rfl (lv_room (Nat.le_of_ble_eq_true rfl)) dL_law_425 ⟨(by show (cells + 8 * u) + 8 ≤ room_1.cells; exact Nat.le_trans (by omega) rm_c), (by show (slots + 48 * u) + 48 ≤ room_1.slots; exact Nat.le_trans (by omega) rm_s)⟩) hS (fun z _ h => hF z h) hF (fun z _ h => hF z h) (fun E ce q9 u8 t8 H1 L1 ht hvm _ hB hz1 hk1 hS hce hcv hcl => absurd hB.1.1 (by rw [kz_scout hC.2.1.2.2.1 (by omega) c_401 (by omega)]; decide)) (fun r9 u8 t8 H1 L1 ht hvm hw hB hz1 hk1 hS => ?_)
        obtain ⟨hP9, -, hD9⟩ := hB
        rw [ht] at hP9
        obtain ⟨hP8, hD8⟩ := va_join (wc := (cb_w a k S)) (wr := [(qt, .inl (kt, (90, .inl tl))), (qp, .inl (kp, (10, .inl pl)))]) hP hD [0, 1, 2, 3, 4, 5, 6, 7, 8, 9, 10, 11, 12, 13, 14, 15, 16, 17, 18, 19] [20, 21] rfl rfl (by decide) (by decide) hk1 hF hP9 hD9
        have hP : va_P (dC, dI) vwCl (cb_w a k S ++ [(qt, .inl (kt, (90, .inl tl))), (qp, .inl (kp, (10, .inl pl)))]) H1 := hP8.sub [2, 3, 4, 5, 6, 7, 8, 9, 10, 11, 12, 13, 14, 15, 16, 17, 18, 19, 20, 21, 0, 1] rfl
        have hD : va_D (fun z => s.heap.size ≤ z) (cb_w a k S ++ [(qt, .inl (kt, (90, .inl tl))), (qp, .inl (kp, (10, .inl pl)))]) := hD8.sub [2, 3, 4, 5, 6, 7, 8, 9, 10, 11, 12, 13, 14, 15, 16, 17, 18, 19, 20, 21, 0, 1] (by decide) rfl
        obtain ⟨-, hr9⟩ := hw
        subst hr9
        refine cb_topi (z := c_ten S u) (rs_ten (by omega)) ?_
        refine lv_iload hx hb dL_law_428 (lv_at hl 11 rfl) ?_
        refine lv_icmp_ne (tgt := 437) hx hb dL_law_430 (by decide) (fun c_430 => ?_) (fun c_430 => ?_)
        · skip
          refine lv_iconst (v := nI 0) hx hb dL_law_437 (by decide) ?_
          refine lv_icmp_eq (tgt := 443) hx hb dL_law_438 (by decide) (fun c_438 => ?_) (fun c_438 => ?_)
          · skip
            refine lv_lload hx hb dL_law_443 (lv_at hl 12 rfl) ?_
            refine lv_iload hx hb dL_law_445 (lv_at hl 16 rfl) ?_
            refine lv_lshr hx hb dL_law_447 rfl ?_
            refine lv_lconst (v := lN 1) hx hb dL_law_448 rfl ?_
            refine lv_land hx hb dL_law_449 ?_
            refine cb_topl (z := lN (bl (inT S t u))) (shr_bit (by omega) c_401) ?_
            refine lv_lconst (v := lN 0) hx hb dL_law_450 rfl ?_
            refine W.lcmp hx hb dL_law_451 ?_
            refine lv_if_ne (tgt := 458) hx hb dL_law_452 (by decide) (fun c_452 => ?_) (fun c_452 => ?_)
            · have c_452 : ¬ (lN (bl (inT S t u))) = (lN 0) := lg_cmp_f c_452
              exact absurd (hT.symm.trans (bl_n0 c_452)) (by decide)
            · have c_452 : (lN (bl (inT S t u))) = (lN 0) := lg_cmp_t c_452
              refine lv_goto (tgt := 488) hx hb dL_law_455 (by decide) ?_
              refine lv_iinc (v := nI (u + 1)) (lv' := [(18, .int (nI (u + 1))), (0, .ref b), (1, .ref (a 0)), (2, .int (nI np)), (3, .ref qt), (4, .int (nI ns)), (5, .ref qp), (6, .int (nI nt)), (7, .int (nI dy)), (8, .int x8), (10, .int lf), (11, .int asl), (12, .int (nI t)), (13, .long (lN (bs (inT S t) ns))), (15, .int th), (16, .int y), (17, .int o)]) hx hb dL_law_488 hl (k := 16) rfl (nI_1 _) (by decide) rfl (fun ls hl => ?_)
              refine lv_goto (tgt := 397) hx hb dL_law_491 (by decide) ?_
              refine W.widen (k := cells + 8 * (u + 1)) (n := slots + 48 * (u + 1)) (by omega) (by omega) ?_
              exact ih (u + 1) (by omega) (by omega) y o H1 L1 ls hY hP hD hS (lv_sub hl [1, 2, 3, 4, 5, 6, 7, 8, 9, 10, 11, 12, 13, 14, 15, 16, 0] rfl)
          · exact absurd c_438 (by decide)
        · skip
          refine lv_iconst (v := nI 1) hx hb dL_law_433 (by decide) ?_
          refine lv_goto (tgt := 438) hx hb dL_law_434 (by decide) ?_
          refine lv_icmp_eq (tgt := 443) hx hb dL_law_438 (by decide) (fun c_438 => ?_) (fun c_438 => ?_)
          · exact absurd c_438 (by decide)
          · skip
            exact absurd c_430 (of_decide_eq_false hT)
      · have c_413 : (lN (bl (inT S t u))) = (lN 1) := lg_cmp_t c_413
        have hT := bl_1 c_413
        refine lv_iconst (v := nI 1) hx hb dL_law_416 (by decide) ?_
        refine lv_goto (tgt := 421) hx hb dL_law_417 (by decide) ?_
        refine lv_aload_n hx hb dL_law_421 rfl (lv_at hl 1 rfl) ?_
        refine lv_iload hx hb dL_law_422 (lv_at hl 16 rfl) ?_
        refine lv_iconst (v := nI 4) hx hb dL_law_424 (by decide) ?_
        have hPc := hP.sub (ws' := (cb_w a k S)) [0, 1, 2, 3, 4, 5, 6, 7, 8, 9, 10, 11, 12, 13, 14, 15, 16, 17, 18, 19] rfl
        have hDc := hD.sub (ws' := (cb_w a k S)) [0, 1, 2, 3, 4, 5, 6, 7, 8, 9, 10, 11, 12, 13, 14, 15, 16, 17, 18, 19] (by decide) rfl
        have hKc := hK.sub (tys' := (cb_ty k)) [0, 1, 2, 3, 4, 5, 6, 7, 8, 9, 10, 11, 12, 13] rfl
        have hF : ∀ z, va_A (cb_w a k S) H.size z → (fun z => s.heap.size ≤ z) z := va_free hD hS hA [0, 1, 2, 3, 4, 5, 6, 7, 8, 9, 10, 11, 12, 13, 14, 15, 16, 17, 18, 19] rfl
        refine vx_calli (vx_runV (As := [.int (nI u), .int (nI 4)]) (rest := [.int (nI 1)]) ⟨hx, hb, hml, hown, hts⟩ (c_X5_scout l hl9 dC dI a k S H.size (nI u) (nI 4) hC.1) (cwV 2 hts gL_law_X5_scout rfl rfl rfl (by decide +kernel) ⟨(Nat.le_of_ble_eq_true rfl), (Nat.le_of_ble_eq_true rfl)⟩) ⟨cU_blind, va_recv hKc hPc (ci := 5) (q0 := 0) rfl rfl, fun U hU hW => ⟨rfl, cU_of hKc hPc hDc hE hS hU hW hF⟩⟩ rfl rfl hl.1 rfl (lv_room (Nat.le_of_ble_eq_true rfl)) dL_law_425 ⟨(by show (cells + 8 * u) + 8 ≤ room_1.cells; exact Nat.le_trans (by omega) rm_c), (by show (slots + 48 * u) + 48 ≤ room_1.slots; exact Nat.le_trans (by omega) rm_s)⟩) hS (fun z _ h => hF z h) hF (fun z _ h => hF z h) (fun E ce q9 u8 t8 H1 L1 ht hvm _ hB hz1 hk1 hS hce hcv hcl => absurd hB.1.1 (by rw [kz_scout hC.2.1.2.2.1 (by omega) c_401 (by omega)]; decide)) (fun r9 u8 t8 H1 L1 ht hvm hw hB hz1 hk1 hS => ?_)
        obtain ⟨hP9, -, hD9⟩ := hB
        rw [ht] at hP9
        obtain ⟨hP8, hD8⟩ := va_join (wc := (cb_w a k S)) (wr := [(qt, .inl (kt, (90, .inl tl))), (qp, .inl (kp, (10, .inl pl)))]) hP hD [0, 1, 2, 3, 4, 5, 6, 7, 8, 9, 10, 11, 12, 13, 14, 15, 16, 17, 18, 19] [20, 21] rfl rfl (by decide) (by decide) hk1 hF hP9 hD9
        have hP : va_P (dC, dI) vwCl (cb_w a k S ++ [(qt, .inl (kt, (90, .inl tl))), (qp, .inl (kp, (10, .inl pl)))]) H1 := hP8.sub [2, 3, 4, 5, 6, 7, 8, 9, 10, 11, 12, 13, 14, 15, 16, 17, 18, 19, 20, 21, 0, 1] rfl
        have hD : va_D (fun z => s.heap.size ≤ z) (cb_w a k S ++ [(qt, .inl (kt, (90, .inl tl))), (qp, .inl (kp, (10, .inl pl)))]) := hD8.sub [2, 3, 4, 5, 6, 7, 8, 9, 10, 11, 12, 13, 14, 15, 16, 17, 18, 19, 20, 21, 0, 1] (by decide) rfl
        obtain ⟨-, hr9⟩ := hw
        subst hr9
        refine cb_topi (z := c_ten S u) (rs_ten (by omega)) ?_
        refine lv_iload hx hb dL_law_428 (lv_at hl 11 rfl) ?_
        refine lv_icmp_ne (tgt := 437) hx hb dL_law_430 (by decide) (fun c_430 => ?_) (fun c_430 => ?_)
        · skip
          refine lv_iconst (v := nI 0) hx hb dL_law_437 (by decide) ?_
          refine lv_icmp_eq (tgt := 443) hx hb dL_law_438 (by decide) (fun c_438 => ?_) (fun c_438 => ?_)
          · exact absurd c_438 (by decide)
          · skip
            exact absurd (of_decide_eq_true hT) c_430
        · skip
          refine lv_iconst (v := nI 1) hx hb dL_law_433 (by decide) ?_
          refine lv_goto (tgt := 438) hx hb dL_law_434 (by decide) ?_
          refine lv_icmp_eq (tgt := 443) hx hb dL_law_438 (by decide) (fun c_438 => ?_) (fun c_438 => ?_)
          · skip
            refine lv_lload hx hb dL_law_443 (lv_at hl 12 rfl) ?_
            refine lv_iload hx hb dL_law_445 (lv_at hl 16 rfl) ?_
            refine lv_lshr hx hb dL_law_447 rfl ?_
            refine lv_lconst (v := lN 1) hx hb dL_law_448 rfl ?_
            refine lv_land hx hb dL_law_449 ?_
            refine cb_topl (z := lN (bl (inT S t u))) (shr_bit (by omega) c_401) ?_
            refine lv_lconst (v := lN 0) hx hb dL_law_450 rfl ?_
            refine W.lcmp hx hb dL_law_451 ?_
            refine lv_if_ne (tgt := 458) hx hb dL_law_452 (by decide) (fun c_452 => ?_) (fun c_452 => ?_)
            · have c_452 : ¬ (lN (bl (inT S t u))) = (lN 0) := lg_cmp_f c_452
              refine lv_iload hx hb dL_law_458 (lv_at hl 14 rfl) ?_
              refine lv_aload_n hx hb dL_law_460 rfl (lv_at hl 3 rfl) ?_
              refine lv_iconst (v := nI 3) hx hb dL_law_461 (by decide) ?_
              refine lv_iload hx hb dL_law_462 (lv_at hl 16 rfl) ?_
              refine lv_imul hx hb dL_law_464 ?_
              refine cb_topi (pk_mul _ _) ?_
              refine lv_iconst (v := nI 1) hx hb dL_law_465 (by decide) ?_
              refine lv_iadd hx hb dL_law_466 ?_
              refine cb_topi (nI_add _ _) ?_
              refine cb_iald hx hb hK hP 20 14 (f := tl) rfl rfl (j := (3 * u) + 1) (by omega) (Nat.le_of_ble_eq_true rfl) dL_law_467 ?_
              refine cb_topi (z := c_age S u) ((hC.2.2.1 u (by rw [hC.2.1.2.2.1]; exact c_401)).symm) ?_
              refine va_mmin hx hb (hml.trans hl.1.symm) hown f_0 f_1 f_2 f_3 (Nat.le_of_ble_eq_true rfl) (Nat.le_of_ble_eq_true rfl) (by show ((cells + 8 * u) + 8) + 0 ≤ room_1.cells; exact Nat.le_trans (by omega) rm_c) (by show ((slots + 48 * u) + 48) + 0 ≤ room_1.slots; exact Nat.le_trans (by omega) rm_s) dL_law_468 ?_
              refine cb_topi (z := cMin y (c_age S u)) rfl ?_
              refine lv_istore (lv' := [(16, .int (cMin y (c_age S u))), (0, .ref b), (1, .ref (a 0)), (2, .int (nI np)), (3, .ref qt), (4, .int (nI ns)), (5, .ref qp), (6, .int (nI nt)), (7, .int (nI dy)), (8, .int x8), (10, .int lf), (11, .int asl), (12, .int (nI t)), (13, .long (lN (bs (inT S t) ns))), (15, .int th), (17, .int o), (18, .int (nI u))]) hx hb dL_law_471 hl (by decide) rfl (fun ls hl => ?_)
              refine lv_iload hx hb dL_law_473 (lv_at hl 15 rfl) ?_
              refine lv_aload_n hx hb dL_law_475 rfl (lv_at hl 4 rfl) ?_
              refine lv_iconst (v := nI 3) hx hb dL_law_476 (by decide) ?_
              refine lv_iload hx hb dL_law_477 (lv_at hl 16 rfl) ?_
              refine lv_imul hx hb dL_law_479 ?_
              refine cb_topi (pk_mul _ _) ?_
              refine lv_iconst (v := nI 1) hx hb dL_law_480 (by decide) ?_
              refine lv_iadd hx hb dL_law_481 ?_
              refine cb_topi (nI_add _ _) ?_
              refine cb_iald hx hb hK hP 20 14 (f := tl) rfl rfl (j := (3 * u) + 1) (by omega) (Nat.le_of_ble_eq_true rfl) dL_law_482 ?_
              refine cb_topi (z := c_age S u) ((hC.2.2.1 u (by rw [hC.2.1.2.2.1]; exact c_401)).symm) ?_
              refine va_mmax hx hb (hml.trans hl.1.symm) hown f_4 f_5 f_2 f_6 (Nat.le_of_ble_eq_true rfl) (Nat.le_of_ble_eq_true rfl) (by show ((cells + 8 * u) + 8) + 0 ≤ room_1.cells; exact Nat.le_trans (by omega) rm_c) (by show ((slots + 48 * u) + 48) + 0 ≤ room_1.slots; exact Nat.le_trans (by omega) rm_s) dL_law_483 ?_
              refine cb_topi (z := cMax o (c_age S u)) rfl ?_
              refine lv_istore (lv' := [(17, .int (cMax o (c_age S u))), (16, .int (cMin y (c_age S u))), (0, .ref b), (1, .ref (a 0)), (2, .int (nI np)), (3, .ref qt), (4, .int (nI ns)), (5, .ref qp), (6, .int (nI nt)), (7, .int (nI dy)), (8, .int x8), (10, .int lf), (11, .int asl), (12, .int (nI t)), (13, .long (lN (bs (inT S t) ns))), (15, .int th), (18, .int (nI u))]) hx hb dL_law_486 hl (by decide) rfl (fun ls hl => ?_)
              refine lv_iinc (v := nI (u + 1)) (lv' := [(18, .int (nI (u + 1))), (17, .int (cMax o (c_age S u))), (16, .int (cMin y (c_age S u))), (0, .ref b), (1, .ref (a 0)), (2, .int (nI np)), (3, .ref qt), (4, .int (nI ns)), (5, .ref qp), (6, .int (nI nt)), (7, .int (nI dy)), (8, .int x8), (10, .int lf), (11, .int asl), (12, .int (nI t)), (13, .long (lN (bs (inT S t) ns))), (15, .int th)]) hx hb dL_law_488 hl (k := 16) rfl (nI_1 _) (by decide) rfl (fun ls hl => ?_)
              refine lv_goto (tgt := 397) hx hb dL_law_491 (by decide) ?_
              refine W.widen (k := cells + 8 * (u + 1)) (n := slots + 48 * (u + 1)) (by omega) (by omega) ?_
              exact ih (u + 1) (by omega) (by omega) (cMin y (c_age S u)) (cMax o (c_age S u)) H1 L1 ls (ye_step hC.1 (by rw [hC.2.1.2.2.1]; exact c_401) (of_decide_eq_true hT) hY) hP hD hS (lv_sub hl [3, 4, 5, 6, 7, 8, 9, 10, 11, 12, 13, 14, 15, 16, 2, 1, 0] rfl)
            · have c_452 : (lN (bl (inT S t u))) = (lN 0) := lg_cmp_t c_452
              exact absurd (hT.symm.trans (bl_0 c_452)) (by decide)
          · exact absurd c_438 (by decide)
end CBV3
