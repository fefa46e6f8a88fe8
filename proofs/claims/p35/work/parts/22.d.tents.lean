/-! p35: the law: the tents of a day -/
section CBV4
set_option maxHeartbeats 4000000 in
set_option maxRecDepth 100000 in
theorem lp_tents {p : Program} {l : Launch} {e : Env} {s : State} {m : MethodId} {below : List Frame} {meth : Method} {c : Code} {b L : Nat} {xs : Nat → Int32} {dC : Nat → ClassId} {dI : Nat → Nat → Nat} {a : Nat → Nat} {k : Nat → ClassId} {qt : Nat} {kt : ClassId} {tl : Nat → Int32} {qp : Nat} {kp : ClassId} {pl : Nat → Int32} {np ns nt dy hq cells slots cE sE : Nat} {Q : State → Prop} {S : cs_S} {x8 : Int32} (hl9 : l.stackTraces = false) (C0 : LC p s m c b L xs dC dI k kt kp) (hB : BD np ns nt) (h1 : cells + 2048 ≤ cE) (h2 : slots + 12288 ≤ sE) (hc : cE ≤ 200000) (hs : sE ≤ 2000000) (hC : Cp dy np ns nt 4 3 1 hq 12 tl pl S)  (kk : ∀ (H : Heap) (locs : List Loc) (ls : Array Slot), va_P (dC, dI) vwCl (cb_w a k S ++ [(qt, .inl (kt, (90, .inl tl))), (qp, .inl (kp, (10, .inl pl)))]) H → va_D (fun z => s.heap.size ≤ z) (cb_w a k S ++ [(qt, .inl (kt, (90, .inl tl))), (qp, .inl (kp, (10, .inl pl)))]) → va_S (fun z => s.heap.size ≤ z) s.heap H locs → lv_has ls 19 [(0, .ref b), (1, .ref (a 0)), (2, .int (nI np)), (3, .ref qt), (4, .int (nI ns)), (5, .ref qp), (6, .int (nI nt)), (7, .int (nI dy)), (8, .int x8), (10, .int (nI (c_out S))), (11, .int (nI (fb_sm (cntT S) nt)))] → W p l e room_1 s m #[Value.ref b] below meth c H locs cE sE Q (F0 m 526 ls [])) : ∀ (n t : Nat), t ≤ nt → nt + 1 ≤ t + n → ∀ (H : Heap) (locs : List Loc) (ls : Array Slot), va_P (dC, dI) vwCl (cb_w a k S ++ [(qt, .inl (kt, (90, .inl tl))), (qp, .inl (kp, (10, .inl pl)))]) H → va_D (fun z => s.heap.size ≤ z) (cb_w a k S ++ [(qt, .inl (kt, (90, .inl tl))), (qp, .inl (kp, (10, .inl pl)))]) → va_S (fun z => s.heap.size ≤ z) s.heap H locs → lv_has ls 19 [(0, .ref b), (1, .ref (a 0)), (2, .int (nI np)), (3, .ref qt), (4, .int (nI ns)), (5, .ref qp), (6, .int (nI nt)), (7, .int (nI dy)), (8, .int x8), (10, .int (nI (c_out S))), (11, .int (nI (fb_sm (cntT S) t))), (12, .int (nI t))] → W p l e room_1 s m #[Value.ref b] below meth c H locs (cells + 256 * t) (slots + 1536 * t) Q (F0 m 358 ls []) := by
  have C1 := C0
  obtain ⟨hx, hb, hml, hown, hts, hX, hbl, hL, hK, hE⟩ := C0
  have hbA : ¬ (fun z => s.heap.size ≤ z) b := Nat.not_le.mpr hbl
  have hA : ∀ q : Nat, s.heap.size ≤ q → (fun z => s.heap.size ≤ z) q := fun q h => h
  have hBD := hB
  obtain ⟨hp1, hp6, hn2, hn29, ht1, ht8⟩ := hB
  intro n
  induction n with
  | zero => intro t h1 h2; exact absurd h2 (by omega)
  | succ n ih =>
    intro t hle hfu H locs ls hP hD hS hl
    refine lv_iload hx hb dL_law_358 (lv_at hl 11 rfl) ?_
    refine lv_iload hx hb dL_law_360 (lv_at hl 6 rfl) ?_
    refine lv_icmp_ge (tgt := 526) hx hb dL_law_362 (by decide) (fun c_362 => ?_) (fun c_362 => ?_)
    · have c_362 : nt ≤ t := cb_ge (by omega) (by omega) c_362
      rw [show t = nt by omega] at hl
      refine W.widen (k := cE) (n := sE) (by omega) (by omega) ?_
      exact kk H locs ls hP hD hS (lv_sub hl [0, 1, 2, 3, 4, 5, 6, 7, 8, 9, 10] rfl)
    · have c_362 : t < nt := cb_nge (by omega) (by omega) c_362
      refine lv_aload_n hx hb dL_law_365 rfl (lv_at hl 1 rfl) ?_
      refine lv_iload hx hb dL_law_366 (lv_at hl 11 rfl) ?_
      have hPc := hP.sub (ws' := (cb_w a k S)) [0, 1, 2, 3, 4, 5, 6, 7, 8, 9, 10, 11, 12, 13, 14, 15, 16, 17, 18, 19] rfl
      have hDc := hD.sub (ws' := (cb_w a k S)) [0, 1, 2, 3, 4, 5, 6, 7, 8, 9, 10, 11, 12, 13, 14, 15, 16, 17, 18, 19] (by decide) rfl
      have hKc := hK.sub (tys' := (cb_ty k)) [0, 1, 2, 3, 4, 5, 6, 7, 8, 9, 10, 11, 12, 13] rfl
      have hF : ∀ z, va_A (cb_w a k S) H.size z → (fun z => s.heap.size ≤ z) z := va_free hD hS hA [0, 1, 2, 3, 4, 5, 6, 7, 8, 9, 10, 11, 12, 13, 14, 15, 16, 17, 18, 19] rfl
      refine vx_calll (vx_runV (As := [.int (nI t)]) (rest := []) ⟨hx, hb, hml, hown, hts⟩ (c_X5_inTent l hl9 dC dI a k S H.size (nI t) hC.1) (cwV 1 hts gL_law_X5_inTent rfl rfl rfl (by decide +kernel) ⟨(Nat.le_of_ble_eq_true rfl), (Nat.le_of_ble_eq_true rfl)⟩) ⟨cU_blind, va_recv hKc hPc (ci := 5) (q0 := 0) rfl rfl, fun U hU hW => ⟨rfl, cU_of hKc hPc hDc hE hS hU hW hF⟩⟩ rfl rfl hl.1 rfl (lv_room (Nat.le_of_ble_eq_true rfl)) dL_law_368 ⟨(by show (cells + 256 * t) + 8 ≤ room_1.cells; exact Nat.le_trans (by omega) rm_c), (by show (slots + 1536 * t) + 48 ≤ room_1.slots; exact Nat.le_trans (by omega) rm_s)⟩) hS (fun z _ h => hF z h) hF (fun z _ h => hF z h) (fun E ce q9 u8 t8 H1 L1 ht hvm _ hB hz1 hk1 hS hce hcv hcl => absurd hB.1.1 (by rw [kz_inTent hC.2.1.2.2.2.1 (by omega) c_362]; decide)) (fun r9 u8 t8 H1 L1 ht hvm hw hB hz1 hk1 hS => ?_)
      obtain ⟨hP9, -, hD9⟩ := hB
      rw [ht] at hP9
      obtain ⟨hP8, hD8⟩ := va_join (wc := (cb_w a k S)) (wr := [(qt, .inl (kt, (90, .inl tl))), (qp, .inl (kp, (10, .inl pl)))]) hP hD [0, 1, 2, 3, 4, 5, 6, 7, 8, 9, 10, 11, 12, 13, 14, 15, 16, 17, 18, 19] [20, 21] rfl rfl (by decide) (by decide) hk1 hF hP9 hD9
      have hP : va_P (dC, dI) vwCl (cb_w a k S ++ [(qt, .inl (kt, (90, .inl tl))), (qp, .inl (kp, (10, .inl pl)))]) H1 := hP8.sub [2, 3, 4, 5, 6, 7, 8, 9, 10, 11, 12, 13, 14, 15, 16, 17, 18, 19, 20, 21, 0, 1] rfl
      have hD : va_D (fun z => s.heap.size ≤ z) (cb_w a k S ++ [(qt, .inl (kt, (90, .inl tl))), (qp, .inl (kp, (10, .inl pl)))]) := hD8.sub [2, 3, 4, 5, 6, 7, 8, 9, 10, 11, 12, 13, 14, 15, 16, 17, 18, 19, 20, 21, 0, 1] (by decide) rfl
      obtain ⟨-, hr9⟩ := hw
      subst hr9
      refine cb_topl (z := lN (bs (inT S t) ns)) (rs_inTent hC.2.1.2.2.1 (by omega)) ?_
      refine lv_lstore (lv' := [(13, .long (lN (bs (inT S t) ns))), (0, .ref b), (1, .ref (a 0)), (2, .int (nI np)), (3, .ref qt), (4, .int (nI ns)), (5, .ref qp), (6, .int (nI nt)), (7, .int (nI dy)), (8, .int x8), (10, .int (nI (c_out S))), (11, .int (nI (fb_sm (cntT S) t))), (12, .int (nI t))]) hx hb dL_law_371 hl (by decide) rfl (fun ls hl => ?_)
      refine lv_lload hx hb dL_law_373 (lv_at hl 0 rfl) ?_
      refine vp_callSi (W.runS (As := [.long (lN (bs (inT S t) ns))]) (rest := []) ⟨hx, hb, hml, hown, hts⟩ (c_J13_bitCount_95d88 l (bs (inT S t) ns) (bs_lt32 (by omega))) (va_cwS 1 hts gL_law_J13_bitCount_95d88 rfl rfl rfl (by decide +kernel) ⟨(Nat.le_of_ble_eq_true rfl), (Nat.le_of_ble_eq_true rfl)⟩) ⟨cN_blind, fun U hU hW => ⟨rfl, trivial⟩⟩ rfl rfl hl.1 rfl (lv_room (Nat.le_of_ble_eq_true rfl)) dL_law_375 ⟨(by show ((cells + 256 * t) + 8) + 0 ≤ room_1.cells; exact Nat.le_trans (by omega) rm_c), (by show ((slots + 1536 * t) + 48) + 0 ≤ room_1.slots; exact Nat.le_trans (by omega) rm_s)⟩) (fun r er => ?_)
      subst er
      refine cb_topi (z := nI (cntT S t)) (congrArg nI (popc_in hC.2.1.2.2.1 (by omega))) ?_
      refine lv_istore (lv' := [(15, .int (nI (cntT S t))), (13, .long (lN (bs (inT S t) ns))), (0, .ref b), (1, .ref (a 0)), (2, .int (nI np)), (3, .ref qt), (4, .int (nI ns)), (5, .ref qp), (6, .int (nI nt)), (7, .int (nI dy)), (8, .int x8), (10, .int (nI (c_out S))), (11, .int (nI (fb_sm (cntT S) t))), (12, .int (nI t))]) hx hb dL_law_378 hl (by decide) rfl (fun ls hl => ?_)
      refine lv_iload hx hb dL_law_380 (lv_at hl 12 rfl) ?_
      refine lv_iload hx hb dL_law_382 (lv_at hl 0 rfl) ?_
      refine lv_iadd hx hb dL_law_384 ?_
      refine cb_topi (nI_add _ _) ?_
      refine cb_topi (z := nI (fb_sm (cntT S) (t + 1))) rfl ?_
      refine lv_istore (lv' := [(11, .int (nI (fb_sm (cntT S) (t + 1)))), (15, .int (nI (cntT S t))), (13, .long (lN (bs (inT S t) ns))), (0, .ref b), (1, .ref (a 0)), (2, .int (nI np)), (3, .ref qt), (4, .int (nI ns)), (5, .ref qp), (6, .int (nI nt)), (7, .int (nI dy)), (8, .int x8), (10, .int (nI (c_out S))), (12, .int (nI t))]) hx hb dL_law_385 hl (by decide) rfl (fun ls hl => ?_)
      refine lv_bipush (v := nI 99) hx hb dL_law_387 (by decide) ?_
      refine lv_istore (lv' := [(16, .int (nI 99)), (11, .int (nI (fb_sm (cntT S) (t + 1)))), (15, .int (nI (cntT S t))), (13, .long (lN (bs (inT S t) ns))), (0, .ref b), (1, .ref (a 0)), (2, .int (nI np)), (3, .ref qt), (4, .int (nI ns)), (5, .ref qp), (6, .int (nI nt)), (7, .int (nI dy)), (8, .int x8), (10, .int (nI (c_out S))), (12, .int (nI t))]) hx hb dL_law_389 hl (by decide) rfl (fun ls hl => ?_)
      refine lv_iconst (v := nI 0) hx hb dL_law_391 (by decide) ?_
      refine lv_istore (lv' := [(17, .int (nI 0)), (16, .int (nI 99)), (11, .int (nI (fb_sm (cntT S) (t + 1)))), (15, .int (nI (cntT S t))), (13, .long (lN (bs (inT S t) ns))), (0, .ref b), (1, .ref (a 0)), (2, .int (nI np)), (3, .ref qt), (4, .int (nI ns)), (5, .ref qp), (6, .int (nI nt)), (7, .int (nI dy)), (8, .int x8), (10, .int (nI (c_out S))), (12, .int (nI t))]) hx hb dL_law_392 hl (by decide) rfl (fun ls hl => ?_)
      refine lv_iconst (v := nI 0) hx hb dL_law_394 (by decide) ?_
      refine lv_istore (lv' := [(18, .int (nI 0)), (17, .int (nI 0)), (16, .int (nI 99)), (11, .int (nI (fb_sm (cntT S) (t + 1)))), (15, .int (nI (cntT S t))), (13, .long (lN (bs (inT S t) ns))), (0, .ref b), (1, .ref (a 0)), (2, .int (nI np)), (3, .ref qt), (4, .int (nI ns)), (5, .ref qp), (6, .int (nI nt)), (7, .int (nI dy)), (8, .int x8), (10, .int (nI (c_out S))), (12, .int (nI t))]) hx hb dL_law_395 hl (by decide) rfl (fun ls hl => ?_)
      refine W.widen (k := ((cells + 256 * t) + 8) + 8 * 0) (n := ((slots + 1536 * t) + 48) + 48 * 0) (by omega) (by omega) ?_
      refine lp_ages (cells := ((cells + 256 * t) + 8)) (slots := ((slots + 1536 * t) + 48)) (cE := ((cells + 256 * t) + 8) + 240) (sE := ((slots + 1536 * t) + 48) + 1440) hl9 C1 hBD (by omega) (by omega) (by omega) (by omega) hC c_362 (fun y o H locs ls hY hP hD hS hl => ?_) (ns + 1) 0 (by omega) (by omega) (nI 99) (nI 0) H1 L1 ls ye_0 hP hD hS (lv_sub hl [6, 7, 8, 9, 10, 11, 12, 13, 14, 15, 3, 16, 5, 4, 2, 1, 0] rfl)
      have htn : nI (cntT S t) ≤ pl t := by rw [← hC.2.2.2.1.1 t (by rw [hC.2.1.2.2.2.1]; exact c_362)]; exact hC.2.2.2.1.2.1 t (by rw [hC.2.1.2.2.2.1]; exact c_362)
      refine lv_iload hx hb dL_law_494 (lv_at hl 13 rfl) ?_
      refine lv_aload hx hb dL_law_496 (lv_at hl 5 rfl) ?_
      refine lv_iload hx hb dL_law_498 (lv_at hl 11 rfl) ?_
      refine cb_iald hx hb hK hP 21 15 (f := pl) rfl rfl (j := t) (by omega) (Nat.le_of_ble_eq_true rfl) dL_law_500 ?_
      refine lv_icmp_gt (tgt := 518) hx hb dL_law_501 (by decide) (fun c_501 => ?_) (fun c_501 => ?_)
      · skip
        exact absurd htn (Int32.not_le.mpr c_501)
      · skip
        refine lv_iload hx hb dL_law_504 (lv_at hl 15 rfl) ?_
        refine lv_iload hx hb dL_law_506 (lv_at hl 14 rfl) ?_
        refine lv_isub hx hb dL_law_508 ?_
        refine lv_iconst (v := nI 3) hx hb dL_law_509 (by decide) ?_
        refine lv_icmp_le (tgt := 520) hx hb dL_law_510 (by decide) (fun c_510 => ?_) (fun c_510 => ?_)
        · skip
          refine lv_iinc (v := nI (t + 1)) (lv' := [(12, .int (nI (t + 1))), (0, .ref b), (1, .ref (a 0)), (2, .int (nI np)), (3, .ref qt), (4, .int (nI ns)), (5, .ref qp), (6, .int (nI nt)), (7, .int (nI dy)), (8, .int x8), (10, .int (nI (c_out S))), (11, .int (nI (fb_sm (cntT S) (t + 1)))), (13, .long (lN (bs (inT S t) ns))), (15, .int (nI (cntT S t))), (16, .int y), (17, .int o)]) hx hb dL_law_520 hl (k := 11) rfl (nI_1 _) (by decide) rfl (fun ls hl => ?_)
          refine lv_goto (tgt := 358) hx hb dL_law_523 (by decide) ?_
          refine W.widen (k := cells + 256 * (t + 1)) (n := slots + 1536 * (t + 1)) (by omega) (by omega) ?_
          exact ih (t + 1) (by omega) (by omega)  H locs ls  hP hD hS (lv_sub hl [1, 2, 3, 4, 5, 6, 7, 8, 9, 10, 11, 0] rfl)
        · skip
          exact absurd (ye_end hC.1 hC.2.2.2.1 (by rw [hC.2.1.2.2.2.1]; exact c_362) hY) c_510
end CBV4
