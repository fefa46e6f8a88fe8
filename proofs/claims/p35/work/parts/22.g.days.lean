/-! p35: the law: a day from its start; the days -/
section CBV7
theorem asl_end {dy np ns nt nf nm nb hq w : Nat} {tl pl : Nat → Int32} {S : cs_S} (hC : Cp dy np ns nt nf nm nb hq w tl pl S) : fb_sm (cntT S) nt + c_out S = ns := by
  have h := out_sum hC.1.1.2.2.2.1 (c_ns S) hC.1.2.2.2.1
  have e3 := hC.2.1.2.2.1
  have e4 := hC.2.1.2.2.2.1
  rw [e4] at h
  rw [← e3]
  exact h
theorem sm_b {dy np ns nt nf nm nb hq w : Nat} {tl pl : Nat → Int32} {S : cs_S} (hC : Cp dy np ns nt nf nm nb hq w tl pl S) : fb_sm (cntT S) nt + c_out S ≤ 30 := by
  rw [asl_end hC, ← hC.2.1.2.2.1]
  exact hC.1.1.2.2.1
set_option maxHeartbeats 4000000 in
set_option maxRecDepth 100000 in
theorem lw_526 {p : Program} {l : Launch} {e : Env} {s : State} {m : MethodId} {below : List Frame} {meth : Method} {c : Code} {b L : Nat} {xs : Nat → Int32} {dC : Nat → ClassId} {dI : Nat → Nat → Nat} {a : Nat → Nat} {k : Nat → ClassId} {qt : Nat} {kt : ClassId} {tl : Nat → Int32} {qp : Nat} {kp : ClassId} {pl : Nat → Int32} {np ns nt dy hq cells slots cE sE : Nat} {Q : State → Prop} (hl9 : l.stackTraces = false) (C0 : LC p s m c b L xs dC dI k kt kp) (hB : BD np ns nt) (h1 : cells + 1425 ≤ cE) (h2 : slots + 8550 ≤ sE) (hc : cE ≤ 200000) (hs : sE ≤ 2000000) {x8 : Int32} (hd : dy < 12) (hb2 : hq + 9 < 200) (kk : KD p l e s m below meth c b dC dI a k qt kt tl qp kp pl np ns nt (dy + 1) (hq + 9) [] 251 cE sE Q) {S : cs_S} {H : Heap} {locs : List Loc} {ls : Array Slot} (hC : Cp dy np ns nt 4 3 1 hq 12 tl pl S) (hP : va_P (dC, dI) vwCl (cb_w a k S ++ [(qt, .inl (kt, (90, .inl tl))), (qp, .inl (kp, (10, .inl pl)))]) H) (hD : va_D (fun z => s.heap.size ≤ z) (cb_w a k S ++ [(qt, .inl (kt, (90, .inl tl))), (qp, .inl (kp, (10, .inl pl)))])) (hS : va_S (fun z => s.heap.size ≤ z) s.heap H locs) (hl : lv_has ls 19 [(0, .ref b), (1, .ref (a 0)), (2, .int (nI np)), (3, .ref qt), (4, .int (nI ns)), (5, .ref qp), (6, .int (nI nt)), (7, .int (nI dy)), (8, .int x8), (10, .int (nI (c_out S))), (11, .int (nI (fb_sm (cntT S) nt)))]) : W p l e room_1 s m #[Value.ref b] below meth c H locs cells slots Q (F0 m 526 ls []) := by
  have C1 := C0
  obtain ⟨hx, hb, hml, hown, hts, hX, hbl, hL, hK, hE⟩ := C0
  have hbA : ¬ (fun z => s.heap.size ≤ z) b := Nat.not_le.mpr hbl
  have hA : ∀ q : Nat, s.heap.size ≤ q → (fun z => s.heap.size ≤ z) q := fun q h => h
  have hBD := hB
  obtain ⟨hp1, hp6, hn2, hn29, ht1, ht8⟩ := hB
  refine lv_iload hx hb dL_law_526 (lv_at hl 10 rfl) ?_
  refine lv_iload hx hb dL_law_528 (lv_at hl 9 rfl) ?_
  refine lv_iadd hx hb dL_law_530 ?_
  refine cb_topi (nI_add _ _) ?_
  refine cb_topi (z := nI ns) (congrArg nI (asl_end hC)) ?_
  refine lv_iload hx hb dL_law_531 (lv_at hl 4 rfl) ?_
  refine lv_icmp_eq (tgt := 538) hx hb dL_law_533 (by decide) (fun c_533 => ?_) (fun c_533 => ?_)
  · have c_533 : ns = ns := cb_eq (by omega) (by omega) c_533
    have hl : lv_has ls 19 [(0, .ref b), (1, .ref (a 0)), (2, .int (nI np)), (3, .ref qt), (4, .int (nI ns)), (5, .ref qp), (6, .int (nI nt)), (7, .int (nI dy)), (8, .int x8)] := lv_sub hl [0, 1, 2, 3, 4, 5, 6, 7, 8] rfl
    refine lv_aload_n hx hb dL_law_538 rfl (lv_at hl 1 rfl) ?_
    have hz := cp_findDuties hC
    have hPc := hP.sub (ws' := (cb_w a k S)) [0, 1, 2, 3, 4, 5, 6, 7, 8, 9, 10, 11, 12, 13, 14, 15, 16, 17, 18, 19] rfl
    have hDc := hD.sub (ws' := (cb_w a k S)) [0, 1, 2, 3, 4, 5, 6, 7, 8, 9, 10, 11, 12, 13, 14, 15, 16, 17, 18, 19] (by decide) rfl
    have hKc := hK.sub (tys' := (cb_ty k)) [0, 1, 2, 3, 4, 5, 6, 7, 8, 9, 10, 11, 12, 13] rfl
    have hF : ∀ z, va_A (cb_w a k S) H.size z → (fun z => s.heap.size ≤ z) z := va_free hD hS hA [0, 1, 2, 3, 4, 5, 6, 7, 8, 9, 10, 11, 12, 13, 14, 15, 16, 17, 18, 19] rfl
    refine va_calli (va_runV (As := []) (rest := []) ⟨hx, hb, hml, hown, hts⟩ (c_X5_findDuties l dC dI a k S H.size  hC.1) (cwV 0 hts gL_law_X5_findDuties rfl rfl rfl (by decide +kernel) ⟨(Nat.le_of_ble_eq_true rfl), (Nat.le_of_ble_eq_true rfl)⟩) ⟨cU_blind, va_recv hKc hPc (ci := 5) (q0 := 0) rfl rfl, fun U hU hW => ⟨rfl, cU_of hKc hPc hDc hE hS hU hW hF⟩⟩ rfl rfl hl.1 rfl (lv_room (Nat.le_of_ble_eq_true rfl)) dL_law_539 ⟨(by show cells + 0 ≤ room_1.cells; exact Nat.le_trans (by omega) rm_c), (by show slots + 0 ≤ room_1.slots; exact Nat.le_trans (by omega) rm_s)⟩) hS (fun z _ h => hF z h) hF (fun r9 u8 t8 H1 L1 ht hvm hw hB hz1 hk1 hS => ?_)
    obtain ⟨hP9, -, hD9⟩ := hB
    rw [ht] at hP9
    obtain ⟨hP8, hD8⟩ := va_join (wc := (cb_w a k S)) (wr := [(qt, .inl (kt, (90, .inl tl))), (qp, .inl (kp, (10, .inl pl)))]) hP hD [0, 1, 2, 3, 4, 5, 6, 7, 8, 9, 10, 11, 12, 13, 14, 15, 16, 17, 18, 19] [20, 21] rfl rfl (by decide) (by decide) hk1 hF hP9 hD9
    have hP : va_P (dC, dI) vwCl (cb_w a k (S_findDuties S) ++ [(qt, .inl (kt, (90, .inl tl))), (qp, .inl (kp, (10, .inl pl)))]) H1 := hP8.sub [2, 3, 4, 5, 6, 7, 8, 9, 10, 11, 12, 13, 14, 15, 16, 17, 18, 19, 20, 21, 0, 1] rfl
    have hD : va_D (fun z => s.heap.size ≤ z) (cb_w a k (S_findDuties S) ++ [(qt, .inl (kt, (90, .inl tl))), (qp, .inl (kp, (10, .inl pl)))]) := hD8.sub [2, 3, 4, 5, 6, 7, 8, 9, 10, 11, 12, 13, 14, 15, 16, 17, 18, 19, 20, 21, 0, 1] (by decide) rfl
    subst hw
    refine cb_topi (z := nI (frE (S_findDuties S) dy 0)) (fd_free hz.2.1.1) ?_
    have hC := hz
    generalize S_findDuties S = S at hP hD hC ⊢
    refine lv_istore (lv' := [(12, .int (nI (frE S dy 0))), (0, .ref b), (1, .ref (a 0)), (2, .int (nI np)), (3, .ref qt), (4, .int (nI ns)), (5, .ref qp), (6, .int (nI nt)), (7, .int (nI dy)), (8, .int x8)]) hx hb dL_law_542 hl (by decide) rfl (fun ls hl => ?_)
    refine lv_bipush (v := nI 6) hx hb dL_law_544 (by decide) ?_
    refine va_newa (atype := .int) hx hb (hts (.arrayClass .int) (by decide +kernel)) rfl hK hP hD hS hA (a0 := (6, .inl (fun _ => 0))) (fun _ => rfl) (by decide) (N' := 6) rfl (by decide) (by show cells + 1 ≤ room_1.cells; exact Nat.le_trans (by omega) rm_c) (by show slots + 6 ≤ room_1.slots; exact Nat.le_trans (by omega) rm_s) dL_law_546 (fun qo ko H hK hP hD hS => ?_)
    have hP : va_P (dC, dI) vwCl (cb_w a k S ++ [(qt, .inl (kt, (90, .inl tl))), (qp, .inl (kp, (10, .inl pl))), (qo, .inl (ko, (6, .inl (fun _ => 0))))]) H := hP
    have hD : va_D (fun z => s.heap.size ≤ z) (cb_w a k S ++ [(qt, .inl (kt, (90, .inl tl))), (qp, .inl (kp, (10, .inl pl))), (qo, .inl (ko, (6, .inl (fun _ => 0))))]) := hD
    have hK : va_K (dC, dI) vwCl (cb_ty k ++ [(kt, .int), (kp, .int), (ko, .int)]) s := hK
    refine lv_astore (lv' := [(13, .ref qo), (12, .int (nI (frE S dy 0))), (0, .ref b), (1, .ref (a 0)), (2, .int (nI np)), (3, .ref qt), (4, .int (nI ns)), (5, .ref qp), (6, .int (nI nt)), (7, .int (nI dy)), (8, .int x8)]) hx hb dL_law_548 hl (by decide) rfl (fun ls hl => ?_)
    refine lv_iconst (v := nI 0) hx hb dL_law_550 (by decide) ?_
    refine lv_istore (lv' := [(14, .int (nI 0)), (13, .ref qo), (12, .int (nI (frE S dy 0))), (0, .ref b), (1, .ref (a 0)), (2, .int (nI np)), (3, .ref qt), (4, .int (nI ns)), (5, .ref qp), (6, .int (nI nt)), (7, .int (nI dy)), (8, .int x8)]) hx hb dL_law_551 hl (by decide) rfl (fun ls hl => ?_)
    refine W.widen (k := (cells + 1) + 16 * 0) (n := (slots + 6) + 96 * 0) (by omega) (by omega) ?_
    refine lp_duties (cells := (cells + 1)) (slots := (slots + 6)) (cE := (cells + 1) + 80) (sE := (slots + 6) + 480) hl9 C1 hBD (by omega) (by omega) (by omega) (by omega) hC hK hd (fun og H locs ls hP hD hS hl => ?_) 6 0 (by omega) (by omega) (fun _ => 0) H L1 ls of_0 hP hD hS (lv_sub hl [3, 4, 5, 6, 7, 8, 9, 10, 11, 2, 1, 0] rfl)
    rw [frE_5] at hl
    refine lv_iload hx hb dL_law_638 (lv_at hl 9 rfl) ?_
    refine lv_if_eq (tgt := 645) hx hb dL_law_640 (by decide) (fun c_640 => ?_) (fun c_640 => ?_)
    · skip
      have hP := hP.sub (ws' := (cb_w a k S ++ [(qt, .inl (kt, (90, .inl tl))), (qp, .inl (kp, (10, .inl pl)))])) [0, 1, 2, 3, 4, 5, 6, 7, 8, 9, 10, 11, 12, 13, 14, 15, 16, 17, 18, 19, 20, 21] rfl
      have hD := hD.sub (ws' := (cb_w a k S ++ [(qt, .inl (kt, (90, .inl tl))), (qp, .inl (kp, (10, .inl pl)))])) [0, 1, 2, 3, 4, 5, 6, 7, 8, 9, 10, 11, 12, 13, 14, 15, 16, 17, 18, 19, 20, 21] (by decide) rfl
      exact lw_645 (cells := ((cells + 1) + 80)) (slots := ((slots + 6) + 480)) (cE := cE) (sE := sE) hl9 C1 hBD (by omega) (by omega) (by omega) (by omega) hd hb2 kk hC hP hD hS (lv_sub hl [0, 1, 2, 3, 4, 5, 6, 7, 8] rfl)
    · exact absurd c_640 (by decide)
  · have c_533 : ns ≠ ns := cb_ne (by omega) (by omega) c_533
    exact absurd rfl c_533
set_option maxHeartbeats 4000000 in
set_option maxRecDepth 100000 in
theorem lw_346 {p : Program} {l : Launch} {e : Env} {s : State} {m : MethodId} {below : List Frame} {meth : Method} {c : Code} {b L : Nat} {xs : Nat → Int32} {dC : Nat → ClassId} {dI : Nat → Nat → Nat} {a : Nat → Nat} {k : Nat → ClassId} {qt : Nat} {kt : ClassId} {tl : Nat → Int32} {qp : Nat} {kp : ClassId} {pl : Nat → Int32} {np ns nt dy hq cells slots cE sE : Nat} {Q : State → Prop} (hl9 : l.stackTraces = false) (C0 : LC p s m c b L xs dC dI k kt kp) (hB : BD np ns nt) (h1 : cells + 3473 ≤ cE) (h2 : slots + 20838 ≤ sE) (hc : cE ≤ 200000) (hs : sE ≤ 2000000) {x8 : Int32} (hd : dy < 12) (hb2 : hq + 9 < 200) (kk : KD p l e s m below meth c b dC dI a k qt kt tl qp kp pl np ns nt (dy + 1) (hq + 9) [] 251 cE sE Q) {S : cs_S} {H : Heap} {locs : List Loc} {ls : Array Slot} (hC : Cp dy np ns nt 4 3 1 hq 12 tl pl S) (hP : va_P (dC, dI) vwCl (cb_w a k S ++ [(qt, .inl (kt, (90, .inl tl))), (qp, .inl (kp, (10, .inl pl)))]) H) (hD : va_D (fun z => s.heap.size ≤ z) (cb_w a k S ++ [(qt, .inl (kt, (90, .inl tl))), (qp, .inl (kp, (10, .inl pl)))])) (hS : va_S (fun z => s.heap.size ≤ z) s.heap H locs) (hl : lv_has ls 19 [(0, .ref b), (1, .ref (a 0)), (2, .int (nI np)), (3, .ref qt), (4, .int (nI ns)), (5, .ref qp), (6, .int (nI nt)), (7, .int (nI dy)), (8, .int x8)]) : W p l e room_1 s m #[Value.ref b] below meth c H locs cells slots Q (F0 m 346 ls []) := by
  have C1 := C0
  obtain ⟨hx, hb, hml, hown, hts, hX, hbl, hL, hK, hE⟩ := C0
  have hbA : ¬ (fun z => s.heap.size ≤ z) b := Nat.not_le.mpr hbl
  have hA : ∀ q : Nat, s.heap.size ≤ q → (fun z => s.heap.size ≤ z) q := fun q h => h
  have hBD := hB
  obtain ⟨hp1, hp6, hn2, hn29, ht1, ht8⟩ := hB
  refine lv_aload_n hx hb dL_law_346 rfl (lv_at hl 1 rfl) ?_
  have hz := cp_findTents hC
  have hPc := hP.sub (ws' := (cb_w a k S)) [0, 1, 2, 3, 4, 5, 6, 7, 8, 9, 10, 11, 12, 13, 14, 15, 16, 17, 18, 19] rfl
  have hDc := hD.sub (ws' := (cb_w a k S)) [0, 1, 2, 3, 4, 5, 6, 7, 8, 9, 10, 11, 12, 13, 14, 15, 16, 17, 18, 19] (by decide) rfl
  have hKc := hK.sub (tys' := (cb_ty k)) [0, 1, 2, 3, 4, 5, 6, 7, 8, 9, 10, 11, 12, 13] rfl
  have hF : ∀ z, va_A (cb_w a k S) H.size z → (fun z => s.heap.size ≤ z) z := va_free hD hS hA [0, 1, 2, 3, 4, 5, 6, 7, 8, 9, 10, 11, 12, 13, 14, 15, 16, 17, 18, 19] rfl
  refine va_calli (va_runV (As := []) (rest := []) ⟨hx, hb, hml, hown, hts⟩ (c_X5_findTents l dC dI a k S H.size  hC.1) (cwV 0 hts gL_law_X5_findTents rfl rfl rfl (by decide +kernel) ⟨(Nat.le_of_ble_eq_true rfl), (Nat.le_of_ble_eq_true rfl)⟩) ⟨cT_blind, va_recv hKc hPc (ci := 5) (q0 := 0) rfl rfl, fun U hU hW => ⟨rfl, cT_of hKc hPc hDc hU hW⟩⟩ rfl rfl hl.1 rfl (lv_room (Nat.le_of_ble_eq_true rfl)) dL_law_347 ⟨(by show cells + 0 ≤ room_1.cells; exact Nat.le_trans (by omega) rm_c), (by show slots + 0 ≤ room_1.slots; exact Nat.le_trans (by omega) rm_s)⟩) hS (fun z _ h => hF z h) hF (fun r9 u8 t8 H1 L1 ht hvm hw hB hz1 hk1 hS => ?_)
  obtain ⟨hP9, -, hD9⟩ := hB
  rw [ht] at hP9
  obtain ⟨hP8, hD8⟩ := va_join (wc := (cb_w a k S)) (wr := [(qt, .inl (kt, (90, .inl tl))), (qp, .inl (kp, (10, .inl pl)))]) hP hD [0, 1, 2, 3, 4, 5, 6, 7, 8, 9, 10, 11, 12, 13, 14, 15, 16, 17, 18, 19] [20, 21] rfl rfl (by decide) (by decide) hk1 hF hP9 hD9
  have hP : va_P (dC, dI) vwCl (cb_w a k (S_findTents S) ++ [(qt, .inl (kt, (90, .inl tl))), (qp, .inl (kp, (10, .inl pl)))]) H1 := hP8.sub [2, 3, 4, 5, 6, 7, 8, 9, 10, 11, 12, 13, 14, 15, 16, 17, 18, 19, 20, 21, 0, 1] rfl
  have hD : va_D (fun z => s.heap.size ≤ z) (cb_w a k (S_findTents S) ++ [(qt, .inl (kt, (90, .inl tl))), (qp, .inl (kp, (10, .inl pl)))]) := hD8.sub [2, 3, 4, 5, 6, 7, 8, 9, 10, 11, 12, 13, 14, 15, 16, 17, 18, 19, 20, 21, 0, 1] (by decide) rfl
  subst hw
  have hC := hz
  generalize S_findTents S = S at hP hD hC ⊢
  refine lv_istore (lv' := [(10, .int (nI (c_out S))), (0, .ref b), (1, .ref (a 0)), (2, .int (nI np)), (3, .ref qt), (4, .int (nI ns)), (5, .ref qp), (6, .int (nI nt)), (7, .int (nI dy)), (8, .int x8)]) hx hb dL_law_350 hl (by decide) rfl (fun ls hl => ?_)
  refine lv_iconst (v := nI 0) hx hb dL_law_352 (by decide) ?_
  refine cb_topi (z := nI (fb_sm (cntT S) 0)) rfl ?_
  refine lv_istore (lv' := [(11, .int (nI (fb_sm (cntT S) 0))), (10, .int (nI (c_out S))), (0, .ref b), (1, .ref (a 0)), (2, .int (nI np)), (3, .ref qt), (4, .int (nI ns)), (5, .ref qp), (6, .int (nI nt)), (7, .int (nI dy)), (8, .int x8)]) hx hb dL_law_353 hl (by decide) rfl (fun ls hl => ?_)
  refine lv_iconst (v := nI 0) hx hb dL_law_355 (by decide) ?_
  refine lv_istore (lv' := [(12, .int (nI 0)), (11, .int (nI (fb_sm (cntT S) 0))), (10, .int (nI (c_out S))), (0, .ref b), (1, .ref (a 0)), (2, .int (nI np)), (3, .ref qt), (4, .int (nI ns)), (5, .ref qp), (6, .int (nI nt)), (7, .int (nI dy)), (8, .int x8)]) hx hb dL_law_356 hl (by decide) rfl (fun ls hl => ?_)
  refine W.widen (k := cells + 256 * 0) (n := slots + 1536 * 0) (by omega) (by omega) ?_
  refine lp_tents (cells := cells) (slots := slots) (cE := cells + 2048) (sE := slots + 12288) hl9 C1 hBD (by omega) (by omega) (by omega) (by omega) hC (fun H locs ls hP hD hS hl => ?_) (nt + 1) 0 (by omega) (by omega) H1 L1 ls hP hD hS (lv_sub hl [3, 4, 5, 6, 7, 8, 9, 10, 11, 2, 1, 0] rfl)
  exact lw_526 (cells := (cells + 2048)) (slots := (slots + 12288)) (cE := cE) (sE := sE) hl9 C1 hBD (by omega) (by omega) (by omega) (by omega) hd hb2 kk hC hP hD hS (lv_sub hl [0, 1, 2, 3, 4, 5, 6, 7, 8, 9, 10] rfl)
set_option maxHeartbeats 4000000 in
set_option maxRecDepth 100000 in
theorem lw_258 {p : Program} {l : Launch} {e : Env} {s : State} {m : MethodId} {below : List Frame} {meth : Method} {c : Code} {b L : Nat} {xs : Nat → Int32} {dC : Nat → ClassId} {dI : Nat → Nat → Nat} {a : Nat → Nat} {k : Nat → ClassId} {qt : Nat} {kt : ClassId} {tl : Nat → Int32} {qp : Nat} {kp : ClassId} {pl : Nat → Int32} {np ns nt dy hq cells slots cE sE : Nat} {Q : State → Prop} (hl9 : l.stackTraces = false) (C0 : LC p s m c b L xs dC dI k kt kp) (hB : BD np ns nt) (h1 : cells + 3497 ≤ cE) (h2 : slots + 20982 ≤ sE) (hc : cE ≤ 200000) (hs : sE ≤ 2000000) (hd : dy < 12) (hb2 : hq + 9 < 200) (kk : KD p l e s m below meth c b dC dI a k qt kt tl qp kp pl np ns nt (dy + 1) (hq + 9) [] 251 cE sE Q) {S : cs_S} {H : Heap} {locs : List Loc} {ls : Array Slot} (hC : Cp dy np ns nt 4 3 1 hq 12 tl pl S) (hP : va_P (dC, dI) vwCl (cb_w a k S ++ [(qt, .inl (kt, (90, .inl tl))), (qp, .inl (kp, (10, .inl pl)))]) H) (hD : va_D (fun z => s.heap.size ≤ z) (cb_w a k S ++ [(qt, .inl (kt, (90, .inl tl))), (qp, .inl (kp, (10, .inl pl)))])) (hS : va_S (fun z => s.heap.size ≤ z) s.heap H locs) (hl : lv_has ls 19 [(0, .ref b), (1, .ref (a 0)), (2, .int (nI np)), (3, .ref qt), (4, .int (nI ns)), (5, .ref qp), (6, .int (nI nt)), (7, .int (nI dy))]) : W p l e room_1 s m #[Value.ref b] below meth c H locs cells slots Q (F0 m 258 ls []) := by
  have C1 := C0
  obtain ⟨hx, hb, hml, hown, hts, hX, hbl, hL, hK, hE⟩ := C0
  have hbA : ¬ (fun z => s.heap.size ≤ z) b := Nat.not_le.mpr hbl
  have hA : ∀ q : Nat, s.heap.size ≤ q → (fun z => s.heap.size ≤ z) q := fun q h => h
  have hBD := hB
  obtain ⟨hp1, hp6, hn2, hn29, ht1, ht8⟩ := hB
  refine lv_aload_n hx hb dL_law_258 rfl (lv_at hl 0 rfl) ?_
  refine lv_bipush (v := nI 10) hx hb dL_law_259 (by decide) ?_
  refine lv_iload hx hb dL_law_261 (lv_at hl 7 rfl) ?_
  refine lv_bipush (v := nI 6) hx hb dL_law_263 (by decide) ?_
  refine lv_irem hx hb dL_law_265 (by decide) ?_
  refine cb_topi (pk_rem (d := 6) (by omega) (by decide) (by decide)) ?_
  refine lv_iadd hx hb dL_law_266 ?_
  refine cb_topi (nI_add _ _) ?_
  refine vp_callSi (W.runS (As := [.ref b, .int (nI (10 + (dy % 6)))]) (rest := []) ⟨hx, hb, hml, hown, hts⟩ (c_L_cell l b L xs (10 + (dy % 6)) hL (by omega)) (va_cwS 2 hts gL_law_L_cell rfl rfl rfl (by decide +kernel) ⟨(Nat.le_of_ble_eq_true rfl), (Nat.le_of_ble_eq_true rfl)⟩) ⟨cSc_blind, fun U hU hW => ⟨rfl, cSc_of hX hbl hbA hS hU hW⟩⟩ rfl rfl hl.1 rfl (lv_room (Nat.le_of_ble_eq_true rfl)) dL_law_267 ⟨(by show cells + 0 ≤ room_1.cells; exact Nat.le_trans (by omega) rm_c), (by show slots + 0 ≤ room_1.slots; exact Nat.le_trans (by omega) rm_s)⟩) (fun r1 _ => ?_)
  refine lv_iload hx hb dL_law_270 (lv_at hl 7 rfl) ?_
  refine lv_bipush (v := nI 6) hx hb dL_law_272 (by decide) ?_
  refine lv_idiv hx hb dL_law_274 (by decide) ?_
  refine lv_iconst (v := nI 5) hx hb dL_law_275 (by decide) ?_
  refine lv_imul hx hb dL_law_276 ?_
  refine lv_ishr hx hb dL_law_277 ?_
  refine lv_iload hx hb dL_law_278 (lv_at hl 7 rfl) ?_
  refine lv_sipush (v := nI 3571) hx hb dL_law_280 (by decide) ?_
  refine lv_imul hx hb dL_law_283 ?_
  refine cb_topi (pk_mul _ _) ?_
  refine lv_ixor hx hb dL_law_284 ?_
  refine lv_topi (fun y2 ey2 => ?_)
  refine lv_istore (lv' := [(8, .int y2), (0, .ref b), (1, .ref (a 0)), (2, .int (nI np)), (3, .ref qt), (4, .int (nI ns)), (5, .ref qp), (6, .int (nI nt)), (7, .int (nI dy))]) hx hb dL_law_285 hl (by decide) rfl (fun ls hl => ?_)
  refine lv_iload hx hb dL_law_287 (lv_at hl 0 rfl) ?_
  refine lv_iload hx hb dL_law_289 (lv_at hl 5 rfl) ?_
  refine vp_callSi (W.runS (As := [.int y2, .int (nI ns)]) (rest := []) ⟨hx, hb, hml, hown, hts⟩ (c_L_below l y2 ns (by omega) (by omega)) (va_cwS 2 hts gL_law_L_below rfl rfl rfl (by decide +kernel) ⟨(Nat.le_of_ble_eq_true rfl), (Nat.le_of_ble_eq_true rfl)⟩) ⟨cN_blind, fun U hU hW => ⟨rfl, trivial⟩⟩ rfl rfl hl.1 rfl (lv_room (Nat.le_of_ble_eq_true rfl)) dL_law_291 ⟨(by show cells + 0 ≤ room_1.cells; exact Nat.le_trans (by omega) rm_c), (by show slots + 0 ≤ room_1.slots; exact Nat.le_trans (by omega) rm_s)⟩) (fun r er => ?_)
  obtain ⟨j3, hj3, er⟩ := er
  subst er
  refine lv_istore (lv' := [(9, .int (nI j3)), (8, .int y2), (0, .ref b), (1, .ref (a 0)), (2, .int (nI np)), (3, .ref qt), (4, .int (nI ns)), (5, .ref qp), (6, .int (nI nt)), (7, .int (nI dy))]) hx hb dL_law_294 hl (by decide) rfl (fun ls hl => ?_)
  refine lv_aload_n hx hb dL_law_296 rfl (lv_at hl 3 rfl) ?_
  refine lv_iload hx hb dL_law_297 (lv_at hl 0 rfl) ?_
  refine lv_iload hx hb dL_law_299 (lv_at hl 1 rfl) ?_
  refine lv_iconst (v := nI 5) hx hb dL_law_301 (by decide) ?_
  refine lv_ishr hx hb dL_law_302 ?_
  refine lv_iconst (v := nI 4) hx hb dL_law_303 (by decide) ?_
  refine vp_callSi (W.runS (As := [.int (y2 >>> (nI 5 &&& 31)), .int (nI 4)]) (rest := [.int (nI j3), .ref (a 0)]) ⟨hx, hb, hml, hown, hts⟩ (c_L_below l (y2 >>> (nI 5 &&& 31)) 4 (by omega) (by omega)) (va_cwS 2 hts gL_law_L_below rfl rfl rfl (by decide +kernel) ⟨(Nat.le_of_ble_eq_true rfl), (Nat.le_of_ble_eq_true rfl)⟩) ⟨cN_blind, fun U hU hW => ⟨rfl, trivial⟩⟩ rfl rfl hl.1 rfl (lv_room (Nat.le_of_ble_eq_true rfl)) dL_law_304 ⟨(by show cells + 0 ≤ room_1.cells; exact Nat.le_trans (by omega) rm_c), (by show slots + 0 ≤ room_1.slots; exact Nat.le_trans (by omega) rm_s)⟩) (fun r er => ?_)
  obtain ⟨j4, hj4, er⟩ := er
  subst er
  refine lv_iload hx hb dL_law_307 (lv_at hl 1 rfl) ?_
  refine lv_bipush (v := nI 8) hx hb dL_law_309 (by decide) ?_
  refine lv_ishr hx hb dL_law_311 ?_
  refine lv_iconst (v := nI 2) hx hb dL_law_312 (by decide) ?_
  refine vp_callSi (W.runS (As := [.int (y2 >>> (nI 8 &&& 31)), .int (nI 2)]) (rest := [.int (nI j4), .int (nI j3), .ref (a 0)]) ⟨hx, hb, hml, hown, hts⟩ (c_L_below l (y2 >>> (nI 8 &&& 31)) 2 (by omega) (by omega)) (va_cwS 2 hts gL_law_L_below rfl rfl rfl (by decide +kernel) ⟨(Nat.le_of_ble_eq_true rfl), (Nat.le_of_ble_eq_true rfl)⟩) ⟨cN_blind, fun U hU hW => ⟨rfl, trivial⟩⟩ rfl rfl hl.1 rfl (lv_room (Nat.le_of_ble_eq_true rfl)) dL_law_313 ⟨(by show cells + 0 ≤ room_1.cells; exact Nat.le_trans (by omega) rm_c), (by show slots + 0 ≤ room_1.slots; exact Nat.le_trans (by omega) rm_s)⟩) (fun r er => ?_)
  obtain ⟨j5, hj5, er⟩ := er
  subst er
  refine lv_if_ne (tgt := 323) hx hb dL_law_316 (by decide) (fun c_316 => ?_) (fun c_316 => ?_)
  · have c_316 : j5 ≠ 0 := cb_ne (by omega) (by omega) c_316
    refine lv_iconst (v := nI 0) hx hb dL_law_323 (by decide) ?_
    refine cb_topi (z := bI false) (bI_eq0 rfl) ?_
    have hz := cp_diet (b := false) hC hj3 hj4
    have hPc := hP.sub (ws' := (cb_w a k S)) [0, 1, 2, 3, 4, 5, 6, 7, 8, 9, 10, 11, 12, 13, 14, 15, 16, 17, 18, 19] rfl
    have hDc := hD.sub (ws' := (cb_w a k S)) [0, 1, 2, 3, 4, 5, 6, 7, 8, 9, 10, 11, 12, 13, 14, 15, 16, 17, 18, 19] (by decide) rfl
    have hKc := hK.sub (tys' := (cb_ty k)) [0, 1, 2, 3, 4, 5, 6, 7, 8, 9, 10, 11, 12, 13] rfl
    have hF : ∀ z, va_A (cb_w a k S) H.size z → (fun z => s.heap.size ≤ z) z := va_free hD hS hA [0, 1, 2, 3, 4, 5, 6, 7, 8, 9, 10, 11, 12, 13, 14, 15, 16, 17, 18, 19] rfl
    refine vx_calli (vx_runV (As := [.int (nI j3), .int (nI j4), .int (bI false)]) (rest := []) ⟨hx, hb, hml, hown, hts⟩ (c_X5_diet l hl9 dC dI a k S H.size (nI j3) (nI j4) false hC.1) (cwV 3 hts gL_law_X5_diet rfl rfl rfl (by decide +kernel) ⟨(Nat.le_of_ble_eq_true rfl), (Nat.le_of_ble_eq_true rfl)⟩) ⟨cU_blind, va_recv hKc hPc (ci := 5) (q0 := 0) rfl rfl, fun U hU hW => ⟨rfl, cU_of hKc hPc hDc hE hS hU hW hF⟩⟩ rfl rfl hl.1 rfl (lv_room (Nat.le_of_ble_eq_true rfl)) dL_law_324 ⟨(by show cells + 8 ≤ room_1.cells; exact Nat.le_trans (by omega) rm_c), (by show slots + 48 ≤ room_1.slots; exact Nat.le_trans (by omega) rm_s)⟩) hS (fun z _ h => hF z h) hF (fun z _ h => hF z h) (fun E ce q9 u8 t8 H1 L1 ht hvm _ hB hz1 hk1 hS hce hcv hcl => absurd hB.1.1 (by rw [hz.1]; decide)) (fun r9 u8 t8 H1 L1 ht hvm hw hB hz1 hk1 hS => ?_)
    obtain ⟨hP9, -, hD9⟩ := hB
    rw [ht] at hP9
    obtain ⟨hP8, hD8⟩ := va_join (wc := (cb_w a k S)) (wr := [(qt, .inl (kt, (90, .inl tl))), (qp, .inl (kp, (10, .inl pl)))]) hP hD [0, 1, 2, 3, 4, 5, 6, 7, 8, 9, 10, 11, 12, 13, 14, 15, 16, 17, 18, 19] [20, 21] rfl rfl (by decide) (by decide) hk1 hF hP9 hD9
    have hP : va_P (dC, dI) vwCl (cb_w a k (S_diet S (nI j3) (nI j4) false) ++ [(qt, .inl (kt, (90, .inl tl))), (qp, .inl (kp, (10, .inl pl)))]) H1 := hP8.sub [2, 3, 4, 5, 6, 7, 8, 9, 10, 11, 12, 13, 14, 15, 16, 17, 18, 19, 20, 21, 0, 1] rfl
    have hD : va_D (fun z => s.heap.size ≤ z) (cb_w a k (S_diet S (nI j3) (nI j4) false) ++ [(qt, .inl (kt, (90, .inl tl))), (qp, .inl (kp, (10, .inl pl)))]) := hD8.sub [2, 3, 4, 5, 6, 7, 8, 9, 10, 11, 12, 13, 14, 15, 16, 17, 18, 19, 20, 21, 0, 1] (by decide) rfl
    obtain ⟨-, hr9⟩ := hw
    subst hr9
    have hC := hz.2
    generalize S_diet S (nI j3) (nI j4) false = S at hP hD hC
    refine lv_pop hx hb dL_law_327 rfl ?_
    refine lv_aload_n hx hb dL_law_328 rfl (lv_at hl 3 rfl) ?_
    refine lv_iload hx hb dL_law_329 (lv_at hl 0 rfl) ?_
    refine lv_iconst (v := nI 4) hx hb dL_law_331 (by decide) ?_
    have hPc := hP.sub (ws' := (cb_w a k S)) [0, 1, 2, 3, 4, 5, 6, 7, 8, 9, 10, 11, 12, 13, 14, 15, 16, 17, 18, 19] rfl
    have hDc := hD.sub (ws' := (cb_w a k S)) [0, 1, 2, 3, 4, 5, 6, 7, 8, 9, 10, 11, 12, 13, 14, 15, 16, 17, 18, 19] (by decide) rfl
    have hKc := hK.sub (tys' := (cb_ty k)) [0, 1, 2, 3, 4, 5, 6, 7, 8, 9, 10, 11, 12, 13] rfl
    have hF : ∀ z, va_A (cb_w a k S) H1.size z → (fun z => s.heap.size ≤ z) z := va_free hD hS hA [0, 1, 2, 3, 4, 5, 6, 7, 8, 9, 10, 11, 12, 13, 14, 15, 16, 17, 18, 19] rfl
    refine vx_calli (vx_runV (As := [.int (nI j3), .int (nI 4)]) (rest := []) ⟨hx, hb, hml, hown, hts⟩ (c_X5_scout l hl9 dC dI a k S H1.size (nI j3) (nI 4) hC.1) (cwV 2 hts gL_law_X5_scout rfl rfl rfl (by decide +kernel) ⟨(Nat.le_of_ble_eq_true rfl), (Nat.le_of_ble_eq_true rfl)⟩) ⟨cU_blind, va_recv hKc hPc (ci := 5) (q0 := 0) rfl rfl, fun U hU hW => ⟨rfl, cU_of hKc hPc hDc hE hS hU hW hF⟩⟩ rfl rfl hl.1 rfl (lv_room (Nat.le_of_ble_eq_true rfl)) dL_law_332 ⟨(by show (cells + 8) + 8 ≤ room_1.cells; exact Nat.le_trans (by omega) rm_c), (by show (slots + 48) + 48 ≤ room_1.slots; exact Nat.le_trans (by omega) rm_s)⟩) hS (fun z _ h => hF z h) hF (fun z _ h => hF z h) (fun E ce q9 u8 t8 H1 L1 ht hvm _ hB hz1 hk1 hS hce hcv hcl => absurd hB.1.1 (by rw [kz_scout hC.2.1.2.2.1 (by omega) (by assumption) (by omega)]; decide)) (fun r9 u8 t8 H1 L1 ht hvm hw hB hz1 hk1 hS => ?_)
    obtain ⟨hP9, -, hD9⟩ := hB
    rw [ht] at hP9
    obtain ⟨hP8, hD8⟩ := va_join (wc := (cb_w a k S)) (wr := [(qt, .inl (kt, (90, .inl tl))), (qp, .inl (kp, (10, .inl pl)))]) hP hD [0, 1, 2, 3, 4, 5, 6, 7, 8, 9, 10, 11, 12, 13, 14, 15, 16, 17, 18, 19] [20, 21] rfl rfl (by decide) (by decide) hk1 hF hP9 hD9
    have hP : va_P (dC, dI) vwCl (cb_w a k S ++ [(qt, .inl (kt, (90, .inl tl))), (qp, .inl (kp, (10, .inl pl)))]) H1 := hP8.sub [2, 3, 4, 5, 6, 7, 8, 9, 10, 11, 12, 13, 14, 15, 16, 17, 18, 19, 20, 21, 0, 1] rfl
    have hD : va_D (fun z => s.heap.size ≤ z) (cb_w a k S ++ [(qt, .inl (kt, (90, .inl tl))), (qp, .inl (kp, (10, .inl pl)))]) := hD8.sub [2, 3, 4, 5, 6, 7, 8, 9, 10, 11, 12, 13, 14, 15, 16, 17, 18, 19, 20, 21, 0, 1] (by decide) rfl
    obtain ⟨-, hr9⟩ := hw
    subst hr9
    refine cb_topi (z := c_ten S j3) (rs_ten (by omega)) ?_
    refine lv_if_lt (tgt := 346) hx hb dL_law_335 (by decide) (fun c_335 => ?_) (fun c_335 => ?_)
    · skip
      exact lw_346 (cells := ((cells + 8) + 8)) (slots := ((slots + 48) + 48)) (cE := cE) (sE := sE) hl9 C1 hBD (by omega) (by omega) (by omega) (by omega) hd hb2 kk hC hP hD hS (lv_sub hl [2, 3, 4, 5, 6, 7, 8, 9, 1] rfl)
    · skip
      refine lv_aload_n hx hb dL_law_338 rfl (lv_at hl 3 rfl) ?_
      refine lv_iload hx hb dL_law_339 (lv_at hl 0 rfl) ?_
      refine lv_iconst (v := (-1)) hx hb dL_law_341 (by decide) ?_
      have hz := cp_sleep hC hj3 (fun z => c_335 (by rw [z]; exact m1_lt0))
      have hPc := hP.sub (ws' := (cb_w a k S)) [0, 1, 2, 3, 4, 5, 6, 7, 8, 9, 10, 11, 12, 13, 14, 15, 16, 17, 18, 19] rfl
      have hDc := hD.sub (ws' := (cb_w a k S)) [0, 1, 2, 3, 4, 5, 6, 7, 8, 9, 10, 11, 12, 13, 14, 15, 16, 17, 18, 19] (by decide) rfl
      have hKc := hK.sub (tys' := (cb_ty k)) [0, 1, 2, 3, 4, 5, 6, 7, 8, 9, 10, 11, 12, 13] rfl
      have hF : ∀ z, va_A (cb_w a k S) H1.size z → (fun z => s.heap.size ≤ z) z := va_free hD hS hA [0, 1, 2, 3, 4, 5, 6, 7, 8, 9, 10, 11, 12, 13, 14, 15, 16, 17, 18, 19] rfl
      refine vx_calli (vx_runV (As := [.int (nI j3), .int (-1)]) (rest := []) ⟨hx, hb, hml, hown, hts⟩ (c_X5_sleep l hl9 dC dI a k S H1.size (nI j3) (-1) hC.1) (cwV 2 hts gL_law_X5_sleep rfl rfl rfl (by decide +kernel) ⟨(Nat.le_of_ble_eq_true rfl), (Nat.le_of_ble_eq_true rfl)⟩) ⟨cU_blind, va_recv hKc hPc (ci := 5) (q0 := 0) rfl rfl, fun U hU hW => ⟨rfl, cU_of hKc hPc hDc hE hS hU hW hF⟩⟩ rfl rfl hl.1 rfl (lv_room (Nat.le_of_ble_eq_true rfl)) dL_law_342 ⟨(by show ((cells + 8) + 8) + 8 ≤ room_1.cells; exact Nat.le_trans (by omega) rm_c), (by show ((slots + 48) + 48) + 48 ≤ room_1.slots; exact Nat.le_trans (by omega) rm_s)⟩) hS (fun z _ h => hF z h) hF (fun z _ h => hF z h) (fun E ce q9 u8 t8 H1 L1 ht hvm _ hB hz1 hk1 hS hce hcv hcl => absurd hB.1.1 (by rw [hz.1]; decide)) (fun r9 u8 t8 H1 L1 ht hvm hw hB hz1 hk1 hS => ?_)
      obtain ⟨hP9, -, hD9⟩ := hB
      rw [ht] at hP9
      obtain ⟨hP8, hD8⟩ := va_join (wc := (cb_w a k S)) (wr := [(qt, .inl (kt, (90, .inl tl))), (qp, .inl (kp, (10, .inl pl)))]) hP hD [0, 1, 2, 3, 4, 5, 6, 7, 8, 9, 10, 11, 12, 13, 14, 15, 16, 17, 18, 19] [20, 21] rfl rfl (by decide) (by decide) hk1 hF hP9 hD9
      have hP : va_P (dC, dI) vwCl (cb_w a k (S_sleep S (nI j3) (-1)) ++ [(qt, .inl (kt, (90, .inl tl))), (qp, .inl (kp, (10, .inl pl)))]) H1 := hP8.sub [2, 3, 4, 5, 6, 7, 8, 9, 10, 11, 12, 13, 14, 15, 16, 17, 18, 19, 20, 21, 0, 1] rfl
      have hD : va_D (fun z => s.heap.size ≤ z) (cb_w a k (S_sleep S (nI j3) (-1)) ++ [(qt, .inl (kt, (90, .inl tl))), (qp, .inl (kp, (10, .inl pl)))]) := hD8.sub [2, 3, 4, 5, 6, 7, 8, 9, 10, 11, 12, 13, 14, 15, 16, 17, 18, 19, 20, 21, 0, 1] (by decide) rfl
      obtain ⟨-, hr9⟩ := hw
      subst hr9
      have hC := hz.2
      generalize S_sleep S (nI j3) (-1) = S at hP hD hC
      refine lv_pop hx hb dL_law_345 rfl ?_
      exact lw_346 (cells := (((cells + 8) + 8) + 8)) (slots := (((slots + 48) + 48) + 48)) (cE := cE) (sE := sE) hl9 C1 hBD (by omega) (by omega) (by omega) (by omega) hd hb2 kk hC hP hD hS (lv_sub hl [2, 3, 4, 5, 6, 7, 8, 9, 1] rfl)
  · have c_316 : j5 = 0 := cb_nne (by omega) (by omega) c_316
    refine lv_iconst (v := nI 1) hx hb dL_law_319 (by decide) ?_
    refine lv_goto (tgt := 324) hx hb dL_law_320 (by decide) ?_
    refine cb_topi (z := bI true) (bI_eq1 rfl) ?_
    have hz := cp_diet (b := true) hC hj3 hj4
    have hPc := hP.sub (ws' := (cb_w a k S)) [0, 1, 2, 3, 4, 5, 6, 7, 8, 9, 10, 11, 12, 13, 14, 15, 16, 17, 18, 19] rfl
    have hDc := hD.sub (ws' := (cb_w a k S)) [0, 1, 2, 3, 4, 5, 6, 7, 8, 9, 10, 11, 12, 13, 14, 15, 16, 17, 18, 19] (by decide) rfl
    have hKc := hK.sub (tys' := (cb_ty k)) [0, 1, 2, 3, 4, 5, 6, 7, 8, 9, 10, 11, 12, 13] rfl
    have hF : ∀ z, va_A (cb_w a k S) H.size z → (fun z => s.heap.size ≤ z) z := va_free hD hS hA [0, 1, 2, 3, 4, 5, 6, 7, 8, 9, 10, 11, 12, 13, 14, 15, 16, 17, 18, 19] rfl
    refine vx_calli (vx_runV (As := [.int (nI j3), .int (nI j4), .int (bI true)]) (rest := []) ⟨hx, hb, hml, hown, hts⟩ (c_X5_diet l hl9 dC dI a k S H.size (nI j3) (nI j4) true hC.1) (cwV 3 hts gL_law_X5_diet rfl rfl rfl (by decide +kernel) ⟨(Nat.le_of_ble_eq_true rfl), (Nat.le_of_ble_eq_true rfl)⟩) ⟨cU_blind, va_recv hKc hPc (ci := 5) (q0 := 0) rfl rfl, fun U hU hW => ⟨rfl, cU_of hKc hPc hDc hE hS hU hW hF⟩⟩ rfl rfl hl.1 rfl (lv_room (Nat.le_of_ble_eq_true rfl)) dL_law_324 ⟨(by show cells + 8 ≤ room_1.cells; exact Nat.le_trans (by omega) rm_c), (by show slots + 48 ≤ room_1.slots; exact Nat.le_trans (by omega) rm_s)⟩) hS (fun z _ h => hF z h) hF (fun z _ h => hF z h) (fun E ce q9 u8 t8 H1 L1 ht hvm _ hB hz1 hk1 hS hce hcv hcl => absurd hB.1.1 (by rw [hz.1]; decide)) (fun r9 u8 t8 H1 L1 ht hvm hw hB hz1 hk1 hS => ?_)
    obtain ⟨hP9, -, hD9⟩ := hB
    rw [ht] at hP9
    obtain ⟨hP8, hD8⟩ := va_join (wc := (cb_w a k S)) (wr := [(qt, .inl (kt, (90, .inl tl))), (qp, .inl (kp, (10, .inl pl)))]) hP hD [0, 1, 2, 3, 4, 5, 6, 7, 8, 9, 10, 11, 12, 13, 14, 15, 16, 17, 18, 19] [20, 21] rfl rfl (by decide) (by decide) hk1 hF hP9 hD9
    have hP : va_P (dC, dI) vwCl (cb_w a k (S_diet S (nI j3) (nI j4) true) ++ [(qt, .inl (kt, (90, .inl tl))), (qp, .inl (kp, (10, .inl pl)))]) H1 := hP8.sub [2, 3, 4, 5, 6, 7, 8, 9, 10, 11, 12, 13, 14, 15, 16, 17, 18, 19, 20, 21, 0, 1] rfl
    have hD : va_D (fun z => s.heap.size ≤ z) (cb_w a k (S_diet S (nI j3) (nI j4) true) ++ [(qt, .inl (kt, (90, .inl tl))), (qp, .inl (kp, (10, .inl pl)))]) := hD8.sub [2, 3, 4, 5, 6, 7, 8, 9, 10, 11, 12, 13, 14, 15, 16, 17, 18, 19, 20, 21, 0, 1] (by decide) rfl
    obtain ⟨-, hr9⟩ := hw
    subst hr9
    have hC := hz.2
    generalize S_diet S (nI j3) (nI j4) true = S at hP hD hC
    refine lv_pop hx hb dL_law_327 rfl ?_
    refine lv_aload_n hx hb dL_law_328 rfl (lv_at hl 3 rfl) ?_
    refine lv_iload hx hb dL_law_329 (lv_at hl 0 rfl) ?_
    refine lv_iconst (v := nI 4) hx hb dL_law_331 (by decide) ?_
    have hPc := hP.sub (ws' := (cb_w a k S)) [0, 1, 2, 3, 4, 5, 6, 7, 8, 9, 10, 11, 12, 13, 14, 15, 16, 17, 18, 19] rfl
    have hDc := hD.sub (ws' := (cb_w a k S)) [0, 1, 2, 3, 4, 5, 6, 7, 8, 9, 10, 11, 12, 13, 14, 15, 16, 17, 18, 19] (by decide) rfl
    have hKc := hK.sub (tys' := (cb_ty k)) [0, 1, 2, 3, 4, 5, 6, 7, 8, 9, 10, 11, 12, 13] rfl
    have hF : ∀ z, va_A (cb_w a k S) H1.size z → (fun z => s.heap.size ≤ z) z := va_free hD hS hA [0, 1, 2, 3, 4, 5, 6, 7, 8, 9, 10, 11, 12, 13, 14, 15, 16, 17, 18, 19] rfl
    refine vx_calli (vx_runV (As := [.int (nI j3), .int (nI 4)]) (rest := []) ⟨hx, hb, hml, hown, hts⟩ (c_X5_scout l hl9 dC dI a k S H1.size (nI j3) (nI 4) hC.1) (cwV 2 hts gL_law_X5_scout rfl rfl rfl (by decide +kernel) ⟨(Nat.le_of_ble_eq_true rfl), (Nat.le_of_ble_eq_true rfl)⟩) ⟨cU_blind, va_recv hKc hPc (ci := 5) (q0 := 0) rfl rfl, fun U hU hW => ⟨rfl, cU_of hKc hPc hDc hE hS hU hW hF⟩⟩ rfl rfl hl.1 rfl (lv_room (Nat.le_of_ble_eq_true rfl)) dL_law_332 ⟨(by show (cells + 8) + 8 ≤ room_1.cells; exact Nat.le_trans (by omega) rm_c), (by show (slots + 48) + 48 ≤ room_1.slots; exact Nat.le_trans (by omega) rm_s)⟩) hS (fun z _ h => hF z h) hF (fun z _ h => hF z h) (fun E ce q9 u8 t8 H1 L1 ht hvm _ hB hz1 hk1 hS hce hcv hcl => absurd hB.1.1 (by rw [kz_scout hC.2.1.2.2.1 (by omega) (by assumption) (by omega)]; decide)) (fun r9 u8 t8 H1 L1 ht hvm hw hB hz1 hk1 hS => ?_)
    obtain ⟨hP9, -, hD9⟩ := hB
    rw [ht] at hP9
    obtain ⟨hP8, hD8⟩ := va_join (wc := (cb_w a k S)) (wr := [(qt, .inl (kt, (90, .inl tl))), (qp, .inl (kp, (10, .inl pl)))]) hP hD [0, 1, 2, 3, 4, 5, 6, 7, 8, 9, 10, 11, 12, 13, 14, 15, 16, 17, 18, 19] [20, 21] rfl rfl (by decide) (by decide) hk1 hF hP9 hD9
    have hP : va_P (dC, dI) vwCl (cb_w a k S ++ [(qt, .inl (kt, (90, .inl tl))), (qp, .inl (kp, (10, .inl pl)))]) H1 := hP8.sub [2, 3, 4, 5, 6, 7, 8, 9, 10, 11, 12, 13, 14, 15, 16, 17, 18, 19, 20, 21, 0, 1] rfl
    have hD : va_D (fun z => s.heap.size ≤ z) (cb_w a k S ++ [(qt, .inl (kt, (90, .inl tl))), (qp, .inl (kp, (10, .inl pl)))]) := hD8.sub [2, 3, 4, 5, 6, 7, 8, 9, 10, 11, 12, 13, 14, 15, 16, 17, 18, 19, 20, 21, 0, 1] (by decide) rfl
    obtain ⟨-, hr9⟩ := hw
    subst hr9
    refine cb_topi (z := c_ten S j3) (rs_ten (by omega)) ?_
    refine lv_if_lt (tgt := 346) hx hb dL_law_335 (by decide) (fun c_335 => ?_) (fun c_335 => ?_)
    · skip
      exact lw_346 (cells := ((cells + 8) + 8)) (slots := ((slots + 48) + 48)) (cE := cE) (sE := sE) hl9 C1 hBD (by omega) (by omega) (by omega) (by omega) hd hb2 kk hC hP hD hS (lv_sub hl [2, 3, 4, 5, 6, 7, 8, 9, 1] rfl)
    · skip
      refine lv_aload_n hx hb dL_law_338 rfl (lv_at hl 3 rfl) ?_
      refine lv_iload hx hb dL_law_339 (lv_at hl 0 rfl) ?_
      refine lv_iconst (v := (-1)) hx hb dL_law_341 (by decide) ?_
      have hz := cp_sleep hC hj3 (fun z => c_335 (by rw [z]; exact m1_lt0))
      have hPc := hP.sub (ws' := (cb_w a k S)) [0, 1, 2, 3, 4, 5, 6, 7, 8, 9, 10, 11, 12, 13, 14, 15, 16, 17, 18, 19] rfl
      have hDc := hD.sub (ws' := (cb_w a k S)) [0, 1, 2, 3, 4, 5, 6, 7, 8, 9, 10, 11, 12, 13, 14, 15, 16, 17, 18, 19] (by decide) rfl
      have hKc := hK.sub (tys' := (cb_ty k)) [0, 1, 2, 3, 4, 5, 6, 7, 8, 9, 10, 11, 12, 13] rfl
      have hF : ∀ z, va_A (cb_w a k S) H1.size z → (fun z => s.heap.size ≤ z) z := va_free hD hS hA [0, 1, 2, 3, 4, 5, 6, 7, 8, 9, 10, 11, 12, 13, 14, 15, 16, 17, 18, 19] rfl
      refine vx_calli (vx_runV (As := [.int (nI j3), .int (-1)]) (rest := []) ⟨hx, hb, hml, hown, hts⟩ (c_X5_sleep l hl9 dC dI a k S H1.size (nI j3) (-1) hC.1) (cwV 2 hts gL_law_X5_sleep rfl rfl rfl (by decide +kernel) ⟨(Nat.le_of_ble_eq_true rfl), (Nat.le_of_ble_eq_true rfl)⟩) ⟨cU_blind, va_recv hKc hPc (ci := 5) (q0 := 0) rfl rfl, fun U hU hW => ⟨rfl, cU_of hKc hPc hDc hE hS hU hW hF⟩⟩ rfl rfl hl.1 rfl (lv_room (Nat.le_of_ble_eq_true rfl)) dL_law_342 ⟨(by show ((cells + 8) + 8) + 8 ≤ room_1.cells; exact Nat.le_trans (by omega) rm_c), (by show ((slots + 48) + 48) + 48 ≤ room_1.slots; exact Nat.le_trans (by omega) rm_s)⟩) hS (fun z _ h => hF z h) hF (fun z _ h => hF z h) (fun E ce q9 u8 t8 H1 L1 ht hvm _ hB hz1 hk1 hS hce hcv hcl => absurd hB.1.1 (by rw [hz.1]; decide)) (fun r9 u8 t8 H1 L1 ht hvm hw hB hz1 hk1 hS => ?_)
      obtain ⟨hP9, -, hD9⟩ := hB
      rw [ht] at hP9
      obtain ⟨hP8, hD8⟩ := va_join (wc := (cb_w a k S)) (wr := [(qt, .inl (kt, (90, .inl tl))), (qp, .inl (kp, (10, .inl pl)))]) hP hD [0, 1, 2, 3, 4, 5, 6, 7, 8, 9, 10, 11, 12, 13, 14, 15, 16, 17, 18, 19] [20, 21] rfl rfl (by decide) (by decide) hk1 hF hP9 hD9
      have hP : va_P (dC, dI) vwCl (cb_w a k (S_sleep S (nI j3) (-1)) ++ [(qt, .inl (kt, (90, .inl tl))), (qp, .inl (kp, (10, .inl pl)))]) H1 := hP8.sub [2, 3, 4, 5, 6, 7, 8, 9, 10, 11, 12, 13, 14, 15, 16, 17, 18, 19, 20, 21, 0, 1] rfl
      have hD : va_D (fun z => s.heap.size ≤ z) (cb_w a k (S_sleep S (nI j3) (-1)) ++ [(qt, .inl (kt, (90, .inl tl))), (qp, .inl (kp, (10, .inl pl)))]) := hD8.sub [2, 3, 4, 5, 6, 7, 8, 9, 10, 11, 12, 13, 14, 15, 16, 17, 18, 19, 20, 21, 0, 1] (by decide) rfl
      obtain ⟨-, hr9⟩ := hw
      subst hr9
      have hC := hz.2
      generalize S_sleep S (nI j3) (-1) = S at hP hD hC
      refine lv_pop hx hb dL_law_345 rfl ?_
      exact lw_346 (cells := (((cells + 8) + 8) + 8)) (slots := (((slots + 48) + 48) + 48)) (cE := cE) (sE := sE) hl9 C1 hBD (by omega) (by omega) (by omega) (by omega) hd hb2 kk hC hP hD hS (lv_sub hl [2, 3, 4, 5, 6, 7, 8, 9, 1] rfl)
set_option maxHeartbeats 4000000 in
set_option maxRecDepth 100000 in
theorem lw_days {p : Program} {l : Launch} {e : Env} {s : State} {m : MethodId} {below : List Frame} {meth : Method} {c : Code} {b L : Nat} {xs : Nat → Int32} {dC : Nat → ClassId} {dI : Nat → Nat → Nat} {a : Nat → Nat} {k : Nat → ClassId} {qt : Nat} {kt : ClassId} {tl : Nat → Int32} {qp : Nat} {kp : ClassId} {pl : Nat → Int32} {np ns nt dy hq cells slots cE sE : Nat} {Q : State → Prop} (hl9 : l.stackTraces = false) (C0 : LC p s m c b L xs dC dI k kt kp) (hB : BD np ns nt) (h1 : cells + 42000 ≤ cE) (h2 : slots + 252000 ≤ sE) (hc : cE ≤ 200000) (hs : sE ≤ 2000000) (kk : KD p l e s m below meth c b dC dI a k qt kt tl qp kp pl np ns nt 12 (9 * 12) [] 920 cE sE Q) : ∀ (n dy : Nat), dy ≤ 12 → 13 ≤ dy + n → ∀ (S : cs_S) (H : Heap) (locs : List Loc) (ls : Array Slot), Cp dy np ns nt 4 3 1 (9 * dy) 12 tl pl S → va_P (dC, dI) vwCl (cb_w a k S ++ [(qt, .inl (kt, (90, .inl tl))), (qp, .inl (kp, (10, .inl pl)))]) H → va_D (fun z => s.heap.size ≤ z) (cb_w a k S ++ [(qt, .inl (kt, (90, .inl tl))), (qp, .inl (kp, (10, .inl pl)))]) → va_S (fun z => s.heap.size ≤ z) s.heap H locs → lv_has ls 19 [(0, .ref b), (1, .ref (a 0)), (2, .int (nI np)), (3, .ref qt), (4, .int (nI ns)), (5, .ref qp), (6, .int (nI nt)), (7, .int (nI dy))] → W p l e room_1 s m #[Value.ref b] below meth c H locs (cells + 3500 * dy) (slots + 21000 * dy) Q (F0 m 251 ls []) := by
  have C1 := C0
  obtain ⟨hx, hb, hml, hown, hts, hX, hbl, hL, hK, hE⟩ := C0
  intro n
  induction n with
  | zero => intro dy h1 h2; exact absurd h2 (by omega)
  | succ n ih =>
    intro dy hle hfu S H locs ls hC hP hD hS hl
    refine lv_iload hx hb dL_law_251 (lv_at hl 7 rfl) ?_
    refine lv_bipush (v := nI 12) hx hb dL_law_253 (by decide) ?_
    refine lv_icmp_ge (tgt := 920) hx hb dL_law_255 (by decide) (fun c_255 => ?_) (fun c_255 => ?_)
    · have c_255 : 12 ≤ dy := cb_ge (by omega) (by omega) c_255
      obtain rfl : dy = 12 := by omega
      refine W.widen (k := cE) (n := sE) (by omega) (by omega) ?_
      exact kk S H locs ls hC hP hD hS hl
    · have c_255 : dy < 12 := cb_nge (by omega) (by omega) c_255
      refine lw_258 (cE := cells + 3500 * (dy + 1)) (sE := slots + 21000 * (dy + 1)) hl9 C1 hB (by omega) (by omega) (by omega) (by omega) c_255 (by omega) ?_ hC hP hD hS hl
      intro S H locs ls hC hP hD hS hl
      exact ih (dy + 1) (by omega) (by omega) S H locs ls hC hP hD hS hl
end CBV7
