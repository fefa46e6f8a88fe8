/-! p35: the law: a day from its meals to its end -/
section CBV6
set_option maxHeartbeats 4000000 in
set_option maxRecDepth 100000 in
theorem lw_883 {p : Program} {l : Launch} {e : Env} {s : State} {m : MethodId} {below : List Frame} {meth : Method} {c : Code} {b L : Nat} {xs : Nat → Int32} {dC : Nat → ClassId} {dI : Nat → Nat → Nat} {a : Nat → Nat} {k : Nat → ClassId} {qt : Nat} {kt : ClassId} {tl : Nat → Int32} {qp : Nat} {kp : ClassId} {pl : Nat → Int32} {np ns nt dy hq cells slots cE sE : Nat} {Q : State → Prop} (hl9 : l.stackTraces = false) (C0 : LC p s m c b L xs dC dI k kt kp) (hB : BD np ns nt) (h1 : cells + 24 ≤ cE) (h2 : slots + 144 ≤ sE) (hc : cE ≤ 200000) (hs : sE ≤ 2000000) (hd : dy < 12) (kk : KD p l e s m below meth c b dC dI a k qt kt tl qp kp pl np ns nt (dy + 1) hq [] 251 cE sE Q) {S : cs_S} {H : Heap} {locs : List Loc} {ls : Array Slot} (hC : Cp dy np ns nt 4 3 1 hq 12 tl pl S) (hP : va_P (dC, dI) vwCl (cb_w a k S ++ [(qt, .inl (kt, (90, .inl tl))), (qp, .inl (kp, (10, .inl pl)))]) H) (hD : va_D (fun z => s.heap.size ≤ z) (cb_w a k S ++ [(qt, .inl (kt, (90, .inl tl))), (qp, .inl (kp, (10, .inl pl)))])) (hS : va_S (fun z => s.heap.size ≤ z) s.heap H locs) (hl : lv_has ls 19 [(0, .ref b), (1, .ref (a 0)), (2, .int (nI np)), (3, .ref qt), (4, .int (nI ns)), (5, .ref qp), (6, .int (nI nt)), (7, .int (nI dy))]) : W p l e room_1 s m #[Value.ref b] below meth c H locs cells slots Q (F0 m 883 ls []) := by
  have C1 := C0
  obtain ⟨hx, hb, hml, hown, hts, hX, hbl, hL, hK, hE⟩ := C0
  have hbA : ¬ (fun z => s.heap.size ≤ z) b := Nat.not_le.mpr hbl
  have hA : ∀ q : Nat, s.heap.size ≤ q → (fun z => s.heap.size ≤ z) q := fun q h => h
  have hBD := hB
  obtain ⟨hp1, hp6, hn2, hn29, ht1, ht8⟩ := hB
  refine lv_aload_n hx hb dL_law_883 rfl (lv_at hl 1 rfl) ?_
  have hz := cp_end hC (by omega)
  have hPc := hP.sub (ws' := (cb_w a k S)) [0, 1, 2, 3, 4, 5, 6, 7, 8, 9, 10, 11, 12, 13, 14, 15, 16, 17, 18, 19] rfl
  have hDc := hD.sub (ws' := (cb_w a k S)) [0, 1, 2, 3, 4, 5, 6, 7, 8, 9, 10, 11, 12, 13, 14, 15, 16, 17, 18, 19] (by decide) rfl
  have hKc := hK.sub (tys' := (cb_ty k)) [0, 1, 2, 3, 4, 5, 6, 7, 8, 9, 10, 11, 12, 13] rfl
  have hF : ∀ z, va_A (cb_w a k S) H.size z → (fun z => s.heap.size ≤ z) z := va_free hD hS hA [0, 1, 2, 3, 4, 5, 6, 7, 8, 9, 10, 11, 12, 13, 14, 15, 16, 17, 18, 19] rfl
  refine vx_calli (vx_runV (As := []) (rest := []) ⟨hx, hb, hml, hown, hts⟩ (c_X5_end l hl9 dC dI a k S H.size  hC.1) (cwV 0 hts gL_law_X5_end rfl rfl rfl (by decide +kernel) ⟨(Nat.le_of_ble_eq_true rfl), (Nat.le_of_ble_eq_true rfl)⟩) ⟨cU_blind, va_recv hKc hPc (ci := 5) (q0 := 0) rfl rfl, fun U hU hW => ⟨rfl, cU_of hKc hPc hDc hE hS hU hW hF⟩⟩ rfl rfl hl.1 rfl (lv_room (Nat.le_of_ble_eq_true rfl)) dL_law_884 ⟨(by show cells + 8 ≤ room_1.cells; exact Nat.le_trans (by omega) rm_c), (by show slots + 48 ≤ room_1.slots; exact Nat.le_trans (by omega) rm_s)⟩) hS (fun z _ h => hF z h) hF (fun z _ h => hF z h) (fun E ce q9 u8 t8 H1 L1 ht hvm _ hB hz1 hk1 hS hce hcv hcl => absurd hB.1.1 (by rw [hz.1]; decide)) (fun r9 u8 t8 H1 L1 ht hvm hw hB hz1 hk1 hS => ?_)
  obtain ⟨hP9, -, hD9⟩ := hB
  rw [ht] at hP9
  obtain ⟨hP8, hD8⟩ := va_join (wc := (cb_w a k S)) (wr := [(qt, .inl (kt, (90, .inl tl))), (qp, .inl (kp, (10, .inl pl)))]) hP hD [0, 1, 2, 3, 4, 5, 6, 7, 8, 9, 10, 11, 12, 13, 14, 15, 16, 17, 18, 19] [20, 21] rfl rfl (by decide) (by decide) hk1 hF hP9 hD9
  have hP : va_P (dC, dI) vwCl (cb_w a k (S_end S) ++ [(qt, .inl (kt, (90, .inl tl))), (qp, .inl (kp, (10, .inl pl)))]) H1 := hP8.sub [2, 3, 4, 5, 6, 7, 8, 9, 10, 11, 12, 13, 14, 15, 16, 17, 18, 19, 20, 21, 0, 1] rfl
  have hD : va_D (fun z => s.heap.size ≤ z) (cb_w a k (S_end S) ++ [(qt, .inl (kt, (90, .inl tl))), (qp, .inl (kp, (10, .inl pl)))]) := hD8.sub [2, 3, 4, 5, 6, 7, 8, 9, 10, 11, 12, 13, 14, 15, 16, 17, 18, 19, 20, 21, 0, 1] (by decide) rfl
  obtain ⟨-, hr9⟩ := hw
  subst hr9
  refine cb_topi (z := nI (dy + 1)) (congrArg nI (congrArg (· + 1) hC.2.1.1)) ?_
  have hme := hz.2.2.1
  have hhu := hz.2.2.2
  have hC := hz.2.1
  generalize S_end S = S at hP hD hC hme hhu
  refine lv_iload hx hb dL_law_887 (lv_at hl 7 rfl) ?_
  refine lv_iconst (v := nI 1) hx hb dL_law_889 (by decide) ?_
  refine lv_iadd hx hb dL_law_890 ?_
  refine cb_topi (nI_add _ _) ?_
  refine lv_icmp_ne (tgt := 912) hx hb dL_law_891 (by decide) (fun c_891 => ?_) (fun c_891 => ?_)
  · have c_891 : (dy + 1) ≠ (dy + 1) := cb_ne (by omega) (by omega) c_891
    exact absurd rfl c_891
  · have c_891 : (dy + 1) = (dy + 1) := cb_nne (by omega) (by omega) c_891
    refine lv_aload_n hx hb dL_law_894 rfl (lv_at hl 1 rfl) ?_
    refine lv_iconst (v := nI 1) hx hb dL_law_895 (by decide) ?_
    have hPc := hP.sub (ws' := (cb_w a k S)) [0, 1, 2, 3, 4, 5, 6, 7, 8, 9, 10, 11, 12, 13, 14, 15, 16, 17, 18, 19] rfl
    have hDc := hD.sub (ws' := (cb_w a k S)) [0, 1, 2, 3, 4, 5, 6, 7, 8, 9, 10, 11, 12, 13, 14, 15, 16, 17, 18, 19] (by decide) rfl
    have hKc := hK.sub (tys' := (cb_ty k)) [0, 1, 2, 3, 4, 5, 6, 7, 8, 9, 10, 11, 12, 13] rfl
    have hF : ∀ z, va_A (cb_w a k S) H1.size z → (fun z => s.heap.size ≤ z) z := va_free hD hS hA [0, 1, 2, 3, 4, 5, 6, 7, 8, 9, 10, 11, 12, 13, 14, 15, 16, 17, 18, 19] rfl
    refine vx_calli (vx_runV (As := [.int (nI 1)]) (rest := []) ⟨hx, hb, hml, hown, hts⟩ (c_X5_table l hl9 dC dI a k S H1.size (nI 1) hC.1) (cwV 1 hts gL_law_X5_table rfl rfl rfl (by decide +kernel) ⟨(Nat.le_of_ble_eq_true rfl), (Nat.le_of_ble_eq_true rfl)⟩) ⟨cU_blind, va_recv hKc hPc (ci := 5) (q0 := 0) rfl rfl, fun U hU hW => ⟨rfl, cU_of hKc hPc hDc hE hS hU hW hF⟩⟩ rfl rfl hl.1 rfl (lv_room (Nat.le_of_ble_eq_true rfl)) dL_law_896 ⟨(by show (cells + 8) + 8 ≤ room_1.cells; exact Nat.le_trans (by omega) rm_c), (by show (slots + 48) + 48 ≤ room_1.slots; exact Nat.le_trans (by omega) rm_s)⟩) hS (fun z _ h => hF z h) hF (fun z _ h => hF z h) (fun E ce q9 u8 t8 H1 L1 ht hvm _ hB hz1 hk1 hS hce hcv hcl => absurd hB.1.1 (by rw [kz_table (by omega)]; decide)) (fun r9 u8 t8 H1 L1 ht hvm hw hB hz1 hk1 hS => ?_)
    obtain ⟨hP9, -, hD9⟩ := hB
    rw [ht] at hP9
    obtain ⟨hP8, hD8⟩ := va_join (wc := (cb_w a k S)) (wr := [(qt, .inl (kt, (90, .inl tl))), (qp, .inl (kp, (10, .inl pl)))]) hP hD [0, 1, 2, 3, 4, 5, 6, 7, 8, 9, 10, 11, 12, 13, 14, 15, 16, 17, 18, 19] [20, 21] rfl rfl (by decide) (by decide) hk1 hF hP9 hD9
    have hP : va_P (dC, dI) vwCl (cb_w a k S ++ [(qt, .inl (kt, (90, .inl tl))), (qp, .inl (kp, (10, .inl pl)))]) H1 := hP8.sub [2, 3, 4, 5, 6, 7, 8, 9, 10, 11, 12, 13, 14, 15, 16, 17, 18, 19, 20, 21, 0, 1] rfl
    have hD : va_D (fun z => s.heap.size ≤ z) (cb_w a k S ++ [(qt, .inl (kt, (90, .inl tl))), (qp, .inl (kp, (10, .inl pl)))]) := hD8.sub [2, 3, 4, 5, 6, 7, 8, 9, 10, 11, 12, 13, 14, 15, 16, 17, 18, 19, 20, 21, 0, 1] (by decide) rfl
    obtain ⟨-, hr9⟩ := hw
    subst hr9
    refine cb_topi (z := nI 0) (rs_t1.trans (congrArg nI hme)) ?_
    refine lv_if_ne (tgt := 912) hx hb dL_law_899 (by decide) (fun c_899 => ?_) (fun c_899 => ?_)
    · exact absurd c_899 (by decide)
    · skip
      refine lv_aload_n hx hb dL_law_902 rfl (lv_at hl 1 rfl) ?_
      refine lv_iconst (v := nI 0) hx hb dL_law_903 (by decide) ?_
      have hPc := hP.sub (ws' := (cb_w a k S)) [0, 1, 2, 3, 4, 5, 6, 7, 8, 9, 10, 11, 12, 13, 14, 15, 16, 17, 18, 19] rfl
      have hDc := hD.sub (ws' := (cb_w a k S)) [0, 1, 2, 3, 4, 5, 6, 7, 8, 9, 10, 11, 12, 13, 14, 15, 16, 17, 18, 19] (by decide) rfl
      have hKc := hK.sub (tys' := (cb_ty k)) [0, 1, 2, 3, 4, 5, 6, 7, 8, 9, 10, 11, 12, 13] rfl
      have hF : ∀ z, va_A (cb_w a k S) H1.size z → (fun z => s.heap.size ≤ z) z := va_free hD hS hA [0, 1, 2, 3, 4, 5, 6, 7, 8, 9, 10, 11, 12, 13, 14, 15, 16, 17, 18, 19] rfl
      refine vx_calli (vx_runV (As := [.int (nI 0)]) (rest := []) ⟨hx, hb, hml, hown, hts⟩ (c_X5_table l hl9 dC dI a k S H1.size (nI 0) hC.1) (cwV 1 hts gL_law_X5_table rfl rfl rfl (by decide +kernel) ⟨(Nat.le_of_ble_eq_true rfl), (Nat.le_of_ble_eq_true rfl)⟩) ⟨cU_blind, va_recv hKc hPc (ci := 5) (q0 := 0) rfl rfl, fun U hU hW => ⟨rfl, cU_of hKc hPc hDc hE hS hU hW hF⟩⟩ rfl rfl hl.1 rfl (lv_room (Nat.le_of_ble_eq_true rfl)) dL_law_904 ⟨(by show ((cells + 8) + 8) + 8 ≤ room_1.cells; exact Nat.le_trans (by omega) rm_c), (by show ((slots + 48) + 48) + 48 ≤ room_1.slots; exact Nat.le_trans (by omega) rm_s)⟩) hS (fun z _ h => hF z h) hF (fun z _ h => hF z h) (fun E ce q9 u8 t8 H1 L1 ht hvm _ hB hz1 hk1 hS hce hcv hcl => absurd hB.1.1 (by rw [kz_table (by omega)]; decide)) (fun r9 u8 t8 H1 L1 ht hvm hw hB hz1 hk1 hS => ?_)
      obtain ⟨hP9, -, hD9⟩ := hB
      rw [ht] at hP9
      obtain ⟨hP8, hD8⟩ := va_join (wc := (cb_w a k S)) (wr := [(qt, .inl (kt, (90, .inl tl))), (qp, .inl (kp, (10, .inl pl)))]) hP hD [0, 1, 2, 3, 4, 5, 6, 7, 8, 9, 10, 11, 12, 13, 14, 15, 16, 17, 18, 19] [20, 21] rfl rfl (by decide) (by decide) hk1 hF hP9 hD9
      have hP : va_P (dC, dI) vwCl (cb_w a k S ++ [(qt, .inl (kt, (90, .inl tl))), (qp, .inl (kp, (10, .inl pl)))]) H1 := hP8.sub [2, 3, 4, 5, 6, 7, 8, 9, 10, 11, 12, 13, 14, 15, 16, 17, 18, 19, 20, 21, 0, 1] rfl
      have hD : va_D (fun z => s.heap.size ≤ z) (cb_w a k S ++ [(qt, .inl (kt, (90, .inl tl))), (qp, .inl (kp, (10, .inl pl)))]) := hD8.sub [2, 3, 4, 5, 6, 7, 8, 9, 10, 11, 12, 13, 14, 15, 16, 17, 18, 19, 20, 21, 0, 1] (by decide) rfl
      obtain ⟨-, hr9⟩ := hw
      subst hr9
      refine cb_topi (z := nI ns) (rs_t0.trans (congrArg nI hhu)) ?_
      refine lv_iload hx hb dL_law_907 (lv_at hl 4 rfl) ?_
      refine lv_icmp_eq (tgt := 914) hx hb dL_law_909 (by decide) (fun c_909 => ?_) (fun c_909 => ?_)
      · have c_909 : ns = ns := cb_eq (by omega) (by omega) c_909
        refine lv_iinc (v := nI (dy + 1)) (lv' := [(7, .int (nI (dy + 1))), (0, .ref b), (1, .ref (a 0)), (2, .int (nI np)), (3, .ref qt), (4, .int (nI ns)), (5, .ref qp), (6, .int (nI nt))]) hx hb dL_law_914 hl (k := 7) rfl (nI_1 _) (by decide) rfl (fun ls hl => ?_)
        refine lv_goto (tgt := 251) hx hb dL_law_917 (by decide) ?_
        refine W.widen (k := cE) (n := sE) (by omega) (by omega) ?_
        exact kk S H1 L1 ls hC hP hD hS (lv_sub hl [1, 2, 3, 4, 5, 6, 7, 0] rfl)
      · have c_909 : ns ≠ ns := cb_ne (by omega) (by omega) c_909
        exact absurd rfl c_909
set_option maxHeartbeats 4000000 in
set_option maxRecDepth 100000 in
theorem lw_707 {p : Program} {l : Launch} {e : Env} {s : State} {m : MethodId} {below : List Frame} {meth : Method} {c : Code} {b L : Nat} {xs : Nat → Int32} {dC : Nat → ClassId} {dI : Nat → Nat → Nat} {a : Nat → Nat} {k : Nat → ClassId} {qt : Nat} {kt : ClassId} {tl : Nat → Int32} {qp : Nat} {kp : ClassId} {pl : Nat → Int32} {np ns nt dy hq cells slots cE sE : Nat} {Q : State → Prop} (hl9 : l.stackTraces = false) (C0 : LC p s m c b L xs dC dI k kt kp) (hB : BD np ns nt) (h1 : cells + 1296 ≤ cE) (h2 : slots + 7776 ≤ sE) (hc : cE ≤ 200000) (hs : sE ≤ 2000000) {x8 : Int32} (hd : dy < 12) (hb2 : hq + 9 < 200) (kk : KD p l e s m below meth c b dC dI a k qt kt tl qp kp pl np ns nt (dy + 1) (hq + 9) [] 251 cE sE Q) {S : cs_S} {H : Heap} {locs : List Loc} {ls : Array Slot} (hC : Cp dy np ns nt 4 3 1 hq 12 tl pl S) (hP : va_P (dC, dI) vwCl (cb_w a k S ++ [(qt, .inl (kt, (90, .inl tl))), (qp, .inl (kp, (10, .inl pl)))]) H) (hD : va_D (fun z => s.heap.size ≤ z) (cb_w a k S ++ [(qt, .inl (kt, (90, .inl tl))), (qp, .inl (kp, (10, .inl pl)))])) (hS : va_S (fun z => s.heap.size ≤ z) s.heap H locs) (hl : lv_has ls 19 [(0, .ref b), (1, .ref (a 0)), (2, .int (nI np)), (3, .ref qt), (4, .int (nI ns)), (5, .ref qp), (6, .int (nI nt)), (7, .int (nI dy)), (8, .int x8)]) : W p l e room_1 s m #[Value.ref b] below meth c H locs cells slots Q (F0 m 707 ls []) := by
  have C1 := C0
  obtain ⟨hx, hb, hml, hown, hts, hX, hbl, hL, hK, hE⟩ := C0
  have hbA : ¬ (fun z => s.heap.size ≤ z) b := Nat.not_le.mpr hbl
  have hA : ∀ q : Nat, s.heap.size ≤ q → (fun z => s.heap.size ≤ z) q := fun q h => h
  have hBD := hB
  obtain ⟨hp1, hp6, hn2, hn29, ht1, ht8⟩ := hB
  refine lv_iconst (v := nI 0) hx hb dL_law_707 (by decide) ?_
  refine lv_istore (lv' := [(16, .int (nI 0)), (0, .ref b), (1, .ref (a 0)), (2, .int (nI np)), (3, .ref qt), (4, .int (nI ns)), (5, .ref qp), (6, .int (nI nt)), (7, .int (nI dy)), (8, .int x8)]) hx hb dL_law_708 hl (by decide) rfl (fun ls hl => ?_)
  have kk7 : KD p l e s m below meth c b dC dI a k qt kt tl qp kp pl np ns nt dy hq [(8, .int x8)] 745 (cells + 64) (slots + 384) Q := by
    intro S H locs ls hC hP hD hS hl
    have hl : lv_has ls 19 [(0, .ref b), (1, .ref (a 0)), (2, .int (nI np)), (3, .ref qt), (4, .int (nI ns)), (5, .ref qp), (6, .int (nI nt)), (7, .int (nI dy)), (8, .int x8)] := hl
    refine lv_aload_n hx hb dL_law_745 rfl (lv_at hl 1 rfl) ?_
    refine lv_iload hx hb dL_law_746 (lv_at hl 8 rfl) ?_
    refine lv_iconst (v := nI 4) hx hb dL_law_748 (by decide) ?_
    refine lv_ishr hx hb dL_law_749 ?_
    refine lv_iload_n hx hb dL_law_750 rfl (lv_at hl 2 rfl) ?_
    refine vp_callSi (W.runS (As := [.int (x8 >>> (nI 4 &&& 31)), .int (nI np)]) (rest := [.ref (a 0)]) ⟨hx, hb, hml, hown, hts⟩ (c_L_below l (x8 >>> (nI 4 &&& 31)) np (by omega) (by omega)) (va_cwS 2 hts gL_law_L_below rfl rfl rfl (by decide +kernel) ⟨(Nat.le_of_ble_eq_true rfl), (Nat.le_of_ble_eq_true rfl)⟩) ⟨cN_blind, fun U hU hW => ⟨rfl, trivial⟩⟩ rfl rfl hl.1 rfl (lv_room (Nat.le_of_ble_eq_true rfl)) dL_law_751 ⟨(by show (cells + 64) + 0 ≤ room_1.cells; exact Nat.le_trans (by omega) rm_c), (by show (slots + 384) + 0 ≤ room_1.slots; exact Nat.le_trans (by omega) rm_s)⟩) (fun r er => ?_)
    obtain ⟨j1, hj1, er⟩ := er
    subst er
    refine lv_iconst (v := nI 3) hx hb dL_law_754 (by decide) ?_
    refine lv_iconst (v := nI 1) hx hb dL_law_755 (by decide) ?_
    refine lv_iload hx hb dL_law_756 (lv_at hl 8 rfl) ?_
    refine lv_bipush (v := nI 6) hx hb dL_law_758 (by decide) ?_
    refine lv_ishr hx hb dL_law_760 ?_
    refine lv_bipush (v := nI 9) hx hb dL_law_761 (by decide) ?_
    refine vp_callSi (W.runS (As := [.int (x8 >>> (nI 6 &&& 31)), .int (nI 9)]) (rest := [.int (nI 1), .int (nI 3), .int (nI j1), .ref (a 0)]) ⟨hx, hb, hml, hown, hts⟩ (c_L_below l (x8 >>> (nI 6 &&& 31)) 9 (by omega) (by omega)) (va_cwS 2 hts gL_law_L_below rfl rfl rfl (by decide +kernel) ⟨(Nat.le_of_ble_eq_true rfl), (Nat.le_of_ble_eq_true rfl)⟩) ⟨cN_blind, fun U hU hW => ⟨rfl, trivial⟩⟩ rfl rfl hl.1 rfl (lv_room (Nat.le_of_ble_eq_true rfl)) dL_law_763 ⟨(by show (cells + 64) + 0 ≤ room_1.cells; exact Nat.le_trans (by omega) rm_c), (by show (slots + 384) + 0 ≤ room_1.slots; exact Nat.le_trans (by omega) rm_s)⟩) (fun r er => ?_)
    obtain ⟨j2, hj2, er⟩ := er
    subst er
    refine lv_iadd hx hb dL_law_766 ?_
    refine cb_topi (nI_add _ _) ?_
    have hz := cp_practise hC (p := j1) (h := 1 + j2) hj1 (by omega) (by omega)
    have hPc := hP.sub (ws' := (cb_w a k S)) [0, 1, 2, 3, 4, 5, 6, 7, 8, 9, 10, 11, 12, 13, 14, 15, 16, 17, 18, 19] rfl
    have hDc := hD.sub (ws' := (cb_w a k S)) [0, 1, 2, 3, 4, 5, 6, 7, 8, 9, 10, 11, 12, 13, 14, 15, 16, 17, 18, 19] (by decide) rfl
    have hKc := hK.sub (tys' := (cb_ty k)) [0, 1, 2, 3, 4, 5, 6, 7, 8, 9, 10, 11, 12, 13] rfl
    have hF : ∀ z, va_A (cb_w a k S) H.size z → (fun z => s.heap.size ≤ z) z := va_free hD hS hA [0, 1, 2, 3, 4, 5, 6, 7, 8, 9, 10, 11, 12, 13, 14, 15, 16, 17, 18, 19] rfl
    refine vx_calli (vx_runV (As := [.int (nI j1), .int (nI 3), .int (nI (1 + j2))]) (rest := []) ⟨hx, hb, hml, hown, hts⟩ (c_X5_practise l hl9 dC dI a k S H.size (nI j1) (nI 3) (nI (1 + j2)) hC.1) (cwV 3 hts gL_law_X5_practise rfl rfl rfl (by decide +kernel) ⟨(Nat.le_of_ble_eq_true rfl), (Nat.le_of_ble_eq_true rfl)⟩) ⟨cU_blind, va_recv hKc hPc (ci := 5) (q0 := 0) rfl rfl, fun U hU hW => ⟨rfl, cU_of hKc hPc hDc hE hS hU hW hF⟩⟩ rfl rfl hl.1 rfl (lv_room (Nat.le_of_ble_eq_true rfl)) dL_law_767 ⟨(by show (cells + 64) + 8 ≤ room_1.cells; exact Nat.le_trans (by omega) rm_c), (by show (slots + 384) + 48 ≤ room_1.slots; exact Nat.le_trans (by omega) rm_s)⟩) hS (fun z _ h => hF z h) hF (fun z _ h => hF z h) (fun E ce q9 u8 t8 H1 L1 ht hvm _ hB hz1 hk1 hS hce hcv hcl => absurd hB.1.1 (by rw [hz.1]; decide)) (fun r9 u8 t8 H1 L1 ht hvm hw hB hz1 hk1 hS => ?_)
    obtain ⟨hP9, -, hD9⟩ := hB
    rw [ht] at hP9
    obtain ⟨hP8, hD8⟩ := va_join (wc := (cb_w a k S)) (wr := [(qt, .inl (kt, (90, .inl tl))), (qp, .inl (kp, (10, .inl pl)))]) hP hD [0, 1, 2, 3, 4, 5, 6, 7, 8, 9, 10, 11, 12, 13, 14, 15, 16, 17, 18, 19] [20, 21] rfl rfl (by decide) (by decide) hk1 hF hP9 hD9
    have hP : va_P (dC, dI) vwCl (cb_w a k (S_practise S (nI j1) (nI 3) (nI (1 + j2))) ++ [(qt, .inl (kt, (90, .inl tl))), (qp, .inl (kp, (10, .inl pl)))]) H1 := hP8.sub [2, 3, 4, 5, 6, 7, 8, 9, 10, 11, 12, 13, 14, 15, 16, 17, 18, 19, 20, 21, 0, 1] rfl
    have hD : va_D (fun z => s.heap.size ≤ z) (cb_w a k (S_practise S (nI j1) (nI 3) (nI (1 + j2))) ++ [(qt, .inl (kt, (90, .inl tl))), (qp, .inl (kp, (10, .inl pl)))]) := hD8.sub [2, 3, 4, 5, 6, 7, 8, 9, 10, 11, 12, 13, 14, 15, 16, 17, 18, 19, 20, 21, 0, 1] (by decide) rfl
    obtain ⟨-, hr9⟩ := hw
    subst hr9
    have hC := hz.2
    generalize S_practise S (nI j1) (nI 3) (nI (1 + j2)) = S at hP hD hC
    refine lv_pop hx hb dL_law_770 rfl ?_
    refine lv_iconst (v := nI 0) hx hb dL_law_771 (by decide) ?_
    refine lv_istore (lv' := [(16, .int (nI 0)), (0, .ref b), (1, .ref (a 0)), (2, .int (nI np)), (3, .ref qt), (4, .int (nI ns)), (5, .ref qp), (6, .int (nI nt)), (7, .int (nI dy)), (8, .int x8)]) hx hb dL_law_772 hl (by decide) rfl (fun ls hl => ?_)
    have kk8 : KD p l e s m below meth c b dC dI a k qt kt tl qp kp pl np ns nt dy (hq + 9) [] 883 (((cells + 64) + 8) + 1200) (((slots + 384) + 48) + 7200) Q := by
      intro S H locs ls hC hP hD hS hl
      have hl : lv_has ls 19 [(0, .ref b), (1, .ref (a 0)), (2, .int (nI np)), (3, .ref qt), (4, .int (nI ns)), (5, .ref qp), (6, .int (nI nt)), (7, .int (nI dy))] := hl
      exact lw_883 (cells := (((cells + 64) + 8) + 1200)) (slots := (((slots + 384) + 48) + 7200)) (cE := cE) (sE := sE) hl9 C1 hBD (by omega) (by omega) (by omega) (by omega) hd kk hC hP hD hS (lv_sub hl [0, 1, 2, 3, 4, 5, 6, 7] rfl)
    refine W.widen (k := ((cells + 64) + 8) + 40 * 0) (n := ((slots + 384) + 48) + 240 * 0) (by omega) (by omega) ?_
    exact lp_hours (cells := ((cells + 64) + 8)) (slots := ((slots + 384) + 48)) (cE := ((cells + 64) + 8) + 1200) (sE := ((slots + 384) + 48) + 7200) hl9 C1 hBD (by omega) (by omega) (by omega) (by omega) (by omega) kk8 (ns + 1) 0 (by omega) (by omega) S H1 L1 ls hC hP hD hS (lv_sub hl [1, 2, 3, 4, 5, 6, 7, 8, 0] rfl)
  refine W.widen (k := cells + 16 * 0) (n := slots + 96 * 0) (by omega) (by omega) ?_
  exact lp_stores (cells := cells) (slots := slots) (cE := cells + 64) (sE := slots + 384) hl9 C1 hBD (by omega) (by omega) (by omega) (by omega) kk7 (4 + 1) 0 (by omega) (by omega) S H locs ls hC hP hD hS (lv_sub hl [1, 2, 3, 4, 5, 6, 7, 8, 9, 0] rfl)
set_option maxHeartbeats 4000000 in
set_option maxRecDepth 100000 in
theorem lw_645 {p : Program} {l : Launch} {e : Env} {s : State} {m : MethodId} {below : List Frame} {meth : Method} {c : Code} {b L : Nat} {xs : Nat → Int32} {dC : Nat → ClassId} {dI : Nat → Nat → Nat} {a : Nat → Nat} {k : Nat → ClassId} {qt : Nat} {kt : ClassId} {tl : Nat → Int32} {qp : Nat} {kp : ClassId} {pl : Nat → Int32} {np ns nt dy hq cells slots cE sE : Nat} {Q : State → Prop} (hl9 : l.stackTraces = false) (C0 : LC p s m c b L xs dC dI k kt kp) (hB : BD np ns nt) (h1 : cells + 1344 ≤ cE) (h2 : slots + 8064 ≤ sE) (hc : cE ≤ 200000) (hs : sE ≤ 2000000) {x8 : Int32} (hd : dy < 12) (hb2 : hq + 9 < 200) (kk : KD p l e s m below meth c b dC dI a k qt kt tl qp kp pl np ns nt (dy + 1) (hq + 9) [] 251 cE sE Q) {S : cs_S} {H : Heap} {locs : List Loc} {ls : Array Slot} (hC : Cp dy np ns nt 4 3 1 hq 12 tl pl S) (hP : va_P (dC, dI) vwCl (cb_w a k S ++ [(qt, .inl (kt, (90, .inl tl))), (qp, .inl (kp, (10, .inl pl)))]) H) (hD : va_D (fun z => s.heap.size ≤ z) (cb_w a k S ++ [(qt, .inl (kt, (90, .inl tl))), (qp, .inl (kp, (10, .inl pl)))])) (hS : va_S (fun z => s.heap.size ≤ z) s.heap H locs) (hl : lv_has ls 19 [(0, .ref b), (1, .ref (a 0)), (2, .int (nI np)), (3, .ref qt), (4, .int (nI ns)), (5, .ref qp), (6, .int (nI nt)), (7, .int (nI dy)), (8, .int x8)]) : W p l e room_1 s m #[Value.ref b] below meth c H locs cells slots Q (F0 m 645 ls []) := by
  have C1 := C0
  obtain ⟨hx, hb, hml, hown, hts, hX, hbl, hL, hK, hE⟩ := C0
  have hbA : ¬ (fun z => s.heap.size ≤ z) b := Nat.not_le.mpr hbl
  have hA : ∀ q : Nat, s.heap.size ≤ q → (fun z => s.heap.size ≤ z) q := fun q h => h
  have hBD := hB
  obtain ⟨hp1, hp6, hn2, hn29, ht1, ht8⟩ := hB
  refine lv_aload_n hx hb dL_law_645 rfl (lv_at hl 1 rfl) ?_
  refine lv_iconst (v := nI 2) hx hb dL_law_646 (by decide) ?_
  have hPc := hP.sub (ws' := (cb_w a k S)) [0, 1, 2, 3, 4, 5, 6, 7, 8, 9, 10, 11, 12, 13, 14, 15, 16, 17, 18, 19] rfl
  have hDc := hD.sub (ws' := (cb_w a k S)) [0, 1, 2, 3, 4, 5, 6, 7, 8, 9, 10, 11, 12, 13, 14, 15, 16, 17, 18, 19] (by decide) rfl
  have hKc := hK.sub (tys' := (cb_ty k)) [0, 1, 2, 3, 4, 5, 6, 7, 8, 9, 10, 11, 12, 13] rfl
  have hF : ∀ z, va_A (cb_w a k S) H.size z → (fun z => s.heap.size ≤ z) z := va_free hD hS hA [0, 1, 2, 3, 4, 5, 6, 7, 8, 9, 10, 11, 12, 13, 14, 15, 16, 17, 18, 19] rfl
  refine vx_calli (vx_runV (As := [.int (nI 2)]) (rest := []) ⟨hx, hb, hml, hown, hts⟩ (c_X5_table l hl9 dC dI a k S H.size (nI 2) hC.1) (cwV 1 hts gL_law_X5_table rfl rfl rfl (by decide +kernel) ⟨(Nat.le_of_ble_eq_true rfl), (Nat.le_of_ble_eq_true rfl)⟩) ⟨cU_blind, va_recv hKc hPc (ci := 5) (q0 := 0) rfl rfl, fun U hU hW => ⟨rfl, cU_of hKc hPc hDc hE hS hU hW hF⟩⟩ rfl rfl hl.1 rfl (lv_room (Nat.le_of_ble_eq_true rfl)) dL_law_647 ⟨(by show cells + 8 ≤ room_1.cells; exact Nat.le_trans (by omega) rm_c), (by show slots + 48 ≤ room_1.slots; exact Nat.le_trans (by omega) rm_s)⟩) hS (fun z _ h => hF z h) hF (fun z _ h => hF z h) (fun E ce q9 u8 t8 H1 L1 ht hvm _ hB hz1 hk1 hS hce hcv hcl => absurd hB.1.1 (by rw [kz_table (by omega)]; decide)) (fun r9 u8 t8 H1 L1 ht hvm hw hB hz1 hk1 hS => ?_)
  obtain ⟨hP9, -, hD9⟩ := hB
  rw [ht] at hP9
  obtain ⟨hP8, hD8⟩ := va_join (wc := (cb_w a k S)) (wr := [(qt, .inl (kt, (90, .inl tl))), (qp, .inl (kp, (10, .inl pl)))]) hP hD [0, 1, 2, 3, 4, 5, 6, 7, 8, 9, 10, 11, 12, 13, 14, 15, 16, 17, 18, 19] [20, 21] rfl rfl (by decide) (by decide) hk1 hF hP9 hD9
  have hP : va_P (dC, dI) vwCl (cb_w a k S ++ [(qt, .inl (kt, (90, .inl tl))), (qp, .inl (kp, (10, .inl pl)))]) H1 := hP8.sub [2, 3, 4, 5, 6, 7, 8, 9, 10, 11, 12, 13, 14, 15, 16, 17, 18, 19, 20, 21, 0, 1] rfl
  have hD : va_D (fun z => s.heap.size ≤ z) (cb_w a k S ++ [(qt, .inl (kt, (90, .inl tl))), (qp, .inl (kp, (10, .inl pl)))]) := hD8.sub [2, 3, 4, 5, 6, 7, 8, 9, 10, 11, 12, 13, 14, 15, 16, 17, 18, 19, 20, 21, 0, 1] (by decide) rfl
  obtain ⟨-, hr9⟩ := hw
  subst hr9
  refine cb_topi (z := oI (bM S (c_nm S))) rs_t2 ?_
  refine lv_istore (lv' := [(14, .int (oI (bM S (c_nm S)))), (0, .ref b), (1, .ref (a 0)), (2, .int (nI np)), (3, .ref qt), (4, .int (nI ns)), (5, .ref qp), (6, .int (nI nt)), (7, .int (nI dy)), (8, .int x8)]) hx hb dL_law_650 hl (by decide) rfl (fun ls hl => ?_)
  refine lv_aload_n hx hb dL_law_652 rfl (lv_at hl 2 rfl) ?_
  refine lv_iconst (v := nI 0) hx hb dL_law_653 (by decide) ?_
  have hPc := hP.sub (ws' := (cb_w a k S)) [0, 1, 2, 3, 4, 5, 6, 7, 8, 9, 10, 11, 12, 13, 14, 15, 16, 17, 18, 19] rfl
  have hDc := hD.sub (ws' := (cb_w a k S)) [0, 1, 2, 3, 4, 5, 6, 7, 8, 9, 10, 11, 12, 13, 14, 15, 16, 17, 18, 19] (by decide) rfl
  have hKc := hK.sub (tys' := (cb_ty k)) [0, 1, 2, 3, 4, 5, 6, 7, 8, 9, 10, 11, 12, 13] rfl
  have hF : ∀ z, va_A (cb_w a k S) H1.size z → (fun z => s.heap.size ≤ z) z := va_free hD hS hA [0, 1, 2, 3, 4, 5, 6, 7, 8, 9, 10, 11, 12, 13, 14, 15, 16, 17, 18, 19] rfl
  refine vx_calli (vx_runV (As := [.int (nI 0)]) (rest := []) ⟨hx, hb, hml, hown, hts⟩ (c_X5_table l hl9 dC dI a k S H1.size (nI 0) hC.1) (cwV 1 hts gL_law_X5_table rfl rfl rfl (by decide +kernel) ⟨(Nat.le_of_ble_eq_true rfl), (Nat.le_of_ble_eq_true rfl)⟩) ⟨cU_blind, va_recv hKc hPc (ci := 5) (q0 := 0) rfl rfl, fun U hU hW => ⟨rfl, cU_of hKc hPc hDc hE hS hU hW hF⟩⟩ rfl rfl hl.1 rfl (lv_room (Nat.le_of_ble_eq_true rfl)) dL_law_654 ⟨(by show (cells + 8) + 8 ≤ room_1.cells; exact Nat.le_trans (by omega) rm_c), (by show (slots + 48) + 48 ≤ room_1.slots; exact Nat.le_trans (by omega) rm_s)⟩) hS (fun z _ h => hF z h) hF (fun z _ h => hF z h) (fun E ce q9 u8 t8 H1 L1 ht hvm _ hB hz1 hk1 hS hce hcv hcl => absurd hB.1.1 (by rw [kz_table (by omega)]; decide)) (fun r9 u8 t8 H1 L1 ht hvm hw hB hz1 hk1 hS => ?_)
  obtain ⟨hP9, -, hD9⟩ := hB
  rw [ht] at hP9
  obtain ⟨hP8, hD8⟩ := va_join (wc := (cb_w a k S)) (wr := [(qt, .inl (kt, (90, .inl tl))), (qp, .inl (kp, (10, .inl pl)))]) hP hD [0, 1, 2, 3, 4, 5, 6, 7, 8, 9, 10, 11, 12, 13, 14, 15, 16, 17, 18, 19] [20, 21] rfl rfl (by decide) (by decide) hk1 hF hP9 hD9
  have hP : va_P (dC, dI) vwCl (cb_w a k S ++ [(qt, .inl (kt, (90, .inl tl))), (qp, .inl (kp, (10, .inl pl)))]) H1 := hP8.sub [2, 3, 4, 5, 6, 7, 8, 9, 10, 11, 12, 13, 14, 15, 16, 17, 18, 19, 20, 21, 0, 1] rfl
  have hD : va_D (fun z => s.heap.size ≤ z) (cb_w a k S ++ [(qt, .inl (kt, (90, .inl tl))), (qp, .inl (kp, (10, .inl pl)))]) := hD8.sub [2, 3, 4, 5, 6, 7, 8, 9, 10, 11, 12, 13, 14, 15, 16, 17, 18, 19, 20, 21, 0, 1] (by decide) rfl
  obtain ⟨-, hr9⟩ := hw
  subst hr9
  obtain ⟨hg, ehg⟩ : ∃ z, z = c_hung S := ⟨_, rfl⟩
  have hg30 : hg ≤ 30 := by rw [ehg]; exact hung_b hC.1
  refine cb_topi (z := nI hg) (rs_t0.trans (congrArg nI ehg.symm)) ?_
  refine lv_istore (lv' := [(15, .int (nI hg)), (14, .int (oI (bM S (c_nm S)))), (0, .ref b), (1, .ref (a 0)), (2, .int (nI np)), (3, .ref qt), (4, .int (nI ns)), (5, .ref qp), (6, .int (nI nt)), (7, .int (nI dy)), (8, .int x8)]) hx hb dL_law_657 hl (by decide) rfl (fun ls hl => ?_)
  refine lv_iload hx hb dL_law_659 (lv_at hl 1 rfl) ?_
  refine lv_if_lt (tgt := 707) hx hb dL_law_661 (by decide) (fun c_661 => ?_) (fun c_661 => ?_)
  · skip
    exact lw_707 (cells := ((cells + 8) + 8)) (slots := ((slots + 48) + 48)) (cE := cE) (sE := sE) hl9 C1 hBD (by omega) (by omega) (by omega) (by omega) hd hb2 kk hC hP hD hS (lv_sub hl [2, 3, 4, 5, 6, 7, 8, 9, 10] rfl)
  · skip
    obtain ⟨bb, hbb, hcb, ebb⟩ := best_of c_661
    rw [ebb] at hl
    have hbb3 : bb < 3 := by rw [hC.2.1.2.2.2.2.2.1] at hbb; exact hbb
    have hl : lv_has ls 19 [(14, .int (nI bb)), (15, .int (nI hg)), (0, .ref b), (1, .ref (a 0)), (2, .int (nI np)), (3, .ref qt), (4, .int (nI ns)), (5, .ref qp), (6, .int (nI nt)), (7, .int (nI dy)), (8, .int x8)] := lv_sub hl [1, 0, 2, 3, 4, 5, 6, 7, 8, 9, 10] rfl
    refine lv_aload_n hx hb dL_law_664 rfl (lv_at hl 3 rfl) ?_
    refine lv_iload hx hb dL_law_665 (lv_at hl 0 rfl) ?_
    have hz := cp_eat hC hbb3 hcb
    have hle := hung_le S (nI bb)
    rw [← ehg] at hle
    have hme1 : 1 ≤ c_me (S_eat S (nI bb)) := Nat.succ_le_succ (Nat.zero_le _)
    have hPc := hP.sub (ws' := (cb_w a k S)) [0, 1, 2, 3, 4, 5, 6, 7, 8, 9, 10, 11, 12, 13, 14, 15, 16, 17, 18, 19] rfl
    have hDc := hD.sub (ws' := (cb_w a k S)) [0, 1, 2, 3, 4, 5, 6, 7, 8, 9, 10, 11, 12, 13, 14, 15, 16, 17, 18, 19] (by decide) rfl
    have hKc := hK.sub (tys' := (cb_ty k)) [0, 1, 2, 3, 4, 5, 6, 7, 8, 9, 10, 11, 12, 13] rfl
    have hF : ∀ z, va_A (cb_w a k S) H1.size z → (fun z => s.heap.size ≤ z) z := va_free hD hS hA [0, 1, 2, 3, 4, 5, 6, 7, 8, 9, 10, 11, 12, 13, 14, 15, 16, 17, 18, 19] rfl
    refine vx_calli (vx_runV (As := [.int (nI bb)]) (rest := []) ⟨hx, hb, hml, hown, hts⟩ (c_X5_eat l hl9 dC dI a k S H1.size (nI bb) hC.1) (cwV 1 hts gL_law_X5_eat rfl rfl rfl (by decide +kernel) ⟨(Nat.le_of_ble_eq_true rfl), (Nat.le_of_ble_eq_true rfl)⟩) ⟨cU_blind, va_recv hKc hPc (ci := 5) (q0 := 0) rfl rfl, fun U hU hW => ⟨rfl, cU_of hKc hPc hDc hE hS hU hW hF⟩⟩ rfl rfl hl.1 rfl (lv_room (Nat.le_of_ble_eq_true rfl)) dL_law_667 ⟨(by show ((cells + 8) + 8) + 8 ≤ room_1.cells; exact Nat.le_trans (by omega) rm_c), (by show ((slots + 48) + 48) + 48 ≤ room_1.slots; exact Nat.le_trans (by omega) rm_s)⟩) hS (fun z _ h => hF z h) hF (fun z _ h => hF z h) (fun E ce q9 u8 t8 H1 L1 ht hvm _ hB hz1 hk1 hS hce hcv hcl => absurd hB.1.1 (by rw [hz.1]; decide)) (fun r9 u8 t8 H1 L1 ht hvm hw hB hz1 hk1 hS => ?_)
    obtain ⟨hP9, -, hD9⟩ := hB
    rw [ht] at hP9
    obtain ⟨hP8, hD8⟩ := va_join (wc := (cb_w a k S)) (wr := [(qt, .inl (kt, (90, .inl tl))), (qp, .inl (kp, (10, .inl pl)))]) hP hD [0, 1, 2, 3, 4, 5, 6, 7, 8, 9, 10, 11, 12, 13, 14, 15, 16, 17, 18, 19] [20, 21] rfl rfl (by decide) (by decide) hk1 hF hP9 hD9
    have hP : va_P (dC, dI) vwCl (cb_w a k (S_eat S (nI bb)) ++ [(qt, .inl (kt, (90, .inl tl))), (qp, .inl (kp, (10, .inl pl)))]) H1 := hP8.sub [2, 3, 4, 5, 6, 7, 8, 9, 10, 11, 12, 13, 14, 15, 16, 17, 18, 19, 20, 21, 0, 1] rfl
    have hD : va_D (fun z => s.heap.size ≤ z) (cb_w a k (S_eat S (nI bb)) ++ [(qt, .inl (kt, (90, .inl tl))), (qp, .inl (kp, (10, .inl pl)))]) := hD8.sub [2, 3, 4, 5, 6, 7, 8, 9, 10, 11, 12, 13, 14, 15, 16, 17, 18, 19, 20, 21, 0, 1] (by decide) rfl
    obtain ⟨-, hr9⟩ := hw
    subst hr9
    refine cb_topi (z := nI (cntE (S_eat S (nI bb)) bb)) (show r_eat S (nI bb) = nI (cntE (S_eat S (nI bb)) bb) from rs_eat (by omega)) ?_
    have hC := hz.2
    generalize S_eat S (nI bb) = S at hP hD hC hle hme1 ⊢
    refine lv_istore (lv' := [(16, .int (nI (cntE S bb))), (14, .int (nI bb)), (15, .int (nI hg)), (0, .ref b), (1, .ref (a 0)), (2, .int (nI np)), (3, .ref qt), (4, .int (nI ns)), (5, .ref qp), (6, .int (nI nt)), (7, .int (nI dy)), (8, .int x8)]) hx hb dL_law_670 hl (by decide) rfl (fun ls hl => ?_)
    refine lv_iload hx hb dL_law_672 (lv_at hl 0 rfl) ?_
    refine lv_aload_n hx hb dL_law_674 rfl (lv_at hl 4 rfl) ?_
    refine lv_iload hx hb dL_law_675 (lv_at hl 1 rfl) ?_
    have hPc := hP.sub (ws' := (cb_w a k S)) [0, 1, 2, 3, 4, 5, 6, 7, 8, 9, 10, 11, 12, 13, 14, 15, 16, 17, 18, 19] rfl
    have hDc := hD.sub (ws' := (cb_w a k S)) [0, 1, 2, 3, 4, 5, 6, 7, 8, 9, 10, 11, 12, 13, 14, 15, 16, 17, 18, 19] (by decide) rfl
    have hKc := hK.sub (tys' := (cb_ty k)) [0, 1, 2, 3, 4, 5, 6, 7, 8, 9, 10, 11, 12, 13] rfl
    have hF : ∀ z, va_A (cb_w a k S) H1.size z → (fun z => s.heap.size ≤ z) z := va_free hD hS hA [0, 1, 2, 3, 4, 5, 6, 7, 8, 9, 10, 11, 12, 13, 14, 15, 16, 17, 18, 19] rfl
    refine vx_calll (vx_runV (As := [.int (nI bb)]) (rest := [.int (nI (cntE S bb))]) ⟨hx, hb, hml, hown, hts⟩ (c_X5_eaters l hl9 dC dI a k S H1.size (nI bb) hC.1) (cwV 1 hts gL_law_X5_eaters rfl rfl rfl (by decide +kernel) ⟨(Nat.le_of_ble_eq_true rfl), (Nat.le_of_ble_eq_true rfl)⟩) ⟨cU_blind, va_recv hKc hPc (ci := 5) (q0 := 0) rfl rfl, fun U hU hW => ⟨rfl, cU_of hKc hPc hDc hE hS hU hW hF⟩⟩ rfl rfl hl.1 rfl (lv_room (Nat.le_of_ble_eq_true rfl)) dL_law_677 ⟨(by show (((cells + 8) + 8) + 8) + 8 ≤ room_1.cells; exact Nat.le_trans (by omega) rm_c), (by show (((slots + 48) + 48) + 48) + 48 ≤ room_1.slots; exact Nat.le_trans (by omega) rm_s)⟩) hS (fun z _ h => hF z h) hF (fun z _ h => hF z h) (fun E ce q9 u8 t8 H1 L1 ht hvm _ hB hz1 hk1 hS hce hcv hcl => absurd hB.1.1 (by rw [kz_eaters hC.2.1.2.2.2.2.2.1 (by omega) hbb3]; decide)) (fun r9 u8 t8 H1 L1 ht hvm hw hB hz1 hk1 hS => ?_)
    obtain ⟨hP9, -, hD9⟩ := hB
    rw [ht] at hP9
    obtain ⟨hP8, hD8⟩ := va_join (wc := (cb_w a k S)) (wr := [(qt, .inl (kt, (90, .inl tl))), (qp, .inl (kp, (10, .inl pl)))]) hP hD [0, 1, 2, 3, 4, 5, 6, 7, 8, 9, 10, 11, 12, 13, 14, 15, 16, 17, 18, 19] [20, 21] rfl rfl (by decide) (by decide) hk1 hF hP9 hD9
    have hP : va_P (dC, dI) vwCl (cb_w a k S ++ [(qt, .inl (kt, (90, .inl tl))), (qp, .inl (kp, (10, .inl pl)))]) H1 := hP8.sub [2, 3, 4, 5, 6, 7, 8, 9, 10, 11, 12, 13, 14, 15, 16, 17, 18, 19, 20, 21, 0, 1] rfl
    have hD : va_D (fun z => s.heap.size ≤ z) (cb_w a k S ++ [(qt, .inl (kt, (90, .inl tl))), (qp, .inl (kp, (10, .inl pl)))]) := hD8.sub [2, 3, 4, 5, 6, 7, 8, 9, 10, 11, 12, 13, 14, 15, 16, 17, 18, 19, 20, 21, 0, 1] (by decide) rfl
    obtain ⟨-, hr9⟩ := hw
    subst hr9
    refine cb_topl (z := lN (bs (canE S bb) ns)) (rs_eaters hC.2.1.2.2.1 (by omega)) ?_
    refine vp_callSi (W.runS (As := [.long (lN (bs (canE S bb) ns))]) (rest := [.int (nI (cntE S bb))]) ⟨hx, hb, hml, hown, hts⟩ (c_J13_bitCount_95d88 l (bs (canE S bb) ns) (bs_lt32 (by omega))) (va_cwS 1 hts gL_law_J13_bitCount_95d88 rfl rfl rfl (by decide +kernel) ⟨(Nat.le_of_ble_eq_true rfl), (Nat.le_of_ble_eq_true rfl)⟩) ⟨cN_blind, fun U hU hW => ⟨rfl, trivial⟩⟩ rfl rfl hl.1 rfl (lv_room (Nat.le_of_ble_eq_true rfl)) dL_law_680 ⟨(by show ((((cells + 8) + 8) + 8) + 8) + 0 ≤ room_1.cells; exact Nat.le_trans (by omega) rm_c), (by show ((((slots + 48) + 48) + 48) + 48) + 0 ≤ room_1.slots; exact Nat.le_trans (by omega) rm_s)⟩) (fun r er => ?_)
    subst er
    refine cb_topi (z := nI (cntE S bb)) (congrArg nI (popc_can hC.2.1.2.2.1 (by omega))) ?_
    have hcn30 := cntE_b hC.1 bb
    refine lv_icmp_ne (tgt := 705) hx hb dL_law_683 (by decide) (fun c_683 => ?_) (fun c_683 => ?_)
    · have c_683 : (cntE S bb) ≠ (cntE S bb) := cb_ne (by omega) (by omega) c_683
      exact absurd rfl c_683
    · have c_683 : (cntE S bb) = (cntE S bb) := cb_nne (by omega) (by omega) c_683
      refine lv_aload_n hx hb dL_law_686 rfl (lv_at hl 4 rfl) ?_
      refine lv_iconst (v := nI 0) hx hb dL_law_687 (by decide) ?_
      have hPc := hP.sub (ws' := (cb_w a k S)) [0, 1, 2, 3, 4, 5, 6, 7, 8, 9, 10, 11, 12, 13, 14, 15, 16, 17, 18, 19] rfl
      have hDc := hD.sub (ws' := (cb_w a k S)) [0, 1, 2, 3, 4, 5, 6, 7, 8, 9, 10, 11, 12, 13, 14, 15, 16, 17, 18, 19] (by decide) rfl
      have hKc := hK.sub (tys' := (cb_ty k)) [0, 1, 2, 3, 4, 5, 6, 7, 8, 9, 10, 11, 12, 13] rfl
      have hF : ∀ z, va_A (cb_w a k S) H1.size z → (fun z => s.heap.size ≤ z) z := va_free hD hS hA [0, 1, 2, 3, 4, 5, 6, 7, 8, 9, 10, 11, 12, 13, 14, 15, 16, 17, 18, 19] rfl
      refine vx_calli (vx_runV (As := [.int (nI 0)]) (rest := []) ⟨hx, hb, hml, hown, hts⟩ (c_X5_table l hl9 dC dI a k S H1.size (nI 0) hC.1) (cwV 1 hts gL_law_X5_table rfl rfl rfl (by decide +kernel) ⟨(Nat.le_of_ble_eq_true rfl), (Nat.le_of_ble_eq_true rfl)⟩) ⟨cU_blind, va_recv hKc hPc (ci := 5) (q0 := 0) rfl rfl, fun U hU hW => ⟨rfl, cU_of hKc hPc hDc hE hS hU hW hF⟩⟩ rfl rfl hl.1 rfl (lv_room (Nat.le_of_ble_eq_true rfl)) dL_law_688 ⟨(by show ((((cells + 8) + 8) + 8) + 8) + 8 ≤ room_1.cells; exact Nat.le_trans (by omega) rm_c), (by show ((((slots + 48) + 48) + 48) + 48) + 48 ≤ room_1.slots; exact Nat.le_trans (by omega) rm_s)⟩) hS (fun z _ h => hF z h) hF (fun z _ h => hF z h) (fun E ce q9 u8 t8 H1 L1 ht hvm _ hB hz1 hk1 hS hce hcv hcl => absurd hB.1.1 (by rw [kz_table (by omega)]; decide)) (fun r9 u8 t8 H1 L1 ht hvm hw hB hz1 hk1 hS => ?_)
      obtain ⟨hP9, -, hD9⟩ := hB
      rw [ht] at hP9
      obtain ⟨hP8, hD8⟩ := va_join (wc := (cb_w a k S)) (wr := [(qt, .inl (kt, (90, .inl tl))), (qp, .inl (kp, (10, .inl pl)))]) hP hD [0, 1, 2, 3, 4, 5, 6, 7, 8, 9, 10, 11, 12, 13, 14, 15, 16, 17, 18, 19] [20, 21] rfl rfl (by decide) (by decide) hk1 hF hP9 hD9
      have hP : va_P (dC, dI) vwCl (cb_w a k S ++ [(qt, .inl (kt, (90, .inl tl))), (qp, .inl (kp, (10, .inl pl)))]) H1 := hP8.sub [2, 3, 4, 5, 6, 7, 8, 9, 10, 11, 12, 13, 14, 15, 16, 17, 18, 19, 20, 21, 0, 1] rfl
      have hD : va_D (fun z => s.heap.size ≤ z) (cb_w a k S ++ [(qt, .inl (kt, (90, .inl tl))), (qp, .inl (kp, (10, .inl pl)))]) := hD8.sub [2, 3, 4, 5, 6, 7, 8, 9, 10, 11, 12, 13, 14, 15, 16, 17, 18, 19, 20, 21, 0, 1] (by decide) rfl
      obtain ⟨-, hr9⟩ := hw
      subst hr9
      refine cb_topi (z := nI (c_hung S)) rs_t0 ?_
      refine lv_iload hx hb dL_law_691 (lv_at hl 2 rfl) ?_
      have hh30 := hung_b hC.1
      refine lv_icmp_gt (tgt := 705) hx hb dL_law_693 (by decide) (fun c_693 => ?_) (fun c_693 => ?_)
      · have c_693 : hg < (c_hung S) := cb_gt (by omega) (by omega) c_693
        exact absurd c_693 (by omega)
      · have c_693 : (c_hung S) ≤ hg := cb_ngt (by omega) (by omega) c_693
        refine lv_aload_n hx hb dL_law_696 rfl (lv_at hl 4 rfl) ?_
        refine lv_iconst (v := nI 1) hx hb dL_law_697 (by decide) ?_
        have hPc := hP.sub (ws' := (cb_w a k S)) [0, 1, 2, 3, 4, 5, 6, 7, 8, 9, 10, 11, 12, 13, 14, 15, 16, 17, 18, 19] rfl
        have hDc := hD.sub (ws' := (cb_w a k S)) [0, 1, 2, 3, 4, 5, 6, 7, 8, 9, 10, 11, 12, 13, 14, 15, 16, 17, 18, 19] (by decide) rfl
        have hKc := hK.sub (tys' := (cb_ty k)) [0, 1, 2, 3, 4, 5, 6, 7, 8, 9, 10, 11, 12, 13] rfl
        have hF : ∀ z, va_A (cb_w a k S) H1.size z → (fun z => s.heap.size ≤ z) z := va_free hD hS hA [0, 1, 2, 3, 4, 5, 6, 7, 8, 9, 10, 11, 12, 13, 14, 15, 16, 17, 18, 19] rfl
        refine vx_calli (vx_runV (As := [.int (nI 1)]) (rest := []) ⟨hx, hb, hml, hown, hts⟩ (c_X5_table l hl9 dC dI a k S H1.size (nI 1) hC.1) (cwV 1 hts gL_law_X5_table rfl rfl rfl (by decide +kernel) ⟨(Nat.le_of_ble_eq_true rfl), (Nat.le_of_ble_eq_true rfl)⟩) ⟨cU_blind, va_recv hKc hPc (ci := 5) (q0 := 0) rfl rfl, fun U hU hW => ⟨rfl, cU_of hKc hPc hDc hE hS hU hW hF⟩⟩ rfl rfl hl.1 rfl (lv_room (Nat.le_of_ble_eq_true rfl)) dL_law_698 ⟨(by show (((((cells + 8) + 8) + 8) + 8) + 8) + 8 ≤ room_1.cells; exact Nat.le_trans (by omega) rm_c), (by show (((((slots + 48) + 48) + 48) + 48) + 48) + 48 ≤ room_1.slots; exact Nat.le_trans (by omega) rm_s)⟩) hS (fun z _ h => hF z h) hF (fun z _ h => hF z h) (fun E ce q9 u8 t8 H1 L1 ht hvm _ hB hz1 hk1 hS hce hcv hcl => absurd hB.1.1 (by rw [kz_table (by omega)]; decide)) (fun r9 u8 t8 H1 L1 ht hvm hw hB hz1 hk1 hS => ?_)
        obtain ⟨hP9, -, hD9⟩ := hB
        rw [ht] at hP9
        obtain ⟨hP8, hD8⟩ := va_join (wc := (cb_w a k S)) (wr := [(qt, .inl (kt, (90, .inl tl))), (qp, .inl (kp, (10, .inl pl)))]) hP hD [0, 1, 2, 3, 4, 5, 6, 7, 8, 9, 10, 11, 12, 13, 14, 15, 16, 17, 18, 19] [20, 21] rfl rfl (by decide) (by decide) hk1 hF hP9 hD9
        have hP : va_P (dC, dI) vwCl (cb_w a k S ++ [(qt, .inl (kt, (90, .inl tl))), (qp, .inl (kp, (10, .inl pl)))]) H1 := hP8.sub [2, 3, 4, 5, 6, 7, 8, 9, 10, 11, 12, 13, 14, 15, 16, 17, 18, 19, 20, 21, 0, 1] rfl
        have hD : va_D (fun z => s.heap.size ≤ z) (cb_w a k S ++ [(qt, .inl (kt, (90, .inl tl))), (qp, .inl (kp, (10, .inl pl)))]) := hD8.sub [2, 3, 4, 5, 6, 7, 8, 9, 10, 11, 12, 13, 14, 15, 16, 17, 18, 19, 20, 21, 0, 1] (by decide) rfl
        obtain ⟨-, hr9⟩ := hw
        subst hr9
        refine cb_topi (z := nI (c_me S)) rs_t1 ?_
        refine lv_iconst (v := nI 1) hx hb dL_law_701 (by decide) ?_
        have hm3 := hC.1.1.2.2.2.2.2.2.2
        refine lv_icmp_ge (tgt := 707) hx hb dL_law_702 (by decide) (fun c_702 => ?_) (fun c_702 => ?_)
        · have c_702 : 1 ≤ (c_me S) := cb_ge (by omega) (by omega) c_702
          exact lw_707 (cells := ((((((cells + 8) + 8) + 8) + 8) + 8) + 8)) (slots := ((((((slots + 48) + 48) + 48) + 48) + 48) + 48)) (cE := cE) (sE := sE) hl9 C1 hBD (by omega) (by omega) (by omega) (by omega) hd hb2 kk hC hP hD hS (lv_sub hl [3, 4, 5, 6, 7, 8, 9, 10, 11] rfl)
        · have c_702 : (c_me S) < 1 := cb_nge (by omega) (by omega) c_702
          exact absurd c_702 (by omega)
end CBV6
