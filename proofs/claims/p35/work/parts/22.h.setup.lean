/-! p35: the law: tents, foods, meals and the badge -/
section CBV8
set_option maxHeartbeats 4000000 in
set_option maxRecDepth 100000 in
theorem lp_t0 {p : Program} {l : Launch} {e : Env} {s : State} {m : MethodId} {below : List Frame} {meth : Method} {c : Code} {b L : Nat} {xs : Nat → Int32} {dC : Nat → ClassId} {dI : Nat → Nat → Nat} {a : Nat → Nat} {k : Nat → ClassId} {qt : Nat} {kt : ClassId} {tl : Nat → Int32} {qp : Nat} {kp : ClassId} {np ns nt cells slots cE sE : Nat} {Q : State → Prop} (hl9 : l.stackTraces = false) (C0 : LC p s m c b L xs dC dI k kt kp) (hB : BD np ns nt) (h1 : cells + 64 ≤ cE) (h2 : slots + 384 ≤ sE) (hc : cE ≤ 200000) (hs : sE ≤ 2000000) (kk : ∀ (S : cs_S) (pv : Nat → Int32) (H : Heap) (locs : List Loc) (ls : Array Slot), Cp 0 np ns nt 0 0 0 0 0 tl pv S → va_P (dC, dI) vwCl (cb_w a k S ++ [(qt, .inl (kt, (90, .inl tl))), (qp, .inl (kp, (10, .inl pv)))]) H → va_D (fun z => s.heap.size ≤ z) (cb_w a k S ++ [(qt, .inl (kt, (90, .inl tl))), (qp, .inl (kp, (10, .inl pv)))]) → va_S (fun z => s.heap.size ≤ z) s.heap H locs → lv_has ls 19 [(0, .ref b), (1, .ref (a 0)), (2, .int (nI np)), (3, .ref qt), (4, .int (nI ns)), (5, .ref qp), (6, .int (nI nt))] → W p l e room_1 s m #[Value.ref b] below meth c H locs cE sE Q (F0 m 127 ls [])) : ∀ (n t : Nat), t ≤ nt → nt + 1 ≤ t + n → ∀ (S : cs_S) (pv : Nat → Int32) (H : Heap) (locs : List Loc) (ls : Array Slot), Cp 0 np ns t 0 0 0 0 0 tl pv S → va_P (dC, dI) vwCl (cb_w a k S ++ [(qt, .inl (kt, (90, .inl tl))), (qp, .inl (kp, (10, .inl pv)))]) H → va_D (fun z => s.heap.size ≤ z) (cb_w a k S ++ [(qt, .inl (kt, (90, .inl tl))), (qp, .inl (kp, (10, .inl pv)))]) → va_S (fun z => s.heap.size ≤ z) s.heap H locs → lv_has ls 19 [(0, .ref b), (1, .ref (a 0)), (2, .int (nI np)), (3, .ref qt), (4, .int (nI ns)), (5, .ref qp), (6, .int (nI nt)), (7, .int (nI t))] → W p l e room_1 s m #[Value.ref b] below meth c H locs (cells + 8 * t) (slots + 48 * t) Q (F0 m 81 ls []) := by
  have C1 := C0
  obtain ⟨hx, hb, hml, hown, hts, hX, hbl, hL, hK, hE⟩ := C0
  have hbA : ¬ (fun z => s.heap.size ≤ z) b := Nat.not_le.mpr hbl
  have hA : ∀ q : Nat, s.heap.size ≤ q → (fun z => s.heap.size ≤ z) q := fun q h => h
  have hBD := hB
  obtain ⟨hp1, hp6, hn2, hn29, ht1, ht8⟩ := hB
  intro n
  induction n with
  | zero => intro t h1 h2; exact absurd h2 (by omega)
  | succ n ih =>
    intro t hle hfu S pv H locs ls hC hP hD hS hl
    refine lv_iload hx hb dL_law_81 (lv_at hl 7 rfl) ?_
    refine lv_iload hx hb dL_law_83 (lv_at hl 6 rfl) ?_
    refine lv_icmp_ge (tgt := 127) hx hb dL_law_85 (by decide) (fun c_85 => ?_) (fun c_85 => ?_)
    · have c_85 : nt ≤ t := cb_ge (by omega) (by omega) c_85
      rw [show t = nt by omega] at hC
      refine W.widen (k := cE) (n := sE) (by omega) (by omega) ?_
      exact kk S pv H locs ls hC hP hD hS (lv_sub hl [0, 1, 2, 3, 4, 5, 6] rfl)
    · have c_85 : t < nt := cb_nge (by omega) (by omega) c_85
      refine lv_aload hx hb dL_law_88 (lv_at hl 5 rfl) ?_
      refine lv_iload hx hb dL_law_90 (lv_at hl 7 rfl) ?_
      refine lv_iconst (v := nI 1) hx hb dL_law_92 (by decide) ?_
      refine lv_aload_n hx hb dL_law_93 rfl (lv_at hl 0 rfl) ?_
      refine lv_bipush (v := nI 8) hx hb dL_law_94 (by decide) ?_
      refine vp_callSi (W.runS (As := [.ref b, .int (nI 8)]) (rest := [.int (nI 1), .int (nI t), .ref qp]) ⟨hx, hb, hml, hown, hts⟩ (c_L_cell l b L xs 8 hL (by omega)) (va_cwS 2 hts gL_law_L_cell rfl rfl rfl (by decide +kernel) ⟨(Nat.le_of_ble_eq_true rfl), (Nat.le_of_ble_eq_true rfl)⟩) ⟨cSc_blind, fun U hU hW => ⟨rfl, cSc_of hX hbl hbA hS hU hW⟩⟩ rfl rfl hl.1 rfl (lv_room (Nat.le_of_ble_eq_true rfl)) dL_law_96 ⟨(by show (cells + 8 * t) + 0 ≤ room_1.cells; exact Nat.le_trans (by omega) rm_c), (by show (slots + 48 * t) + 0 ≤ room_1.slots; exact Nat.le_trans (by omega) rm_s)⟩) (fun r1 _ => ?_)
      refine lv_iconst (v := nI 3) hx hb dL_law_99 (by decide) ?_
      refine lv_iload hx hb dL_law_100 (lv_at hl 7 rfl) ?_
      refine lv_imul hx hb dL_law_102 ?_
      refine cb_topi (pk_mul _ _) ?_
      refine lv_ishr hx hb dL_law_103 ?_
      refine lv_bipush (v := nI 8) hx hb dL_law_104 (by decide) ?_
      refine vp_callSi (W.runS (As := [.int (r1 >>> (nI (3 * t) &&& 31)), .int (nI 8)]) (rest := [.int (nI 1), .int (nI t), .ref qp]) ⟨hx, hb, hml, hown, hts⟩ (c_L_below l (r1 >>> (nI (3 * t) &&& 31)) 8 (by omega) (by omega)) (va_cwS 2 hts gL_law_L_below rfl rfl rfl (by decide +kernel) ⟨(Nat.le_of_ble_eq_true rfl), (Nat.le_of_ble_eq_true rfl)⟩) ⟨cN_blind, fun U hU hW => ⟨rfl, trivial⟩⟩ rfl rfl hl.1 rfl (lv_room (Nat.le_of_ble_eq_true rfl)) dL_law_106 ⟨(by show (cells + 8 * t) + 0 ≤ room_1.cells; exact Nat.le_trans (by omega) rm_c), (by show (slots + 48 * t) + 0 ≤ room_1.slots; exact Nat.le_trans (by omega) rm_s)⟩) (fun r er => ?_)
      obtain ⟨j2, hj2, er⟩ := er
      subst er
      refine lv_iadd hx hb dL_law_109 ?_
      refine cb_topi (nI_add _ _) ?_
      refine cb_iast hx hb hK hP hD hS 21 15 (f := pv) rfl rfl (j := t) (by omega) (Nat.le_of_ble_eq_true rfl) dL_law_110 (fun H locs hP hD hS => ?_)
      have hP : va_P (dC, dI) vwCl (cb_w a k S ++ [(qt, .inl (kt, (90, .inl tl))), (qp, .inl (kp, (10, .inl (upd pv t (nI (1 + j2))))))]) H := hP
      have hD : va_D (fun z => s.heap.size ≤ z) (cb_w a k S ++ [(qt, .inl (kt, (90, .inl tl))), (qp, .inl (kp, (10, .inl (upd pv t (nI (1 + j2))))))]) := hD
      refine lv_aload_n hx hb dL_law_111 rfl (lv_at hl 1 rfl) ?_
      refine lv_aload hx hb dL_law_112 (lv_at hl 5 rfl) ?_
      refine lv_iload hx hb dL_law_114 (lv_at hl 7 rfl) ?_
      refine cb_iald hx hb hK hP 21 15 (f := upd pv t (nI (1 + j2))) rfl rfl (j := t) (by omega) (Nat.le_of_ble_eq_true rfl) dL_law_116 ?_
      refine cb_topi (z := nI (1 + j2)) pk_us ?_
      have hz := cp_addTent hC (y := 1 + j2) (by omega) (by omega) (by omega)
      have hPc := hP.sub (ws' := (cb_w a k S)) [0, 1, 2, 3, 4, 5, 6, 7, 8, 9, 10, 11, 12, 13, 14, 15, 16, 17, 18, 19] rfl
      have hDc := hD.sub (ws' := (cb_w a k S)) [0, 1, 2, 3, 4, 5, 6, 7, 8, 9, 10, 11, 12, 13, 14, 15, 16, 17, 18, 19] (by decide) rfl
      have hKc := hK.sub (tys' := (cb_ty k)) [0, 1, 2, 3, 4, 5, 6, 7, 8, 9, 10, 11, 12, 13] rfl
      have hF : ∀ z, va_A (cb_w a k S) H.size z → (fun z => s.heap.size ≤ z) z := va_free hD hS hA [0, 1, 2, 3, 4, 5, 6, 7, 8, 9, 10, 11, 12, 13, 14, 15, 16, 17, 18, 19] rfl
      refine vx_calli (vx_runV (As := [.int (nI (1 + j2))]) (rest := []) ⟨hx, hb, hml, hown, hts⟩ (c_X5_addTent l hl9 dC dI a k S H.size (nI (1 + j2)) hC.1) (cwV 1 hts gL_law_X5_addTent rfl rfl rfl (by decide +kernel) ⟨(Nat.le_of_ble_eq_true rfl), (Nat.le_of_ble_eq_true rfl)⟩) ⟨cU_blind, va_recv hKc hPc (ci := 5) (q0 := 0) rfl rfl, fun U hU hW => ⟨rfl, cU_of hKc hPc hDc hE hS hU hW hF⟩⟩ rfl rfl hl.1 rfl (lv_room (Nat.le_of_ble_eq_true rfl)) dL_law_117 ⟨(by show (cells + 8 * t) + 8 ≤ room_1.cells; exact Nat.le_trans (by omega) rm_c), (by show (slots + 48 * t) + 48 ≤ room_1.slots; exact Nat.le_trans (by omega) rm_s)⟩) hS (fun z _ h => hF z h) hF (fun z _ h => hF z h) (fun E ce q9 u8 t8 H1 L1 ht hvm _ hB hz1 hk1 hS hce hcv hcl => absurd hB.1.1 (by rw [hz.1]; decide)) (fun r9 u8 t8 H1 L1 ht hvm hw hB hz1 hk1 hS => ?_)
      obtain ⟨hP9, -, hD9⟩ := hB
      rw [ht] at hP9
      obtain ⟨hP8, hD8⟩ := va_join (wc := (cb_w a k S)) (wr := [(qt, .inl (kt, (90, .inl tl))), (qp, .inl (kp, (10, .inl (upd pv t (nI (1 + j2))))))]) hP hD [0, 1, 2, 3, 4, 5, 6, 7, 8, 9, 10, 11, 12, 13, 14, 15, 16, 17, 18, 19] [20, 21] rfl rfl (by decide) (by decide) hk1 hF hP9 hD9
      have hP : va_P (dC, dI) vwCl (cb_w a k (S_addTent S (nI (1 + j2))) ++ [(qt, .inl (kt, (90, .inl tl))), (qp, .inl (kp, (10, .inl (upd pv t (nI (1 + j2))))))]) H1 := hP8.sub [2, 3, 4, 5, 6, 7, 8, 9, 10, 11, 12, 13, 14, 15, 16, 17, 18, 19, 20, 21, 0, 1] rfl
      have hD : va_D (fun z => s.heap.size ≤ z) (cb_w a k (S_addTent S (nI (1 + j2))) ++ [(qt, .inl (kt, (90, .inl tl))), (qp, .inl (kp, (10, .inl (upd pv t (nI (1 + j2))))))]) := hD8.sub [2, 3, 4, 5, 6, 7, 8, 9, 10, 11, 12, 13, 14, 15, 16, 17, 18, 19, 20, 21, 0, 1] (by decide) rfl
      obtain ⟨-, hr9⟩ := hw
      subst hr9
      have hC := hz.2
      generalize S_addTent S (nI (1 + j2)) = S at hP hD hC
      refine lv_pop hx hb dL_law_120 rfl ?_
      refine lv_iinc (v := nI (t + 1)) (lv' := [(7, .int (nI (t + 1))), (0, .ref b), (1, .ref (a 0)), (2, .int (nI np)), (3, .ref qt), (4, .int (nI ns)), (5, .ref qp), (6, .int (nI nt))]) hx hb dL_law_121 hl (k := 7) rfl (nI_1 _) (by decide) rfl (fun ls hl => ?_)
      refine lv_goto (tgt := 81) hx hb dL_law_124 (by decide) ?_
      refine W.widen (k := cells + 8 * (t + 1)) (n := slots + 48 * (t + 1)) (by omega) (by omega) ?_
      exact ih (t + 1) (by omega) (by omega) S (upd pv t (nI (1 + j2))) H1 L1 ls hC hP hD hS (lv_sub hl [1, 2, 3, 4, 5, 6, 7, 0] rfl)
set_option maxHeartbeats 4000000 in
set_option maxRecDepth 100000 in
theorem lp_f0 {p : Program} {l : Launch} {e : Env} {s : State} {m : MethodId} {below : List Frame} {meth : Method} {c : Code} {b L : Nat} {xs : Nat → Int32} {dC : Nat → ClassId} {dI : Nat → Nat → Nat} {a : Nat → Nat} {k : Nat → ClassId} {qt : Nat} {kt : ClassId} {tl : Nat → Int32} {qp : Nat} {kp : ClassId} {pl : Nat → Int32} {np ns nt cells slots cE sE : Nat} {Q : State → Prop} (hl9 : l.stackTraces = false) (C0 : LC p s m c b L xs dC dI k kt kp) (hB : BD np ns nt) (h1 : cells + 32 ≤ cE) (h2 : slots + 192 ≤ sE) (hc : cE ≤ 200000) (hs : sE ≤ 2000000) (kk : ∀ (S : cs_S) (H : Heap) (locs : List Loc) (ls : Array Slot), Cp 0 np ns nt 4 0 0 0 0 tl pl S → va_P (dC, dI) vwCl (cb_w a k S ++ [(qt, .inl (kt, (90, .inl tl))), (qp, .inl (kp, (10, .inl pl)))]) H → va_D (fun z => s.heap.size ≤ z) (cb_w a k S ++ [(qt, .inl (kt, (90, .inl tl))), (qp, .inl (kp, (10, .inl pl)))]) → va_S (fun z => s.heap.size ≤ z) s.heap H locs → lv_has ls 19 [(0, .ref b), (1, .ref (a 0)), (2, .int (nI np)), (3, .ref qt), (4, .int (nI ns)), (5, .ref qp), (6, .int (nI nt))] → W p l e room_1 s m #[Value.ref b] below meth c H locs cE sE Q (F0 m 164 ls [])) : ∀ (n f : Nat), f ≤ 4 → 4 + 1 ≤ f + n → ∀ (S : cs_S) (H : Heap) (locs : List Loc) (ls : Array Slot), Cp 0 np ns nt f 0 0 0 0 tl pl S → va_P (dC, dI) vwCl (cb_w a k S ++ [(qt, .inl (kt, (90, .inl tl))), (qp, .inl (kp, (10, .inl pl)))]) H → va_D (fun z => s.heap.size ≤ z) (cb_w a k S ++ [(qt, .inl (kt, (90, .inl tl))), (qp, .inl (kp, (10, .inl pl)))]) → va_S (fun z => s.heap.size ≤ z) s.heap H locs → lv_has ls 19 [(0, .ref b), (1, .ref (a 0)), (2, .int (nI np)), (3, .ref qt), (4, .int (nI ns)), (5, .ref qp), (6, .int (nI nt)), (7, .int (nI f))] → W p l e room_1 s m #[Value.ref b] below meth c H locs (cells + 8 * f) (slots + 48 * f) Q (F0 m 130 ls []) := by
  have C1 := C0
  obtain ⟨hx, hb, hml, hown, hts, hX, hbl, hL, hK, hE⟩ := C0
  have hbA : ¬ (fun z => s.heap.size ≤ z) b := Nat.not_le.mpr hbl
  have hA : ∀ q : Nat, s.heap.size ≤ q → (fun z => s.heap.size ≤ z) q := fun q h => h
  have hBD := hB
  obtain ⟨hp1, hp6, hn2, hn29, ht1, ht8⟩ := hB
  intro n
  induction n with
  | zero => intro f h1 h2; exact absurd h2 (by omega)
  | succ n ih =>
    intro f hle hfu S H locs ls hC hP hD hS hl
    refine lv_iload hx hb dL_law_130 (lv_at hl 7 rfl) ?_
    refine lv_iconst (v := nI 4) hx hb dL_law_132 (by decide) ?_
    refine lv_icmp_ge (tgt := 164) hx hb dL_law_133 (by decide) (fun c_133 => ?_) (fun c_133 => ?_)
    · have c_133 : 4 ≤ f := cb_ge (by omega) (by omega) c_133
      rw [show f = 4 by omega] at hC
      refine W.widen (k := cE) (n := sE) (by omega) (by omega) ?_
      exact kk S H locs ls hC hP hD hS (lv_sub hl [0, 1, 2, 3, 4, 5, 6] rfl)
    · have c_133 : f < 4 := cb_nge (by omega) (by omega) c_133
      refine lv_aload_n hx hb dL_law_136 rfl (lv_at hl 1 rfl) ?_
      refine lv_aload_n hx hb dL_law_137 rfl (lv_at hl 0 rfl) ?_
      refine lv_bipush (v := nI 9) hx hb dL_law_138 (by decide) ?_
      refine vp_callSi (W.runS (As := [.ref b, .int (nI 9)]) (rest := [.ref (a 0)]) ⟨hx, hb, hml, hown, hts⟩ (c_L_cell l b L xs 9 hL (by omega)) (va_cwS 2 hts gL_law_L_cell rfl rfl rfl (by decide +kernel) ⟨(Nat.le_of_ble_eq_true rfl), (Nat.le_of_ble_eq_true rfl)⟩) ⟨cSc_blind, fun U hU hW => ⟨rfl, cSc_of hX hbl hbA hS hU hW⟩⟩ rfl rfl hl.1 rfl (lv_room (Nat.le_of_ble_eq_true rfl)) dL_law_140 ⟨(by show (cells + 8 * f) + 0 ≤ room_1.cells; exact Nat.le_trans (by omega) rm_c), (by show (slots + 48 * f) + 0 ≤ room_1.slots; exact Nat.le_trans (by omega) rm_s)⟩) (fun r1 _ => ?_)
      refine lv_iconst (v := nI 3) hx hb dL_law_143 (by decide) ?_
      refine lv_iload hx hb dL_law_144 (lv_at hl 7 rfl) ?_
      refine lv_imul hx hb dL_law_146 ?_
      refine cb_topi (pk_mul _ _) ?_
      refine lv_ishr hx hb dL_law_147 ?_
      refine lv_sipush (v := nI 900) hx hb dL_law_148 (by decide) ?_
      refine vp_callSi (W.runS (As := [.int (r1 >>> (nI (3 * f) &&& 31)), .int (nI 900)]) (rest := [.ref (a 0)]) ⟨hx, hb, hml, hown, hts⟩ (c_L_below l (r1 >>> (nI (3 * f) &&& 31)) 900 (by omega) (by omega)) (va_cwS 2 hts gL_law_L_below rfl rfl rfl (by decide +kernel) ⟨(Nat.le_of_ble_eq_true rfl), (Nat.le_of_ble_eq_true rfl)⟩) ⟨cN_blind, fun U hU hW => ⟨rfl, trivial⟩⟩ rfl rfl hl.1 rfl (lv_room (Nat.le_of_ble_eq_true rfl)) dL_law_151 ⟨(by show (cells + 8 * f) + 0 ≤ room_1.cells; exact Nat.le_trans (by omega) rm_c), (by show (slots + 48 * f) + 0 ≤ room_1.slots; exact Nat.le_trans (by omega) rm_s)⟩) (fun r er => ?_)
      obtain ⟨j2, hj2, er⟩ := er
      subst er
      have hz := cp_addFood hC (x := j2) (by omega) (by omega)
      have hPc := hP.sub (ws' := (cb_w a k S)) [0, 1, 2, 3, 4, 5, 6, 7, 8, 9, 10, 11, 12, 13, 14, 15, 16, 17, 18, 19] rfl
      have hDc := hD.sub (ws' := (cb_w a k S)) [0, 1, 2, 3, 4, 5, 6, 7, 8, 9, 10, 11, 12, 13, 14, 15, 16, 17, 18, 19] (by decide) rfl
      have hKc := hK.sub (tys' := (cb_ty k)) [0, 1, 2, 3, 4, 5, 6, 7, 8, 9, 10, 11, 12, 13] rfl
      have hF : ∀ z, va_A (cb_w a k S) H.size z → (fun z => s.heap.size ≤ z) z := va_free hD hS hA [0, 1, 2, 3, 4, 5, 6, 7, 8, 9, 10, 11, 12, 13, 14, 15, 16, 17, 18, 19] rfl
      refine vx_calli (vx_runV (As := [.int (nI j2)]) (rest := []) ⟨hx, hb, hml, hown, hts⟩ (c_X5_addFood l hl9 dC dI a k S H.size (nI j2) hC.1) (cwV 1 hts gL_law_X5_addFood rfl rfl rfl (by decide +kernel) ⟨(Nat.le_of_ble_eq_true rfl), (Nat.le_of_ble_eq_true rfl)⟩) ⟨cU_blind, va_recv hKc hPc (ci := 5) (q0 := 0) rfl rfl, fun U hU hW => ⟨rfl, cU_of hKc hPc hDc hE hS hU hW hF⟩⟩ rfl rfl hl.1 rfl (lv_room (Nat.le_of_ble_eq_true rfl)) dL_law_154 ⟨(by show (cells + 8 * f) + 8 ≤ room_1.cells; exact Nat.le_trans (by omega) rm_c), (by show (slots + 48 * f) + 48 ≤ room_1.slots; exact Nat.le_trans (by omega) rm_s)⟩) hS (fun z _ h => hF z h) hF (fun z _ h => hF z h) (fun E ce q9 u8 t8 H1 L1 ht hvm _ hB hz1 hk1 hS hce hcv hcl => absurd hB.1.1 (by rw [hz.1]; decide)) (fun r9 u8 t8 H1 L1 ht hvm hw hB hz1 hk1 hS => ?_)
      obtain ⟨hP9, -, hD9⟩ := hB
      rw [ht] at hP9
      obtain ⟨hP8, hD8⟩ := va_join (wc := (cb_w a k S)) (wr := [(qt, .inl (kt, (90, .inl tl))), (qp, .inl (kp, (10, .inl pl)))]) hP hD [0, 1, 2, 3, 4, 5, 6, 7, 8, 9, 10, 11, 12, 13, 14, 15, 16, 17, 18, 19] [20, 21] rfl rfl (by decide) (by decide) hk1 hF hP9 hD9
      have hP : va_P (dC, dI) vwCl (cb_w a k (S_addFood S (nI j2)) ++ [(qt, .inl (kt, (90, .inl tl))), (qp, .inl (kp, (10, .inl pl)))]) H1 := hP8.sub [2, 3, 4, 5, 6, 7, 8, 9, 10, 11, 12, 13, 14, 15, 16, 17, 18, 19, 20, 21, 0, 1] rfl
      have hD : va_D (fun z => s.heap.size ≤ z) (cb_w a k (S_addFood S (nI j2)) ++ [(qt, .inl (kt, (90, .inl tl))), (qp, .inl (kp, (10, .inl pl)))]) := hD8.sub [2, 3, 4, 5, 6, 7, 8, 9, 10, 11, 12, 13, 14, 15, 16, 17, 18, 19, 20, 21, 0, 1] (by decide) rfl
      obtain ⟨-, hr9⟩ := hw
      subst hr9
      have hC := hz.2
      generalize S_addFood S (nI j2) = S at hP hD hC
      refine lv_pop hx hb dL_law_157 rfl ?_
      refine lv_iinc (v := nI (f + 1)) (lv' := [(7, .int (nI (f + 1))), (0, .ref b), (1, .ref (a 0)), (2, .int (nI np)), (3, .ref qt), (4, .int (nI ns)), (5, .ref qp), (6, .int (nI nt))]) hx hb dL_law_158 hl (k := 7) rfl (nI_1 _) (by decide) rfl (fun ls hl => ?_)
      refine lv_goto (tgt := 130) hx hb dL_law_161 (by decide) ?_
      refine W.widen (k := cells + 8 * (f + 1)) (n := slots + 48 * (f + 1)) (by omega) (by omega) ?_
      exact ih (f + 1) (by omega) (by omega) S H1 L1 ls hC hP hD hS (lv_sub hl [1, 2, 3, 4, 5, 6, 7, 0] rfl)
set_option maxHeartbeats 4000000 in
set_option maxRecDepth 100000 in
theorem lp_m0 {p : Program} {l : Launch} {e : Env} {s : State} {m : MethodId} {below : List Frame} {meth : Method} {c : Code} {b L : Nat} {xs : Nat → Int32} {dC : Nat → ClassId} {dI : Nat → Nat → Nat} {a : Nat → Nat} {k : Nat → ClassId} {qt : Nat} {kt : ClassId} {tl : Nat → Int32} {qp : Nat} {kp : ClassId} {pl : Nat → Int32} {np ns nt cells slots cE sE : Nat} {Q : State → Prop} (hl9 : l.stackTraces = false) (C0 : LC p s m c b L xs dC dI k kt kp) (hB : BD np ns nt) (h1 : cells + 72 ≤ cE) (h2 : slots + 432 ≤ sE) (hc : cE ≤ 200000) (hs : sE ≤ 2000000) (kk : ∀ (S : cs_S) (H : Heap) (locs : List Loc) (ls : Array Slot), Cp 0 np ns nt 4 3 0 0 0 tl pl S → va_P (dC, dI) vwCl (cb_w a k S ++ [(qt, .inl (kt, (90, .inl tl))), (qp, .inl (kp, (10, .inl pl)))]) H → va_D (fun z => s.heap.size ≤ z) (cb_w a k S ++ [(qt, .inl (kt, (90, .inl tl))), (qp, .inl (kp, (10, .inl pl)))]) → va_S (fun z => s.heap.size ≤ z) s.heap H locs → lv_has ls 19 [(0, .ref b), (1, .ref (a 0)), (2, .int (nI np)), (3, .ref qt), (4, .int (nI ns)), (5, .ref qp), (6, .int (nI nt))] → W p l e room_1 s m #[Value.ref b] below meth c H locs cE sE Q (F0 m 232 ls [])) : ∀ (n mm : Nat), mm ≤ 3 → 3 + 1 ≤ mm + n → ∀ (S : cs_S) (H : Heap) (locs : List Loc) (ls : Array Slot), Cp 0 np ns nt 4 mm 0 0 0 tl pl S → va_P (dC, dI) vwCl (cb_w a k S ++ [(qt, .inl (kt, (90, .inl tl))), (qp, .inl (kp, (10, .inl pl)))]) H → va_D (fun z => s.heap.size ≤ z) (cb_w a k S ++ [(qt, .inl (kt, (90, .inl tl))), (qp, .inl (kp, (10, .inl pl)))]) → va_S (fun z => s.heap.size ≤ z) s.heap H locs → lv_has ls 19 [(0, .ref b), (1, .ref (a 0)), (2, .int (nI np)), (3, .ref qt), (4, .int (nI ns)), (5, .ref qp), (6, .int (nI nt)), (7, .int (nI mm))] → W p l e room_1 s m #[Value.ref b] below meth c H locs (cells + 24 * mm) (slots + 144 * mm) Q (F0 m 167 ls []) := by
  have C1 := C0
  obtain ⟨hx, hb, hml, hown, hts, hX, hbl, hL, hK, hE⟩ := C0
  have hbA : ¬ (fun z => s.heap.size ≤ z) b := Nat.not_le.mpr hbl
  have hA : ∀ q : Nat, s.heap.size ≤ q → (fun z => s.heap.size ≤ z) q := fun q h => h
  have hBD := hB
  obtain ⟨hp1, hp6, hn2, hn29, ht1, ht8⟩ := hB
  intro n
  induction n with
  | zero => intro mm h1 h2; exact absurd h2 (by omega)
  | succ n ih =>
    intro mm hle hfu S H locs ls hC hP hD hS hl
    refine lv_iload hx hb dL_law_167 (lv_at hl 7 rfl) ?_
    refine lv_iconst (v := nI 3) hx hb dL_law_169 (by decide) ?_
    refine lv_icmp_ge (tgt := 232) hx hb dL_law_170 (by decide) (fun c_170 => ?_) (fun c_170 => ?_)
    · have c_170 : 3 ≤ mm := cb_ge (by omega) (by omega) c_170
      rw [show mm = 3 by omega] at hC
      refine W.widen (k := cE) (n := sE) (by omega) (by omega) ?_
      exact kk S H locs ls hC hP hD hS (lv_sub hl [0, 1, 2, 3, 4, 5, 6] rfl)
    · have c_170 : mm < 3 := cb_nge (by omega) (by omega) c_170
      refine lv_aload_n hx hb dL_law_173 rfl (lv_at hl 1 rfl) ?_
      have hz := cp_addMeal hC (by omega)
      have hPc := hP.sub (ws' := (cb_w a k S)) [0, 1, 2, 3, 4, 5, 6, 7, 8, 9, 10, 11, 12, 13, 14, 15, 16, 17, 18, 19] rfl
      have hDc := hD.sub (ws' := (cb_w a k S)) [0, 1, 2, 3, 4, 5, 6, 7, 8, 9, 10, 11, 12, 13, 14, 15, 16, 17, 18, 19] (by decide) rfl
      have hKc := hK.sub (tys' := (cb_ty k)) [0, 1, 2, 3, 4, 5, 6, 7, 8, 9, 10, 11, 12, 13] rfl
      have hF : ∀ z, va_A (cb_w a k S) H.size z → (fun z => s.heap.size ≤ z) z := va_free hD hS hA [0, 1, 2, 3, 4, 5, 6, 7, 8, 9, 10, 11, 12, 13, 14, 15, 16, 17, 18, 19] rfl
      refine vx_calli (vx_runV (As := []) (rest := []) ⟨hx, hb, hml, hown, hts⟩ (c_X5_addMeal l hl9 dC dI a k S H.size  hC.1) (cwV 0 hts gL_law_X5_addMeal rfl rfl rfl (by decide +kernel) ⟨(Nat.le_of_ble_eq_true rfl), (Nat.le_of_ble_eq_true rfl)⟩) ⟨cU_blind, va_recv hKc hPc (ci := 5) (q0 := 0) rfl rfl, fun U hU hW => ⟨rfl, cU_of hKc hPc hDc hE hS hU hW hF⟩⟩ rfl rfl hl.1 rfl (lv_room (Nat.le_of_ble_eq_true rfl)) dL_law_174 ⟨(by show (cells + 24 * mm) + 8 ≤ room_1.cells; exact Nat.le_trans (by omega) rm_c), (by show (slots + 144 * mm) + 48 ≤ room_1.slots; exact Nat.le_trans (by omega) rm_s)⟩) hS (fun z _ h => hF z h) hF (fun z _ h => hF z h) (fun E ce q9 u8 t8 H1 L1 ht hvm _ hB hz1 hk1 hS hce hcv hcl => absurd hB.1.1 (by rw [hz.1]; decide)) (fun r9 u8 t8 H1 L1 ht hvm hw hB hz1 hk1 hS => ?_)
      obtain ⟨hP9, -, hD9⟩ := hB
      rw [ht] at hP9
      obtain ⟨hP8, hD8⟩ := va_join (wc := (cb_w a k S)) (wr := [(qt, .inl (kt, (90, .inl tl))), (qp, .inl (kp, (10, .inl pl)))]) hP hD [0, 1, 2, 3, 4, 5, 6, 7, 8, 9, 10, 11, 12, 13, 14, 15, 16, 17, 18, 19] [20, 21] rfl rfl (by decide) (by decide) hk1 hF hP9 hD9
      have hP : va_P (dC, dI) vwCl (cb_w a k (S_addMeal S) ++ [(qt, .inl (kt, (90, .inl tl))), (qp, .inl (kp, (10, .inl pl)))]) H1 := hP8.sub [2, 3, 4, 5, 6, 7, 8, 9, 10, 11, 12, 13, 14, 15, 16, 17, 18, 19, 20, 21, 0, 1] rfl
      have hD : va_D (fun z => s.heap.size ≤ z) (cb_w a k (S_addMeal S) ++ [(qt, .inl (kt, (90, .inl tl))), (qp, .inl (kp, (10, .inl pl)))]) := hD8.sub [2, 3, 4, 5, 6, 7, 8, 9, 10, 11, 12, 13, 14, 15, 16, 17, 18, 19, 20, 21, 0, 1] (by decide) rfl
      obtain ⟨-, hr9⟩ := hw
      subst hr9
      have hC := hz.2
      generalize S_addMeal S = S at hP hD hC
      refine lv_pop hx hb dL_law_177 rfl ?_
      refine lv_aload_n hx hb dL_law_178 rfl (lv_at hl 1 rfl) ?_
      refine lv_iload hx hb dL_law_179 (lv_at hl 7 rfl) ?_
      refine lv_iload hx hb dL_law_181 (lv_at hl 7 rfl) ?_
      refine lv_iconst (v := nI 1) hx hb dL_law_183 (by decide) ?_
      refine lv_aload_n hx hb dL_law_184 rfl (lv_at hl 0 rfl) ?_
      refine lv_bipush (v := nI 9) hx hb dL_law_185 (by decide) ?_
      refine vp_callSi (W.runS (As := [.ref b, .int (nI 9)]) (rest := [.int (nI 1), .int (nI mm), .int (nI mm), .ref (a 0)]) ⟨hx, hb, hml, hown, hts⟩ (c_L_cell l b L xs 9 hL (by omega)) (va_cwS 2 hts gL_law_L_cell rfl rfl rfl (by decide +kernel) ⟨(Nat.le_of_ble_eq_true rfl), (Nat.le_of_ble_eq_true rfl)⟩) ⟨cSc_blind, fun U hU hW => ⟨rfl, cSc_of hX hbl hbA hS hU hW⟩⟩ rfl rfl hl.1 rfl (lv_room (Nat.le_of_ble_eq_true rfl)) dL_law_187 ⟨(by show ((cells + 24 * mm) + 8) + 0 ≤ room_1.cells; exact Nat.le_trans (by omega) rm_c), (by show ((slots + 144 * mm) + 48) + 0 ≤ room_1.slots; exact Nat.le_trans (by omega) rm_s)⟩) (fun r1 _ => ?_)
      refine lv_iload hx hb dL_law_190 (lv_at hl 7 rfl) ?_
      refine lv_ishr hx hb dL_law_192 ?_
      refine lv_bipush (v := nI 6) hx hb dL_law_193 (by decide) ?_
      refine vp_callSi (W.runS (As := [.int (r1 >>> (nI mm &&& 31)), .int (nI 6)]) (rest := [.int (nI 1), .int (nI mm), .int (nI mm), .ref (a 0)]) ⟨hx, hb, hml, hown, hts⟩ (c_L_below l (r1 >>> (nI mm &&& 31)) 6 (by omega) (by omega)) (va_cwS 2 hts gL_law_L_below rfl rfl rfl (by decide +kernel) ⟨(Nat.le_of_ble_eq_true rfl), (Nat.le_of_ble_eq_true rfl)⟩) ⟨cN_blind, fun U hU hW => ⟨rfl, trivial⟩⟩ rfl rfl hl.1 rfl (lv_room (Nat.le_of_ble_eq_true rfl)) dL_law_195 ⟨(by show ((cells + 24 * mm) + 8) + 0 ≤ room_1.cells; exact Nat.le_trans (by omega) rm_c), (by show ((slots + 144 * mm) + 48) + 0 ≤ room_1.slots; exact Nat.le_trans (by omega) rm_s)⟩) (fun r er => ?_)
      obtain ⟨j2, hj2, er⟩ := er
      subst er
      refine lv_iadd hx hb dL_law_198 ?_
      refine cb_topi (nI_add _ _) ?_
      have hz := cp_need hC (mm := mm) (f := mm) (x := 1 + j2) (by omega) (by omega) (by omega)
      have hPc := hP.sub (ws' := (cb_w a k S)) [0, 1, 2, 3, 4, 5, 6, 7, 8, 9, 10, 11, 12, 13, 14, 15, 16, 17, 18, 19] rfl
      have hDc := hD.sub (ws' := (cb_w a k S)) [0, 1, 2, 3, 4, 5, 6, 7, 8, 9, 10, 11, 12, 13, 14, 15, 16, 17, 18, 19] (by decide) rfl
      have hKc := hK.sub (tys' := (cb_ty k)) [0, 1, 2, 3, 4, 5, 6, 7, 8, 9, 10, 11, 12, 13] rfl
      have hF : ∀ z, va_A (cb_w a k S) H1.size z → (fun z => s.heap.size ≤ z) z := va_free hD hS hA [0, 1, 2, 3, 4, 5, 6, 7, 8, 9, 10, 11, 12, 13, 14, 15, 16, 17, 18, 19] rfl
      refine vx_calli (vx_runV (As := [.int (nI mm), .int (nI mm), .int (nI (1 + j2))]) (rest := []) ⟨hx, hb, hml, hown, hts⟩ (c_X5_need l hl9 dC dI a k S H1.size (nI mm) (nI mm) (nI (1 + j2)) hC.1) (cwV 3 hts gL_law_X5_need rfl rfl rfl (by decide +kernel) ⟨(Nat.le_of_ble_eq_true rfl), (Nat.le_of_ble_eq_true rfl)⟩) ⟨cU_blind, va_recv hKc hPc (ci := 5) (q0 := 0) rfl rfl, fun U hU hW => ⟨rfl, cU_of hKc hPc hDc hE hS hU hW hF⟩⟩ rfl rfl hl.1 rfl (lv_room (Nat.le_of_ble_eq_true rfl)) dL_law_199 ⟨(by show ((cells + 24 * mm) + 8) + 8 ≤ room_1.cells; exact Nat.le_trans (by omega) rm_c), (by show ((slots + 144 * mm) + 48) + 48 ≤ room_1.slots; exact Nat.le_trans (by omega) rm_s)⟩) hS (fun z _ h => hF z h) hF (fun z _ h => hF z h) (fun E ce q9 u8 t8 H1 L1 ht hvm _ hB hz1 hk1 hS hce hcv hcl => absurd hB.1.1 (by rw [hz.1]; decide)) (fun r9 u8 t8 H1 L1 ht hvm hw hB hz1 hk1 hS => ?_)
      obtain ⟨hP9, -, hD9⟩ := hB
      rw [ht] at hP9
      obtain ⟨hP8, hD8⟩ := va_join (wc := (cb_w a k S)) (wr := [(qt, .inl (kt, (90, .inl tl))), (qp, .inl (kp, (10, .inl pl)))]) hP hD [0, 1, 2, 3, 4, 5, 6, 7, 8, 9, 10, 11, 12, 13, 14, 15, 16, 17, 18, 19] [20, 21] rfl rfl (by decide) (by decide) hk1 hF hP9 hD9
      have hP : va_P (dC, dI) vwCl (cb_w a k (S_need S (nI mm) (nI mm) (nI (1 + j2))) ++ [(qt, .inl (kt, (90, .inl tl))), (qp, .inl (kp, (10, .inl pl)))]) H1 := hP8.sub [2, 3, 4, 5, 6, 7, 8, 9, 10, 11, 12, 13, 14, 15, 16, 17, 18, 19, 20, 21, 0, 1] rfl
      have hD : va_D (fun z => s.heap.size ≤ z) (cb_w a k (S_need S (nI mm) (nI mm) (nI (1 + j2))) ++ [(qt, .inl (kt, (90, .inl tl))), (qp, .inl (kp, (10, .inl pl)))]) := hD8.sub [2, 3, 4, 5, 6, 7, 8, 9, 10, 11, 12, 13, 14, 15, 16, 17, 18, 19, 20, 21, 0, 1] (by decide) rfl
      obtain ⟨-, hr9⟩ := hw
      subst hr9
      have hC := hz.2
      generalize S_need S (nI mm) (nI mm) (nI (1 + j2)) = S at hP hD hC
      refine lv_pop hx hb dL_law_202 rfl ?_
      refine lv_aload_n hx hb dL_law_203 rfl (lv_at hl 1 rfl) ?_
      refine lv_iload hx hb dL_law_204 (lv_at hl 7 rfl) ?_
      refine lv_iconst (v := nI 3) hx hb dL_law_206 (by decide) ?_
      refine lv_aload_n hx hb dL_law_207 rfl (lv_at hl 0 rfl) ?_
      refine lv_bipush (v := nI 9) hx hb dL_law_208 (by decide) ?_
      refine vp_callSi (W.runS (As := [.ref b, .int (nI 9)]) (rest := [.int (nI 3), .int (nI mm), .ref (a 0)]) ⟨hx, hb, hml, hown, hts⟩ (c_L_cell l b L xs 9 hL (by omega)) (va_cwS 2 hts gL_law_L_cell rfl rfl rfl (by decide +kernel) ⟨(Nat.le_of_ble_eq_true rfl), (Nat.le_of_ble_eq_true rfl)⟩) ⟨cSc_blind, fun U hU hW => ⟨rfl, cSc_of hX hbl hbA hS hU hW⟩⟩ rfl rfl hl.1 rfl (lv_room (Nat.le_of_ble_eq_true rfl)) dL_law_210 ⟨(by show (((cells + 24 * mm) + 8) + 8) + 0 ≤ room_1.cells; exact Nat.le_trans (by omega) rm_c), (by show (((slots + 144 * mm) + 48) + 48) + 0 ≤ room_1.slots; exact Nat.le_trans (by omega) rm_s)⟩) (fun r3 _ => ?_)
      refine lv_iload hx hb dL_law_213 (lv_at hl 7 rfl) ?_
      refine lv_iconst (v := nI 4) hx hb dL_law_215 (by decide) ?_
      refine lv_iadd hx hb dL_law_216 ?_
      refine cb_topi (nI_add _ _) ?_
      refine lv_ishr hx hb dL_law_217 ?_
      refine lv_iconst (v := nI 4) hx hb dL_law_218 (by decide) ?_
      refine vp_callSi (W.runS (As := [.int (r3 >>> (nI (mm + 4) &&& 31)), .int (nI 4)]) (rest := [.int (nI 3), .int (nI mm), .ref (a 0)]) ⟨hx, hb, hml, hown, hts⟩ (c_L_below l (r3 >>> (nI (mm + 4) &&& 31)) 4 (by omega) (by omega)) (va_cwS 2 hts gL_law_L_below rfl rfl rfl (by decide +kernel) ⟨(Nat.le_of_ble_eq_true rfl), (Nat.le_of_ble_eq_true rfl)⟩) ⟨cN_blind, fun U hU hW => ⟨rfl, trivial⟩⟩ rfl rfl hl.1 rfl (lv_room (Nat.le_of_ble_eq_true rfl)) dL_law_219 ⟨(by show (((cells + 24 * mm) + 8) + 8) + 0 ≤ room_1.cells; exact Nat.le_trans (by omega) rm_c), (by show (((slots + 144 * mm) + 48) + 48) + 0 ≤ room_1.slots; exact Nat.le_trans (by omega) rm_s)⟩) (fun r er => ?_)
      obtain ⟨j4, hj4, er⟩ := er
      subst er
      have hz := cp_need hC (mm := mm) (f := 3) (x := j4) (by omega) (by omega) (by omega)
      have hPc := hP.sub (ws' := (cb_w a k S)) [0, 1, 2, 3, 4, 5, 6, 7, 8, 9, 10, 11, 12, 13, 14, 15, 16, 17, 18, 19] rfl
      have hDc := hD.sub (ws' := (cb_w a k S)) [0, 1, 2, 3, 4, 5, 6, 7, 8, 9, 10, 11, 12, 13, 14, 15, 16, 17, 18, 19] (by decide) rfl
      have hKc := hK.sub (tys' := (cb_ty k)) [0, 1, 2, 3, 4, 5, 6, 7, 8, 9, 10, 11, 12, 13] rfl
      have hF : ∀ z, va_A (cb_w a k S) H1.size z → (fun z => s.heap.size ≤ z) z := va_free hD hS hA [0, 1, 2, 3, 4, 5, 6, 7, 8, 9, 10, 11, 12, 13, 14, 15, 16, 17, 18, 19] rfl
      refine vx_calli (vx_runV (As := [.int (nI mm), .int (nI 3), .int (nI j4)]) (rest := []) ⟨hx, hb, hml, hown, hts⟩ (c_X5_need l hl9 dC dI a k S H1.size (nI mm) (nI 3) (nI j4) hC.1) (cwV 3 hts gL_law_X5_need rfl rfl rfl (by decide +kernel) ⟨(Nat.le_of_ble_eq_true rfl), (Nat.le_of_ble_eq_true rfl)⟩) ⟨cU_blind, va_recv hKc hPc (ci := 5) (q0 := 0) rfl rfl, fun U hU hW => ⟨rfl, cU_of hKc hPc hDc hE hS hU hW hF⟩⟩ rfl rfl hl.1 rfl (lv_room (Nat.le_of_ble_eq_true rfl)) dL_law_222 ⟨(by show (((cells + 24 * mm) + 8) + 8) + 8 ≤ room_1.cells; exact Nat.le_trans (by omega) rm_c), (by show (((slots + 144 * mm) + 48) + 48) + 48 ≤ room_1.slots; exact Nat.le_trans (by omega) rm_s)⟩) hS (fun z _ h => hF z h) hF (fun z _ h => hF z h) (fun E ce q9 u8 t8 H1 L1 ht hvm _ hB hz1 hk1 hS hce hcv hcl => absurd hB.1.1 (by rw [hz.1]; decide)) (fun r9 u8 t8 H1 L1 ht hvm hw hB hz1 hk1 hS => ?_)
      obtain ⟨hP9, -, hD9⟩ := hB
      rw [ht] at hP9
      obtain ⟨hP8, hD8⟩ := va_join (wc := (cb_w a k S)) (wr := [(qt, .inl (kt, (90, .inl tl))), (qp, .inl (kp, (10, .inl pl)))]) hP hD [0, 1, 2, 3, 4, 5, 6, 7, 8, 9, 10, 11, 12, 13, 14, 15, 16, 17, 18, 19] [20, 21] rfl rfl (by decide) (by decide) hk1 hF hP9 hD9
      have hP : va_P (dC, dI) vwCl (cb_w a k (S_need S (nI mm) (nI 3) (nI j4)) ++ [(qt, .inl (kt, (90, .inl tl))), (qp, .inl (kp, (10, .inl pl)))]) H1 := hP8.sub [2, 3, 4, 5, 6, 7, 8, 9, 10, 11, 12, 13, 14, 15, 16, 17, 18, 19, 20, 21, 0, 1] rfl
      have hD : va_D (fun z => s.heap.size ≤ z) (cb_w a k (S_need S (nI mm) (nI 3) (nI j4)) ++ [(qt, .inl (kt, (90, .inl tl))), (qp, .inl (kp, (10, .inl pl)))]) := hD8.sub [2, 3, 4, 5, 6, 7, 8, 9, 10, 11, 12, 13, 14, 15, 16, 17, 18, 19, 20, 21, 0, 1] (by decide) rfl
      obtain ⟨-, hr9⟩ := hw
      subst hr9
      have hC := hz.2
      generalize S_need S (nI mm) (nI 3) (nI j4) = S at hP hD hC
      refine lv_pop hx hb dL_law_225 rfl ?_
      refine lv_iinc (v := nI (mm + 1)) (lv' := [(7, .int (nI (mm + 1))), (0, .ref b), (1, .ref (a 0)), (2, .int (nI np)), (3, .ref qt), (4, .int (nI ns)), (5, .ref qp), (6, .int (nI nt))]) hx hb dL_law_226 hl (k := 7) rfl (nI_1 _) (by decide) rfl (fun ls hl => ?_)
      refine lv_goto (tgt := 167) hx hb dL_law_229 (by decide) ?_
      refine W.widen (k := cells + 24 * (mm + 1)) (n := slots + 144 * (mm + 1)) (by omega) (by omega) ?_
      exact ih (mm + 1) (by omega) (by omega) S H1 L1 ls hC hP hD hS (lv_sub hl [1, 2, 3, 4, 5, 6, 7, 0] rfl)
set_option maxHeartbeats 4000000 in
set_option maxRecDepth 100000 in
theorem lw_232 {p : Program} {l : Launch} {e : Env} {s : State} {m : MethodId} {below : List Frame} {meth : Method} {c : Code} {b L : Nat} {xs : Nat → Int32} {dC : Nat → ClassId} {dI : Nat → Nat → Nat} {a : Nat → Nat} {k : Nat → ClassId} {qt : Nat} {kt : ClassId} {tl : Nat → Int32} {qp : Nat} {kp : ClassId} {pl : Nat → Int32} {np ns nt cells slots cE sE : Nat} {Q : State → Prop} (hl9 : l.stackTraces = false) (C0 : LC p s m c b L xs dC dI k kt kp) (hB : BD np ns nt) (h1 : cells + 42016 ≤ cE) (h2 : slots + 252096 ≤ sE) (hc : cE ≤ 200000) (hs : sE ≤ 2000000)  (kk : KD p l e s m below meth c b dC dI a k qt kt tl qp kp pl np ns nt 12 (9 * 12) [] 920 cE sE Q) {S : cs_S} {H : Heap} {locs : List Loc} {ls : Array Slot} (hC : Cp 0 np ns nt 4 3 0 0 0 tl pl S) (hP : va_P (dC, dI) vwCl (cb_w a k S ++ [(qt, .inl (kt, (90, .inl tl))), (qp, .inl (kp, (10, .inl pl)))]) H) (hD : va_D (fun z => s.heap.size ≤ z) (cb_w a k S ++ [(qt, .inl (kt, (90, .inl tl))), (qp, .inl (kp, (10, .inl pl)))])) (hS : va_S (fun z => s.heap.size ≤ z) s.heap H locs) (hl : lv_has ls 19 [(0, .ref b), (1, .ref (a 0)), (2, .int (nI np)), (3, .ref qt), (4, .int (nI ns)), (5, .ref qp), (6, .int (nI nt))]) : W p l e room_1 s m #[Value.ref b] below meth c H locs cells slots Q (F0 m 232 ls []) := by
  have C1 := C0
  obtain ⟨hx, hb, hml, hown, hts, hX, hbl, hL, hK, hE⟩ := C0
  have hbA : ¬ (fun z => s.heap.size ≤ z) b := Nat.not_le.mpr hbl
  have hA : ∀ q : Nat, s.heap.size ≤ q → (fun z => s.heap.size ≤ z) q := fun q h => h
  have hBD := hB
  obtain ⟨hp1, hp6, hn2, hn29, ht1, ht8⟩ := hB
  refine lv_aload_n hx hb dL_law_232 rfl (lv_at hl 1 rfl) ?_
  refine lv_bipush (v := nI 10) hx hb dL_law_233 (by decide) ?_
  have hz := cp_addBadge hC
  have hPc := hP.sub (ws' := (cb_w a k S)) [0, 1, 2, 3, 4, 5, 6, 7, 8, 9, 10, 11, 12, 13, 14, 15, 16, 17, 18, 19] rfl
  have hDc := hD.sub (ws' := (cb_w a k S)) [0, 1, 2, 3, 4, 5, 6, 7, 8, 9, 10, 11, 12, 13, 14, 15, 16, 17, 18, 19] (by decide) rfl
  have hKc := hK.sub (tys' := (cb_ty k)) [0, 1, 2, 3, 4, 5, 6, 7, 8, 9, 10, 11, 12, 13] rfl
  have hF : ∀ z, va_A (cb_w a k S) H.size z → (fun z => s.heap.size ≤ z) z := va_free hD hS hA [0, 1, 2, 3, 4, 5, 6, 7, 8, 9, 10, 11, 12, 13, 14, 15, 16, 17, 18, 19] rfl
  refine vx_calli (vx_runV (As := [.int (nI 10)]) (rest := []) ⟨hx, hb, hml, hown, hts⟩ (c_X5_addBadge l hl9 dC dI a k S H.size (nI 10) hC.1) (cwV 1 hts gL_law_X5_addBadge rfl rfl rfl (by decide +kernel) ⟨(Nat.le_of_ble_eq_true rfl), (Nat.le_of_ble_eq_true rfl)⟩) ⟨cU_blind, va_recv hKc hPc (ci := 5) (q0 := 0) rfl rfl, fun U hU hW => ⟨rfl, cU_of hKc hPc hDc hE hS hU hW hF⟩⟩ rfl rfl hl.1 rfl (lv_room (Nat.le_of_ble_eq_true rfl)) dL_law_235 ⟨(by show cells + 8 ≤ room_1.cells; exact Nat.le_trans (by omega) rm_c), (by show slots + 48 ≤ room_1.slots; exact Nat.le_trans (by omega) rm_s)⟩) hS (fun z _ h => hF z h) hF (fun z _ h => hF z h) (fun E ce q9 u8 t8 H1 L1 ht hvm _ hB hz1 hk1 hS hce hcv hcl => absurd hB.1.1 (by rw [hz.1]; decide)) (fun r9 u8 t8 H1 L1 ht hvm hw hB hz1 hk1 hS => ?_)
  obtain ⟨hP9, -, hD9⟩ := hB
  rw [ht] at hP9
  obtain ⟨hP8, hD8⟩ := va_join (wc := (cb_w a k S)) (wr := [(qt, .inl (kt, (90, .inl tl))), (qp, .inl (kp, (10, .inl pl)))]) hP hD [0, 1, 2, 3, 4, 5, 6, 7, 8, 9, 10, 11, 12, 13, 14, 15, 16, 17, 18, 19] [20, 21] rfl rfl (by decide) (by decide) hk1 hF hP9 hD9
  have hP : va_P (dC, dI) vwCl (cb_w a k (S_addBadge S (nI 10)) ++ [(qt, .inl (kt, (90, .inl tl))), (qp, .inl (kp, (10, .inl pl)))]) H1 := hP8.sub [2, 3, 4, 5, 6, 7, 8, 9, 10, 11, 12, 13, 14, 15, 16, 17, 18, 19, 20, 21, 0, 1] rfl
  have hD : va_D (fun z => s.heap.size ≤ z) (cb_w a k (S_addBadge S (nI 10)) ++ [(qt, .inl (kt, (90, .inl tl))), (qp, .inl (kp, (10, .inl pl)))]) := hD8.sub [2, 3, 4, 5, 6, 7, 8, 9, 10, 11, 12, 13, 14, 15, 16, 17, 18, 19, 20, 21, 0, 1] (by decide) rfl
  obtain ⟨-, hr9⟩ := hw
  subst hr9
  have hC := hz.2
  generalize S_addBadge S (nI 10) = S at hP hD hC
  refine lv_pop hx hb dL_law_238 rfl ?_
  refine lv_aload_n hx hb dL_law_239 rfl (lv_at hl 1 rfl) ?_
  refine lv_iconst (v := nI 0) hx hb dL_law_240 (by decide) ?_
  refine lv_iconst (v := nI 3) hx hb dL_law_241 (by decide) ?_
  refine lv_bipush (v := nI 12) hx hb dL_law_242 (by decide) ?_
  have hz := cp_want hC
  have hPc := hP.sub (ws' := (cb_w a k S)) [0, 1, 2, 3, 4, 5, 6, 7, 8, 9, 10, 11, 12, 13, 14, 15, 16, 17, 18, 19] rfl
  have hDc := hD.sub (ws' := (cb_w a k S)) [0, 1, 2, 3, 4, 5, 6, 7, 8, 9, 10, 11, 12, 13, 14, 15, 16, 17, 18, 19] (by decide) rfl
  have hKc := hK.sub (tys' := (cb_ty k)) [0, 1, 2, 3, 4, 5, 6, 7, 8, 9, 10, 11, 12, 13] rfl
  have hF : ∀ z, va_A (cb_w a k S) H1.size z → (fun z => s.heap.size ≤ z) z := va_free hD hS hA [0, 1, 2, 3, 4, 5, 6, 7, 8, 9, 10, 11, 12, 13, 14, 15, 16, 17, 18, 19] rfl
  refine vx_calli (vx_runV (As := [.int (nI 0), .int (nI 3), .int (nI 12)]) (rest := []) ⟨hx, hb, hml, hown, hts⟩ (c_X5_want l hl9 dC dI a k S H1.size (nI 0) (nI 3) (nI 12) hC.1) (cwV 3 hts gL_law_X5_want rfl rfl rfl (by decide +kernel) ⟨(Nat.le_of_ble_eq_true rfl), (Nat.le_of_ble_eq_true rfl)⟩) ⟨cU_blind, va_recv hKc hPc (ci := 5) (q0 := 0) rfl rfl, fun U hU hW => ⟨rfl, cU_of hKc hPc hDc hE hS hU hW hF⟩⟩ rfl rfl hl.1 rfl (lv_room (Nat.le_of_ble_eq_true rfl)) dL_law_244 ⟨(by show (cells + 8) + 8 ≤ room_1.cells; exact Nat.le_trans (by omega) rm_c), (by show (slots + 48) + 48 ≤ room_1.slots; exact Nat.le_trans (by omega) rm_s)⟩) hS (fun z _ h => hF z h) hF (fun z _ h => hF z h) (fun E ce q9 u8 t8 H1 L1 ht hvm _ hB hz1 hk1 hS hce hcv hcl => absurd hB.1.1 (by rw [hz.1]; decide)) (fun r9 u8 t8 H1 L1 ht hvm hw hB hz1 hk1 hS => ?_)
  obtain ⟨hP9, -, hD9⟩ := hB
  rw [ht] at hP9
  obtain ⟨hP8, hD8⟩ := va_join (wc := (cb_w a k S)) (wr := [(qt, .inl (kt, (90, .inl tl))), (qp, .inl (kp, (10, .inl pl)))]) hP hD [0, 1, 2, 3, 4, 5, 6, 7, 8, 9, 10, 11, 12, 13, 14, 15, 16, 17, 18, 19] [20, 21] rfl rfl (by decide) (by decide) hk1 hF hP9 hD9
  have hP : va_P (dC, dI) vwCl (cb_w a k (S_want S (nI 0) (nI 3) (nI 12)) ++ [(qt, .inl (kt, (90, .inl tl))), (qp, .inl (kp, (10, .inl pl)))]) H1 := hP8.sub [2, 3, 4, 5, 6, 7, 8, 9, 10, 11, 12, 13, 14, 15, 16, 17, 18, 19, 20, 21, 0, 1] rfl
  have hD : va_D (fun z => s.heap.size ≤ z) (cb_w a k (S_want S (nI 0) (nI 3) (nI 12)) ++ [(qt, .inl (kt, (90, .inl tl))), (qp, .inl (kp, (10, .inl pl)))]) := hD8.sub [2, 3, 4, 5, 6, 7, 8, 9, 10, 11, 12, 13, 14, 15, 16, 17, 18, 19, 20, 21, 0, 1] (by decide) rfl
  obtain ⟨-, hr9⟩ := hw
  subst hr9
  have hC := hz.2
  generalize S_want S (nI 0) (nI 3) (nI 12) = S at hP hD hC
  refine lv_pop hx hb dL_law_247 rfl ?_
  refine lv_iconst (v := nI 0) hx hb dL_law_248 (by decide) ?_
  refine lv_istore (lv' := [(7, .int (nI 0)), (0, .ref b), (1, .ref (a 0)), (2, .int (nI np)), (3, .ref qt), (4, .int (nI ns)), (5, .ref qp), (6, .int (nI nt))]) hx hb dL_law_249 hl (by decide) rfl (fun ls hl => ?_)
  refine W.widen (k := ((cells + 8) + 8) + 3500 * 0) (n := ((slots + 48) + 48) + 21000 * 0) (by omega) (by omega) ?_
  exact lw_days (dy := 0) (hq := 0) (cells := ((cells + 8) + 8)) (slots := ((slots + 48) + 48)) (cE := cE) (sE := sE) hl9 C1 hBD (by omega) (by omega) (by omega) (by omega) kk 13 0 (by omega) (by omega) S H1 L1 ls hC hP hD hS (lv_sub hl [1, 2, 3, 4, 5, 6, 7, 0] rfl)
set_option maxHeartbeats 4000000 in
set_option maxRecDepth 100000 in
theorem lw_164 {p : Program} {l : Launch} {e : Env} {s : State} {m : MethodId} {below : List Frame} {meth : Method} {c : Code} {b L : Nat} {xs : Nat → Int32} {dC : Nat → ClassId} {dI : Nat → Nat → Nat} {a : Nat → Nat} {k : Nat → ClassId} {qt : Nat} {kt : ClassId} {tl : Nat → Int32} {qp : Nat} {kp : ClassId} {pl : Nat → Int32} {np ns nt cells slots cE sE : Nat} {Q : State → Prop} (hl9 : l.stackTraces = false) (C0 : LC p s m c b L xs dC dI k kt kp) (hB : BD np ns nt) (h1 : cells + 42088 ≤ cE) (h2 : slots + 252528 ≤ sE) (hc : cE ≤ 200000) (hs : sE ≤ 2000000)  (kk : KD p l e s m below meth c b dC dI a k qt kt tl qp kp pl np ns nt 12 (9 * 12) [] 920 cE sE Q) {S : cs_S} {H : Heap} {locs : List Loc} {ls : Array Slot} (hC : Cp 0 np ns nt 4 0 0 0 0 tl pl S) (hP : va_P (dC, dI) vwCl (cb_w a k S ++ [(qt, .inl (kt, (90, .inl tl))), (qp, .inl (kp, (10, .inl pl)))]) H) (hD : va_D (fun z => s.heap.size ≤ z) (cb_w a k S ++ [(qt, .inl (kt, (90, .inl tl))), (qp, .inl (kp, (10, .inl pl)))])) (hS : va_S (fun z => s.heap.size ≤ z) s.heap H locs) (hl : lv_has ls 19 [(0, .ref b), (1, .ref (a 0)), (2, .int (nI np)), (3, .ref qt), (4, .int (nI ns)), (5, .ref qp), (6, .int (nI nt))]) : W p l e room_1 s m #[Value.ref b] below meth c H locs cells slots Q (F0 m 164 ls []) := by
  have C1 := C0
  obtain ⟨hx, hb, hml, hown, hts, hX, hbl, hL, hK, hE⟩ := C0
  have hbA : ¬ (fun z => s.heap.size ≤ z) b := Nat.not_le.mpr hbl
  have hA : ∀ q : Nat, s.heap.size ≤ q → (fun z => s.heap.size ≤ z) q := fun q h => h
  have hBD := hB
  obtain ⟨hp1, hp6, hn2, hn29, ht1, ht8⟩ := hB
  refine lv_iconst (v := nI 0) hx hb dL_law_164 (by decide) ?_
  refine lv_istore (lv' := [(7, .int (nI 0)), (0, .ref b), (1, .ref (a 0)), (2, .int (nI np)), (3, .ref qt), (4, .int (nI ns)), (5, .ref qp), (6, .int (nI nt))]) hx hb dL_law_165 hl (by decide) rfl (fun ls hl => ?_)
  refine W.widen (k := cells + 24 * 0) (n := slots + 144 * 0) (by omega) (by omega) ?_
  exact lp_m0 (cells := cells) (slots := slots) (cE := cells + 72) (sE := slots + 432) hl9 C1 hBD (by omega) (by omega) (by omega) (by omega) (fun S H locs ls hC hP hD hS hl => lw_232 (cells := cells + 72) (slots := slots + 432) (cE := cE) (sE := sE) hl9 C1 hBD (by omega) (by omega) (by omega) (by omega) kk hC hP hD hS hl) (3 + 1) 0 (by omega) (by omega) S H locs ls hC hP hD hS (lv_sub hl [1, 2, 3, 4, 5, 6, 7, 0] rfl)
set_option maxHeartbeats 4000000 in
set_option maxRecDepth 100000 in
theorem lw_127 {p : Program} {l : Launch} {e : Env} {s : State} {m : MethodId} {below : List Frame} {meth : Method} {c : Code} {b L : Nat} {xs : Nat → Int32} {dC : Nat → ClassId} {dI : Nat → Nat → Nat} {a : Nat → Nat} {k : Nat → ClassId} {qt : Nat} {kt : ClassId} {tl : Nat → Int32} {qp : Nat} {kp : ClassId} {pl : Nat → Int32} {np ns nt cells slots cE sE : Nat} {Q : State → Prop} (hl9 : l.stackTraces = false) (C0 : LC p s m c b L xs dC dI k kt kp) (hB : BD np ns nt) (h1 : cells + 42120 ≤ cE) (h2 : slots + 252720 ≤ sE) (hc : cE ≤ 200000) (hs : sE ≤ 2000000)  (kk : KD p l e s m below meth c b dC dI a k qt kt tl qp kp pl np ns nt 12 (9 * 12) [] 920 cE sE Q) {S : cs_S} {H : Heap} {locs : List Loc} {ls : Array Slot} (hC : Cp 0 np ns nt 0 0 0 0 0 tl pl S) (hP : va_P (dC, dI) vwCl (cb_w a k S ++ [(qt, .inl (kt, (90, .inl tl))), (qp, .inl (kp, (10, .inl pl)))]) H) (hD : va_D (fun z => s.heap.size ≤ z) (cb_w a k S ++ [(qt, .inl (kt, (90, .inl tl))), (qp, .inl (kp, (10, .inl pl)))])) (hS : va_S (fun z => s.heap.size ≤ z) s.heap H locs) (hl : lv_has ls 19 [(0, .ref b), (1, .ref (a 0)), (2, .int (nI np)), (3, .ref qt), (4, .int (nI ns)), (5, .ref qp), (6, .int (nI nt))]) : W p l e room_1 s m #[Value.ref b] below meth c H locs cells slots Q (F0 m 127 ls []) := by
  have C1 := C0
  obtain ⟨hx, hb, hml, hown, hts, hX, hbl, hL, hK, hE⟩ := C0
  have hbA : ¬ (fun z => s.heap.size ≤ z) b := Nat.not_le.mpr hbl
  have hA : ∀ q : Nat, s.heap.size ≤ q → (fun z => s.heap.size ≤ z) q := fun q h => h
  have hBD := hB
  obtain ⟨hp1, hp6, hn2, hn29, ht1, ht8⟩ := hB
  refine lv_iconst (v := nI 0) hx hb dL_law_127 (by decide) ?_
  refine lv_istore (lv' := [(7, .int (nI 0)), (0, .ref b), (1, .ref (a 0)), (2, .int (nI np)), (3, .ref qt), (4, .int (nI ns)), (5, .ref qp), (6, .int (nI nt))]) hx hb dL_law_128 hl (by decide) rfl (fun ls hl => ?_)
  refine W.widen (k := cells + 8 * 0) (n := slots + 48 * 0) (by omega) (by omega) ?_
  exact lp_f0 (cells := cells) (slots := slots) (cE := cells + 32) (sE := slots + 192) hl9 C1 hBD (by omega) (by omega) (by omega) (by omega) (fun S H locs ls hC hP hD hS hl => lw_164 (cells := cells + 32) (slots := slots + 192) (cE := cE) (sE := sE) hl9 C1 hBD (by omega) (by omega) (by omega) (by omega) kk hC hP hD hS hl) (4 + 1) 0 (by omega) (by omega) S H locs ls hC hP hD hS (lv_sub hl [1, 2, 3, 4, 5, 6, 7, 0] rfl)
end CBV8
