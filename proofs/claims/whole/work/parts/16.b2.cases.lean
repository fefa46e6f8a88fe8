section CBY2
theorem kb_addMeal {S : cs_S}  : k_addMeal S < 4 := by unfold k_addMeal; (repeat' split) <;> decide
set_option maxHeartbeats 4000000 in
set_option maxRecDepth 100000 in
theorem lc_addMeal {p : Program} {l : Launch} {e : Env} {s : State} {m : MethodId} {below : List Frame} {meth : Method} {c : Code} {b L : Nat} {xs : Nat → Int32} {dC : Nat → ClassId} {dI : Nat → Nat → Nat} {a : Nat → Nat} {k : Nat → ClassId} {am : Nat → Nat} {km : Nat → ClassId} {q : Nat} {kq : ClassId} (hl9 : l.stackTraces = false) (C0 : LC p s m c b L xs dC dI k km kq) {S : cs_S} {th : Nat} {f : Nat → Int64} {H : Heap} {locs : List Loc} {j : Nat} {ls : Array Slot} {cells slots : Nat} {Q : State → Prop} (hI : Inv S) (hP : va_P (dC, dI) vwCl (cb_w a k S ++ (mb_w am km S th ++ [(q, .inl (kq, (1, .inr (.inl (f)))))])) H) (hD : va_D (fun z => s.heap.size ≤ z) (cb_w a k S ++ (mb_w am km S th ++ [(q, .inl (kq, (1, .inr (.inl (f)))))]))) (hS : va_S (fun z => s.heap.size ≤ z) s.heap H locs) (hj : 5 * j + 5 ≤ L) (hl : lv_has ls 9 [(0, .ref b), (1, .ref (a 0)), (2, .ref (am 0)), (3, .ref q), (4, .int (nI (5 * j)))]) (hc : cells + 231 ≤ 200000) (hs : slots + 1597 ≤ 2000000) (kk : KK p l e s m below meth c b dC dI a k am km q kq j cells slots Q) : W p l e room_1 s m #[Value.ref b] below meth c H locs cells slots Q (F0 m 1120 ls []) := by
  obtain ⟨hx, hb, hml, hown, hts, hX, hbl, hL, hK, hE⟩ := C0
  have hbA : ¬ (fun z => s.heap.size ≤ z) b := Nat.not_le.mpr hbl
  have hA : ∀ z : Nat, s.heap.size ≤ z → (fun z => s.heap.size ≤ z) z := fun _ h => h
  refine lv_aload_n hx hb dL_law_1120 rfl (lv_at hl 1 rfl) ?_
  refine lv_aload_n hx hb dL_law_1121 rfl (lv_at hl 3 rfl) ?_
  have hPc := hP.sub (ws' := (cb_w a k S ++ [(q, .inl (kq, (1, .inr (.inl (f)))))])) [0, 1, 2, 3, 4, 5, 6, 7, 8, 9, 10, 11, 12, 13, 14, 15, 16, 17, 18, 19, 35] rfl
  have hDc := hD.sub (ws' := (cb_w a k S ++ [(q, .inl (kq, (1, .inr (.inl (f)))))])) [0, 1, 2, 3, 4, 5, 6, 7, 8, 9, 10, 11, 12, 13, 14, 15, 16, 17, 18, 19, 35] (by decide) rfl
  have hKc := hK.sub (tys' := (cb_ty k ++ [(kq, .long)])) [0, 1, 2, 3, 4, 5, 6, 7, 8, 9, 10, 11, 12, 13, 28] rfl
  have hF : ∀ z, va_A (cb_w a k S ++ [(q, .inl (kq, (1, .inr (.inl (f)))))]) H.size z → s.heap.size ≤ z := va_free hD hS hA [0, 1, 2, 3, 4, 5, 6, 7, 8, 9, 10, 11, 12, 13, 14, 15, 16, 17, 18, 19, 35] rfl
  refine va_calli (vx_runSW (As := [.ref (a 0), .ref q]) (rest := []) ⟨hx, hb, hml, hown, hts⟩ (c_L_addMeal l hl9 dC dI a k S q kq f H.size  hI) (vx_cwSW 2 hts gL_law_L_addMeal rfl rfl rfl (by decide +kernel) ⟨(Nat.le_of_ble_eq_true rfl), (Nat.le_of_ble_eq_true rfl)⟩) ⟨cV_blind, fun U hU hW => ⟨rfl, cV_of hKc hPc hDc hE hS hU hW hF⟩⟩ rfl rfl hl.1 rfl (lv_room (Nat.le_of_ble_eq_true rfl)) dL_law_1122 ⟨(by show cells + 8 ≤ room_1.cells; exact Nat.le_trans (by omega) rm_c), (by show slots + 48 ≤ room_1.slots; exact Nat.le_trans (by omega) rm_s)⟩) hS (fun z _ h => hF z h) hF (fun r8 f8 t8 H1 L1 ht hvm hw hB hz1 hk1 hS => ?_)
  obtain ⟨hr8, hf8⟩ := hw
  subst hr8
  obtain ⟨hP9, -, hD9⟩ := hB
  rw [ht] at hP9
  obtain ⟨hP8, hD8⟩ := va_join (wc := (cb_w a k S ++ [(q, .inl (kq, (1, .inr (.inl (f)))))])) (wr := (mb_w am km S th)) hP hD [0, 1, 2, 3, 4, 5, 6, 7, 8, 9, 10, 11, 12, 13, 14, 15, 16, 17, 18, 19, 35] [20, 21, 22, 23, 24, 25, 26, 27, 28, 29, 30, 31, 32, 33, 34] rfl rfl (by decide) (by decide) hk1 hF hP9 hD9
  have hP : va_P (dC, dI) vwCl (cb_w a k (kS (k_addMeal S) (S_addMeal S) S) ++ (mb_w am km S th ++ [(q, .inl (kq, (1, .inr (.inl (f8)))))])) H1 := hP8.sub [15, 16, 17, 18, 19, 20, 21, 22, 23, 24, 25, 26, 27, 28, 29, 30, 31, 32, 33, 34, 0, 1, 2, 3, 4, 5, 6, 7, 8, 9, 10, 11, 12, 13, 14, 35] rfl
  have hD : va_D (fun z => s.heap.size ≤ z) (cb_w a k (kS (k_addMeal S) (S_addMeal S) S) ++ (mb_w am km S th ++ [(q, .inl (kq, (1, .inr (.inl (f8)))))])) := hD8.sub [15, 16, 17, 18, 19, 20, 21, 22, 23, 24, 25, 26, 27, 28, 29, 30, 31, 32, 33, 34, 0, 1, 2, 3, 4, 5, 6, 7, 8, 9, 10, 11, 12, 13, 14, 35] (by decide) rfl
  refine lv_istore (lv' := [(5, .int (nI (k_addMeal S))), (0, .ref b), (1, .ref (a 0)), (2, .ref (am 0)), (3, .ref q), (4, .int (nI (5 * j)))]) hx hb dL_law_1125 hl (by decide) rfl (fun ls hl => ?_)
  refine lv_aload_n hx hb dL_law_1127 rfl (lv_at hl 3 rfl) ?_
  have hPc := hP.sub (ws' := (mb_w am km S th)) [20, 21, 22, 23, 24, 25, 26, 27, 28, 29, 30, 31, 32, 33, 34] rfl
  have hDc := hD.sub (ws' := (mb_w am km S th)) [20, 21, 22, 23, 24, 25, 26, 27, 28, 29, 30, 31, 32, 33, 34] (by decide) rfl
  have hKc := hK.sub (tys' := (mb_ty km)) [14, 15, 16, 17, 18, 19, 20, 21, 22, 23, 24, 25, 26, 27] rfl
  have hF : ∀ z, va_A (mb_w am km S th) H1.size z → s.heap.size ≤ z := va_free hD hS hA [20, 21, 22, 23, 24, 25, 26, 27, 28, 29, 30, 31, 32, 33, 34] rfl
  refine va_calli (va_runV (As := []) (rest := []) ⟨hx, hb, hml, hown, hts⟩ (c_X6_addMeal l dC dI am km S th H1.size hI) (cwV 0 hts gL_law_X6_addMeal rfl rfl rfl (by decide +kernel) ⟨(Nat.le_of_ble_eq_true rfl), (Nat.le_of_ble_eq_true rfl)⟩) ⟨cT_blind, va_recv hKc hPc (ci := 6) (q0 := 0) rfl rfl, fun U hU hW => ⟨rfl, cT_of hKc hPc hDc hU hW⟩⟩ rfl rfl hl.1 rfl (lv_room (Nat.le_of_ble_eq_true rfl)) dL_law_1128 ⟨(by show (cells + 8) + 0 ≤ room_1.cells; exact Nat.le_trans (by omega) rm_c), (by show (slots + 48) + 0 ≤ room_1.slots; exact Nat.le_trans (by omega) rm_s)⟩) hS (fun z _ h => hF z h) hF (fun r9 u9 t9 H2 L2 ht hvm hr9 hB hz1 hk1 hS => ?_)
  obtain ⟨hP9, -, hD9⟩ := hB
  rw [ht] at hP9
  obtain ⟨hP8, hD8⟩ := va_join (wc := (mb_w am km S th)) (wr := ((cb_w a k (kS (k_addMeal S) (S_addMeal S) S)) ++ [(q, .inl (kq, (1, .inr (.inl (f8)))))])) hP hD [20, 21, 22, 23, 24, 25, 26, 27, 28, 29, 30, 31, 32, 33, 34] [0, 1, 2, 3, 4, 5, 6, 7, 8, 9, 10, 11, 12, 13, 14, 15, 16, 17, 18, 19, 35] rfl rfl (by decide) (by decide) hk1 hF hP9 hD9
  have hP : va_P (dC, dI) vwCl (cb_w a k (kS (k_addMeal S) (S_addMeal S) S) ++ (mb_w am km (kS (k_addMeal S) (S_addMeal S) S) (k_addMeal S) ++ [(q, .inl (kq, (1, .inr (.inl (f8)))))])) H2 := hP8.sub [0, 1, 2, 3, 4, 5, 6, 7, 8, 9, 10, 11, 12, 13, 14, 15, 16, 17, 18, 19, 21, 22, 23, 24, 25, 26, 27, 28, 29, 30, 31, 32, 33, 34, 35, 20] rfl
  have hD : va_D (fun z => s.heap.size ≤ z) (cb_w a k (kS (k_addMeal S) (S_addMeal S) S) ++ (mb_w am km (kS (k_addMeal S) (S_addMeal S) S) (k_addMeal S) ++ [(q, .inl (kq, (1, .inr (.inl (f8)))))])) := hD8.sub [0, 1, 2, 3, 4, 5, 6, 7, 8, 9, 10, 11, 12, 13, 14, 15, 16, 17, 18, 19, 21, 22, 23, 24, 25, 26, 27, 28, 29, 30, 31, 32, 33, 34, 35, 20] (by decide) rfl
  refine lv_istore (lv' := [(6, .int r9), (5, .int (nI (k_addMeal S))), (0, .ref b), (1, .ref (a 0)), (2, .ref (am 0)), (3, .ref q), (4, .int (nI (5 * j)))]) hx hb dL_law_1131 hl (by decide) rfl (fun ls hl => ?_)
  refine lv_aload_n hx hb dL_law_1133 rfl (lv_at hl 4 rfl) ?_
  have hPc := hP.sub (ws' := (mb_w am km (kS (k_addMeal S) (S_addMeal S) S) (k_addMeal S))) [20, 21, 22, 23, 24, 25, 26, 27, 28, 29, 30, 31, 32, 33, 34] rfl
  have hDc := hD.sub (ws' := (mb_w am km (kS (k_addMeal S) (S_addMeal S) S) (k_addMeal S))) [20, 21, 22, 23, 24, 25, 26, 27, 28, 29, 30, 31, 32, 33, 34] (by decide) rfl
  have hKc := hK.sub (tys' := (mb_ty km)) [14, 15, 16, 17, 18, 19, 20, 21, 22, 23, 24, 25, 26, 27] rfl
  refine vp_callSi (W.runV (As := []) (rest := []) ⟨hx, hb, hml, hown, hts⟩ (c_X6_thrown l dC dI am km (kS (k_addMeal S) (S_addMeal S) S) (k_addMeal S)) (cwV 0 hts gL_law_X6_thrown rfl rfl rfl (by decide +kernel) ⟨(Nat.le_of_ble_eq_true rfl), (Nat.le_of_ble_eq_true rfl)⟩) ⟨cR_blind, va_recv hKc hPc (ci := 6) (q0 := 0) rfl rfl, fun U hU hW => ⟨rfl, cR_of hKc hPc hU hW⟩⟩ rfl rfl hl.1 rfl (lv_room (Nat.le_of_ble_eq_true rfl)) dL_law_1134 ⟨(by show ((cells + 8) + 0) + 0 ≤ room_1.cells; exact Nat.le_trans (by omega) rm_c), (by show ((slots + 48) + 0) + 0 ≤ room_1.slots; exact Nat.le_trans (by omega) rm_s)⟩) (fun r er => ?_)
  subst er
  refine lv_iload hx hb dL_law_1137 (lv_at hl 1 rfl) ?_
  refine lv_icmp_eq (tgt := 1144) hx hb dL_law_1139 (by decide) (fun c_1139 => ?_) (fun c_1139 => ?_)
  · skip
    refine lv_iload hx hb dL_law_1144 (lv_at hl 1 rfl) ?_
    refine lv_if_ne (tgt := 1161) hx hb dL_law_1146 (by decide) (fun c_1146 => ?_) (fun c_1146 => ?_)
    · skip
      refine lv_goto (tgt := 2067) hx hb dL_law_1161 (by decide) ?_
      refine W.widen (k := cells + 231) (n := slots + 1597) (by omega) (by omega) ?_
      exact kk (kS (k_addMeal S) (S_addMeal S) S) (k_addMeal S) f8 H2 _ ls (inv_kS hI (fun h9 => inv_addMeal hI h9)) hP hD hS (lv_sub hl [2, 3, 4, 5, 6] rfl)
    · skip
      have h0 := kz kb_addMeal c_1146
      refine lv_aload_n hx hb dL_law_1149 rfl (lv_at hl 5 rfl) ?_
      refine lv_iconst (v := nI 0) hx hb dL_law_1150 (by decide) ?_
      refine cb_lald hx hb hK hP 35 28 (f := f8) rfl rfl (j := 0) (by omega) (Nat.le_of_ble_eq_true rfl) dL_law_1151 ?_
      refine lv_iload hx hb dL_law_1152 (lv_at hl 0 rfl) ?_
      refine lv_i2l hx hb dL_law_1154 rfl ?_
      refine W.lcmp hx hb dL_law_1155 ?_
      refine lv_if_eq (tgt := 1161) hx hb dL_law_1156 (by decide) (fun c_1156 => ?_) (fun c_1156 => ?_)
      · have c_1156 : (f8 0) = r9.toInt64 := lg_cmp_t c_1156
        refine lv_goto (tgt := 2067) hx hb dL_law_1161 (by decide) ?_
        refine W.widen (k := cells + 231) (n := slots + 1597) (by omega) (by omega) ?_
        exact kk (kS (k_addMeal S) (S_addMeal S) S) (k_addMeal S) f8 H2 _ ls (inv_kS hI (fun h9 => inv_addMeal hI h9)) hP hD hS (lv_sub hl [2, 3, 4, 5, 6] rfl)
      · have c_1156 : ¬ (f8 0) = r9.toInt64 := lg_cmp_f c_1156
        exact absurd (by rw [hf8 h0, hr9 h0]) c_1156
  · skip
    exact absurd rfl c_1139
theorem kb_need {S : cs_S} {x0 : Int32} {x1 : Int32} {x2 : Int32} : k_need S x0 x1 x2 < 4 := by unfold k_need; (repeat' split) <;> decide
set_option maxHeartbeats 4000000 in
set_option maxRecDepth 100000 in
theorem lc_need {p : Program} {l : Launch} {e : Env} {s : State} {m : MethodId} {below : List Frame} {meth : Method} {c : Code} {b L : Nat} {xs : Nat → Int32} {dC : Nat → ClassId} {dI : Nat → Nat → Nat} {a : Nat → Nat} {k : Nat → ClassId} {am : Nat → Nat} {km : Nat → ClassId} {q : Nat} {kq : ClassId} (hl9 : l.stackTraces = false) (C0 : LC p s m c b L xs dC dI k km kq) {S : cs_S} {th : Nat} {f : Nat → Int64} {H : Heap} {locs : List Loc} {j : Nat} {ls : Array Slot} {cells slots : Nat} {Q : State → Prop} (hI : Inv S) (hP : va_P (dC, dI) vwCl (cb_w a k S ++ (mb_w am km S th ++ [(q, .inl (kq, (1, .inr (.inl (f)))))])) H) (hD : va_D (fun z => s.heap.size ≤ z) (cb_w a k S ++ (mb_w am km S th ++ [(q, .inl (kq, (1, .inr (.inl (f)))))]))) (hS : va_S (fun z => s.heap.size ≤ z) s.heap H locs) (hj : 5 * j + 5 ≤ L) (hl : lv_has ls 9 [(0, .ref b), (1, .ref (a 0)), (2, .ref (am 0)), (3, .ref q), (4, .int (nI (5 * j)))]) (hc : cells + 231 ≤ 200000) (hs : slots + 1597 ≤ 2000000) (kk : KK p l e s m below meth c b dC dI a k am km q kq j cells slots Q) : W p l e room_1 s m #[Value.ref b] below meth c H locs cells slots Q (F0 m 1164 ls []) := by
  obtain ⟨hx, hb, hml, hown, hts, hX, hbl, hL, hK, hE⟩ := C0
  have hbA : ¬ (fun z => s.heap.size ≤ z) b := Nat.not_le.mpr hbl
  have hA : ∀ z : Nat, s.heap.size ≤ z → (fun z => s.heap.size ≤ z) z := fun _ h => h
  refine lv_aload_n hx hb dL_law_1164 rfl (lv_at hl 1 rfl) ?_
  refine lv_aload_n hx hb dL_law_1165 rfl (lv_at hl 0 rfl) ?_
  refine lv_iload hx hb dL_law_1166 (lv_at hl 4 rfl) ?_
  refine lv_iconst (v := nI 1) hx hb dL_law_1168 (by decide) ?_
  refine lv_iadd hx hb dL_law_1169 ?_
  refine cb_topi (nI_add _ _) ?_
  refine va_sld hx hb hX hbl hbA hS (i := nI ((5 * j) + 1)) (vp_in_nI (show (5 * j) + 1 < L by omega) (by omega)) dL_law_1170 ?_
  refine cb_topi (z := xs ((5 * j) + 1)) (congrArg xs (tn (by omega))) ?_
  refine lv_aload_n hx hb dL_law_1171 rfl (lv_at hl 0 rfl) ?_
  refine lv_iload hx hb dL_law_1172 (lv_at hl 4 rfl) ?_
  refine lv_iconst (v := nI 2) hx hb dL_law_1174 (by decide) ?_
  refine lv_iadd hx hb dL_law_1175 ?_
  refine cb_topi (nI_add _ _) ?_
  refine va_sld hx hb hX hbl hbA hS (i := nI ((5 * j) + 2)) (vp_in_nI (show (5 * j) + 2 < L by omega) (by omega)) dL_law_1176 ?_
  refine cb_topi (z := xs ((5 * j) + 2)) (congrArg xs (tn (by omega))) ?_
  refine lv_aload_n hx hb dL_law_1177 rfl (lv_at hl 0 rfl) ?_
  refine lv_iload hx hb dL_law_1178 (lv_at hl 4 rfl) ?_
  refine lv_iconst (v := nI 3) hx hb dL_law_1180 (by decide) ?_
  refine lv_iadd hx hb dL_law_1181 ?_
  refine cb_topi (nI_add _ _) ?_
  refine va_sld hx hb hX hbl hbA hS (i := nI ((5 * j) + 3)) (vp_in_nI (show (5 * j) + 3 < L by omega) (by omega)) dL_law_1182 ?_
  refine cb_topi (z := xs ((5 * j) + 3)) (congrArg xs (tn (by omega))) ?_
  refine lv_aload_n hx hb dL_law_1183 rfl (lv_at hl 3 rfl) ?_
  have hPc := hP.sub (ws' := (cb_w a k S ++ [(q, .inl (kq, (1, .inr (.inl (f)))))])) [0, 1, 2, 3, 4, 5, 6, 7, 8, 9, 10, 11, 12, 13, 14, 15, 16, 17, 18, 19, 35] rfl
  have hDc := hD.sub (ws' := (cb_w a k S ++ [(q, .inl (kq, (1, .inr (.inl (f)))))])) [0, 1, 2, 3, 4, 5, 6, 7, 8, 9, 10, 11, 12, 13, 14, 15, 16, 17, 18, 19, 35] (by decide) rfl
  have hKc := hK.sub (tys' := (cb_ty k ++ [(kq, .long)])) [0, 1, 2, 3, 4, 5, 6, 7, 8, 9, 10, 11, 12, 13, 28] rfl
  have hF : ∀ z, va_A (cb_w a k S ++ [(q, .inl (kq, (1, .inr (.inl (f)))))]) H.size z → s.heap.size ≤ z := va_free hD hS hA [0, 1, 2, 3, 4, 5, 6, 7, 8, 9, 10, 11, 12, 13, 14, 15, 16, 17, 18, 19, 35] rfl
  refine va_calli (vx_runSW (As := [.ref (a 0), .int (xs ((5 * j) + 1)), .int (xs ((5 * j) + 2)), .int (xs ((5 * j) + 3)), .ref q]) (rest := []) ⟨hx, hb, hml, hown, hts⟩ (c_L_need l hl9 dC dI a k S q kq f H.size (xs ((5 * j) + 1)) (xs ((5 * j) + 2)) (xs ((5 * j) + 3)) hI) (vx_cwSW 5 hts gL_law_L_need rfl rfl rfl (by decide +kernel) ⟨(Nat.le_of_ble_eq_true rfl), (Nat.le_of_ble_eq_true rfl)⟩) ⟨cV_blind, fun U hU hW => ⟨rfl, cV_of hKc hPc hDc hE hS hU hW hF⟩⟩ rfl rfl hl.1 rfl (lv_room (Nat.le_of_ble_eq_true rfl)) dL_law_1184 ⟨(by show cells + 8 ≤ room_1.cells; exact Nat.le_trans (by omega) rm_c), (by show slots + 48 ≤ room_1.slots; exact Nat.le_trans (by omega) rm_s)⟩) hS (fun z _ h => hF z h) hF (fun r8 f8 t8 H1 L1 ht hvm hw hB hz1 hk1 hS => ?_)
  obtain ⟨hr8, hf8⟩ := hw
  subst hr8
  obtain ⟨hP9, -, hD9⟩ := hB
  rw [ht] at hP9
  obtain ⟨hP8, hD8⟩ := va_join (wc := (cb_w a k S ++ [(q, .inl (kq, (1, .inr (.inl (f)))))])) (wr := (mb_w am km S th)) hP hD [0, 1, 2, 3, 4, 5, 6, 7, 8, 9, 10, 11, 12, 13, 14, 15, 16, 17, 18, 19, 35] [20, 21, 22, 23, 24, 25, 26, 27, 28, 29, 30, 31, 32, 33, 34] rfl rfl (by decide) (by decide) hk1 hF hP9 hD9
  have hP : va_P (dC, dI) vwCl (cb_w a k (kS (k_need S (xs ((5 * j) + 1)) (xs ((5 * j) + 2)) (xs ((5 * j) + 3))) (S_need S (xs ((5 * j) + 1)) (xs ((5 * j) + 2)) (xs ((5 * j) + 3))) S) ++ (mb_w am km S th ++ [(q, .inl (kq, (1, .inr (.inl (f8)))))])) H1 := hP8.sub [15, 16, 17, 18, 19, 20, 21, 22, 23, 24, 25, 26, 27, 28, 29, 30, 31, 32, 33, 34, 0, 1, 2, 3, 4, 5, 6, 7, 8, 9, 10, 11, 12, 13, 14, 35] rfl
  have hD : va_D (fun z => s.heap.size ≤ z) (cb_w a k (kS (k_need S (xs ((5 * j) + 1)) (xs ((5 * j) + 2)) (xs ((5 * j) + 3))) (S_need S (xs ((5 * j) + 1)) (xs ((5 * j) + 2)) (xs ((5 * j) + 3))) S) ++ (mb_w am km S th ++ [(q, .inl (kq, (1, .inr (.inl (f8)))))])) := hD8.sub [15, 16, 17, 18, 19, 20, 21, 22, 23, 24, 25, 26, 27, 28, 29, 30, 31, 32, 33, 34, 0, 1, 2, 3, 4, 5, 6, 7, 8, 9, 10, 11, 12, 13, 14, 35] (by decide) rfl
  refine lv_istore (lv' := [(5, .int (nI (k_need S (xs ((5 * j) + 1)) (xs ((5 * j) + 2)) (xs ((5 * j) + 3))))), (0, .ref b), (1, .ref (a 0)), (2, .ref (am 0)), (3, .ref q), (4, .int (nI (5 * j)))]) hx hb dL_law_1187 hl (by decide) rfl (fun ls hl => ?_)
  refine lv_aload_n hx hb dL_law_1189 rfl (lv_at hl 3 rfl) ?_
  refine lv_aload_n hx hb dL_law_1190 rfl (lv_at hl 1 rfl) ?_
  refine lv_iload hx hb dL_law_1191 (lv_at hl 5 rfl) ?_
  refine lv_iconst (v := nI 1) hx hb dL_law_1193 (by decide) ?_
  refine lv_iadd hx hb dL_law_1194 ?_
  refine cb_topi (nI_add _ _) ?_
  refine va_sld hx hb hX hbl hbA hS (i := nI ((5 * j) + 1)) (vp_in_nI (show (5 * j) + 1 < L by omega) (by omega)) dL_law_1195 ?_
  refine cb_topi (z := xs ((5 * j) + 1)) (congrArg xs (tn (by omega))) ?_
  refine lv_aload_n hx hb dL_law_1196 rfl (lv_at hl 1 rfl) ?_
  refine lv_iload hx hb dL_law_1197 (lv_at hl 5 rfl) ?_
  refine lv_iconst (v := nI 2) hx hb dL_law_1199 (by decide) ?_
  refine lv_iadd hx hb dL_law_1200 ?_
  refine cb_topi (nI_add _ _) ?_
  refine va_sld hx hb hX hbl hbA hS (i := nI ((5 * j) + 2)) (vp_in_nI (show (5 * j) + 2 < L by omega) (by omega)) dL_law_1201 ?_
  refine cb_topi (z := xs ((5 * j) + 2)) (congrArg xs (tn (by omega))) ?_
  refine lv_aload_n hx hb dL_law_1202 rfl (lv_at hl 1 rfl) ?_
  refine lv_iload hx hb dL_law_1203 (lv_at hl 5 rfl) ?_
  refine lv_iconst (v := nI 3) hx hb dL_law_1205 (by decide) ?_
  refine lv_iadd hx hb dL_law_1206 ?_
  refine cb_topi (nI_add _ _) ?_
  refine va_sld hx hb hX hbl hbA hS (i := nI ((5 * j) + 3)) (vp_in_nI (show (5 * j) + 3 < L by omega) (by omega)) dL_law_1207 ?_
  refine cb_topi (z := xs ((5 * j) + 3)) (congrArg xs (tn (by omega))) ?_
  have hPc := hP.sub (ws' := (mb_w am km S th)) [20, 21, 22, 23, 24, 25, 26, 27, 28, 29, 30, 31, 32, 33, 34] rfl
  have hDc := hD.sub (ws' := (mb_w am km S th)) [20, 21, 22, 23, 24, 25, 26, 27, 28, 29, 30, 31, 32, 33, 34] (by decide) rfl
  have hKc := hK.sub (tys' := (mb_ty km)) [14, 15, 16, 17, 18, 19, 20, 21, 22, 23, 24, 25, 26, 27] rfl
  have hF : ∀ z, va_A (mb_w am km S th) H1.size z → s.heap.size ≤ z := va_free hD hS hA [20, 21, 22, 23, 24, 25, 26, 27, 28, 29, 30, 31, 32, 33, 34] rfl
  refine va_calli (va_runV (As := [.int (xs ((5 * j) + 1)), .int (xs ((5 * j) + 2)), .int (xs ((5 * j) + 3))]) (rest := []) ⟨hx, hb, hml, hown, hts⟩ (c_X6_need l dC dI am km S th H1.size (xs ((5 * j) + 1)) (xs ((5 * j) + 2)) (xs ((5 * j) + 3)) hI) (cwV 3 hts gL_law_X6_need rfl rfl rfl (by decide +kernel) ⟨(Nat.le_of_ble_eq_true rfl), (Nat.le_of_ble_eq_true rfl)⟩) ⟨cT_blind, va_recv hKc hPc (ci := 6) (q0 := 0) rfl rfl, fun U hU hW => ⟨rfl, cT_of hKc hPc hDc hU hW⟩⟩ rfl rfl hl.1 rfl (lv_room (Nat.le_of_ble_eq_true rfl)) dL_law_1208 ⟨(by show (cells + 8) + 0 ≤ room_1.cells; exact Nat.le_trans (by omega) rm_c), (by show (slots + 48) + 0 ≤ room_1.slots; exact Nat.le_trans (by omega) rm_s)⟩) hS (fun z _ h => hF z h) hF (fun r9 u9 t9 H2 L2 ht hvm hr9 hB hz1 hk1 hS => ?_)
  obtain ⟨hP9, -, hD9⟩ := hB
  rw [ht] at hP9
  obtain ⟨hP8, hD8⟩ := va_join (wc := (mb_w am km S th)) (wr := ((cb_w a k (kS (k_need S (xs ((5 * j) + 1)) (xs ((5 * j) + 2)) (xs ((5 * j) + 3))) (S_need S (xs ((5 * j) + 1)) (xs ((5 * j) + 2)) (xs ((5 * j) + 3))) S)) ++ [(q, .inl (kq, (1, .inr (.inl (f8)))))])) hP hD [20, 21, 22, 23, 24, 25, 26, 27, 28, 29, 30, 31, 32, 33, 34] [0, 1, 2, 3, 4, 5, 6, 7, 8, 9, 10, 11, 12, 13, 14, 15, 16, 17, 18, 19, 35] rfl rfl (by decide) (by decide) hk1 hF hP9 hD9
  have hP : va_P (dC, dI) vwCl (cb_w a k (kS (k_need S (xs ((5 * j) + 1)) (xs ((5 * j) + 2)) (xs ((5 * j) + 3))) (S_need S (xs ((5 * j) + 1)) (xs ((5 * j) + 2)) (xs ((5 * j) + 3))) S) ++ (mb_w am km (kS (k_need S (xs ((5 * j) + 1)) (xs ((5 * j) + 2)) (xs ((5 * j) + 3))) (S_need S (xs ((5 * j) + 1)) (xs ((5 * j) + 2)) (xs ((5 * j) + 3))) S) (k_need S (xs ((5 * j) + 1)) (xs ((5 * j) + 2)) (xs ((5 * j) + 3))) ++ [(q, .inl (kq, (1, .inr (.inl (f8)))))])) H2 := hP8.sub [0, 1, 2, 3, 4, 5, 6, 7, 8, 9, 10, 11, 12, 13, 14, 15, 16, 17, 18, 19, 21, 22, 23, 24, 25, 26, 27, 28, 29, 30, 31, 32, 33, 34, 35, 20] rfl
  have hD : va_D (fun z => s.heap.size ≤ z) (cb_w a k (kS (k_need S (xs ((5 * j) + 1)) (xs ((5 * j) + 2)) (xs ((5 * j) + 3))) (S_need S (xs ((5 * j) + 1)) (xs ((5 * j) + 2)) (xs ((5 * j) + 3))) S) ++ (mb_w am km (kS (k_need S (xs ((5 * j) + 1)) (xs ((5 * j) + 2)) (xs ((5 * j) + 3))) (S_need S (xs ((5 * j) + 1)) (xs ((5 * j) + 2)) (xs ((5 * j) + 3))) S) (k_need S (xs ((5 * j) + 1)) (xs ((5 * j) + 2)) (xs ((5 * j) + 3))) ++ [(q, .inl (kq, (1, .inr (.inl (f8)))))])) := hD8.sub [0, 1, 2, 3, 4, 5, 6, 7, 8, 9, 10, 11, 12, 13, 14, 15, 16, 17, 18, 19, 21, 22, 23, 24, 25, 26, 27, 28, 29, 30, 31, 32, 33, 34, 35, 20] (by decide) rfl
  refine lv_istore (lv' := [(6, .int r9), (5, .int (nI (k_need S (xs ((5 * j) + 1)) (xs ((5 * j) + 2)) (xs ((5 * j) + 3))))), (0, .ref b), (1, .ref (a 0)), (2, .ref (am 0)), (3, .ref q), (4, .int (nI (5 * j)))]) hx hb dL_law_1211 hl (by decide) rfl (fun ls hl => ?_)
  refine lv_aload_n hx hb dL_law_1213 rfl (lv_at hl 4 rfl) ?_
  have hPc := hP.sub (ws' := (mb_w am km (kS (k_need S (xs ((5 * j) + 1)) (xs ((5 * j) + 2)) (xs ((5 * j) + 3))) (S_need S (xs ((5 * j) + 1)) (xs ((5 * j) + 2)) (xs ((5 * j) + 3))) S) (k_need S (xs ((5 * j) + 1)) (xs ((5 * j) + 2)) (xs ((5 * j) + 3))))) [20, 21, 22, 23, 24, 25, 26, 27, 28, 29, 30, 31, 32, 33, 34] rfl
  have hDc := hD.sub (ws' := (mb_w am km (kS (k_need S (xs ((5 * j) + 1)) (xs ((5 * j) + 2)) (xs ((5 * j) + 3))) (S_need S (xs ((5 * j) + 1)) (xs ((5 * j) + 2)) (xs ((5 * j) + 3))) S) (k_need S (xs ((5 * j) + 1)) (xs ((5 * j) + 2)) (xs ((5 * j) + 3))))) [20, 21, 22, 23, 24, 25, 26, 27, 28, 29, 30, 31, 32, 33, 34] (by decide) rfl
  have hKc := hK.sub (tys' := (mb_ty km)) [14, 15, 16, 17, 18, 19, 20, 21, 22, 23, 24, 25, 26, 27] rfl
  refine vp_callSi (W.runV (As := []) (rest := []) ⟨hx, hb, hml, hown, hts⟩ (c_X6_thrown l dC dI am km (kS (k_need S (xs ((5 * j) + 1)) (xs ((5 * j) + 2)) (xs ((5 * j) + 3))) (S_need S (xs ((5 * j) + 1)) (xs ((5 * j) + 2)) (xs ((5 * j) + 3))) S) (k_need S (xs ((5 * j) + 1)) (xs ((5 * j) + 2)) (xs ((5 * j) + 3)))) (cwV 0 hts gL_law_X6_thrown rfl rfl rfl (by decide +kernel) ⟨(Nat.le_of_ble_eq_true rfl), (Nat.le_of_ble_eq_true rfl)⟩) ⟨cR_blind, va_recv hKc hPc (ci := 6) (q0 := 0) rfl rfl, fun U hU hW => ⟨rfl, cR_of hKc hPc hU hW⟩⟩ rfl rfl hl.1 rfl (lv_room (Nat.le_of_ble_eq_true rfl)) dL_law_1214 ⟨(by show ((cells + 8) + 0) + 0 ≤ room_1.cells; exact Nat.le_trans (by omega) rm_c), (by show ((slots + 48) + 0) + 0 ≤ room_1.slots; exact Nat.le_trans (by omega) rm_s)⟩) (fun r er => ?_)
  subst er
  refine lv_iload hx hb dL_law_1217 (lv_at hl 1 rfl) ?_
  refine lv_icmp_eq (tgt := 1224) hx hb dL_law_1219 (by decide) (fun c_1219 => ?_) (fun c_1219 => ?_)
  · skip
    refine lv_iload hx hb dL_law_1224 (lv_at hl 1 rfl) ?_
    refine lv_if_ne (tgt := 1241) hx hb dL_law_1226 (by decide) (fun c_1226 => ?_) (fun c_1226 => ?_)
    · skip
      refine lv_goto (tgt := 2067) hx hb dL_law_1241 (by decide) ?_
      refine W.widen (k := cells + 231) (n := slots + 1597) (by omega) (by omega) ?_
      exact kk (kS (k_need S (xs ((5 * j) + 1)) (xs ((5 * j) + 2)) (xs ((5 * j) + 3))) (S_need S (xs ((5 * j) + 1)) (xs ((5 * j) + 2)) (xs ((5 * j) + 3))) S) (k_need S (xs ((5 * j) + 1)) (xs ((5 * j) + 2)) (xs ((5 * j) + 3))) f8 H2 _ ls (inv_kS hI (fun h9 => inv_need hI h9)) hP hD hS (lv_sub hl [2, 3, 4, 5, 6] rfl)
    · skip
      have h0 := kz kb_need c_1226
      refine lv_aload_n hx hb dL_law_1229 rfl (lv_at hl 5 rfl) ?_
      refine lv_iconst (v := nI 0) hx hb dL_law_1230 (by decide) ?_
      refine cb_lald hx hb hK hP 35 28 (f := f8) rfl rfl (j := 0) (by omega) (Nat.le_of_ble_eq_true rfl) dL_law_1231 ?_
      refine lv_iload hx hb dL_law_1232 (lv_at hl 0 rfl) ?_
      refine lv_i2l hx hb dL_law_1234 rfl ?_
      refine W.lcmp hx hb dL_law_1235 ?_
      refine lv_if_eq (tgt := 1241) hx hb dL_law_1236 (by decide) (fun c_1236 => ?_) (fun c_1236 => ?_)
      · have c_1236 : (f8 0) = r9.toInt64 := lg_cmp_t c_1236
        refine lv_goto (tgt := 2067) hx hb dL_law_1241 (by decide) ?_
        refine W.widen (k := cells + 231) (n := slots + 1597) (by omega) (by omega) ?_
        exact kk (kS (k_need S (xs ((5 * j) + 1)) (xs ((5 * j) + 2)) (xs ((5 * j) + 3))) (S_need S (xs ((5 * j) + 1)) (xs ((5 * j) + 2)) (xs ((5 * j) + 3))) S) (k_need S (xs ((5 * j) + 1)) (xs ((5 * j) + 2)) (xs ((5 * j) + 3))) f8 H2 _ ls (inv_kS hI (fun h9 => inv_need hI h9)) hP hD hS (lv_sub hl [2, 3, 4, 5, 6] rfl)
      · have c_1236 : ¬ (f8 0) = r9.toInt64 := lg_cmp_f c_1236
        exact absurd (by rw [hf8 h0, hr9 h0]) c_1236
  · skip
    exact absurd rfl c_1219
theorem kb_eaters {S : cs_S} {x0 : Int32} : k_eaters S x0 < 4 := by unfold k_eaters; (repeat' split) <;> decide
set_option maxHeartbeats 4000000 in
set_option maxRecDepth 100000 in
theorem lc_eaters {p : Program} {l : Launch} {e : Env} {s : State} {m : MethodId} {below : List Frame} {meth : Method} {c : Code} {b L : Nat} {xs : Nat → Int32} {dC : Nat → ClassId} {dI : Nat → Nat → Nat} {a : Nat → Nat} {k : Nat → ClassId} {am : Nat → Nat} {km : Nat → ClassId} {q : Nat} {kq : ClassId} (hl9 : l.stackTraces = false) (C0 : LC p s m c b L xs dC dI k km kq) {S : cs_S} {th : Nat} {f : Nat → Int64} {H : Heap} {locs : List Loc} {j : Nat} {ls : Array Slot} {cells slots : Nat} {Q : State → Prop} (hI : Inv S) (hP : va_P (dC, dI) vwCl (cb_w a k S ++ (mb_w am km S th ++ [(q, .inl (kq, (1, .inr (.inl (f)))))])) H) (hD : va_D (fun z => s.heap.size ≤ z) (cb_w a k S ++ (mb_w am km S th ++ [(q, .inl (kq, (1, .inr (.inl (f)))))]))) (hS : va_S (fun z => s.heap.size ≤ z) s.heap H locs) (hj : 5 * j + 5 ≤ L) (hl : lv_has ls 9 [(0, .ref b), (1, .ref (a 0)), (2, .ref (am 0)), (3, .ref q), (4, .int (nI (5 * j)))]) (hc : cells + 231 ≤ 200000) (hs : slots + 1597 ≤ 2000000) (kk : KK p l e s m below meth c b dC dI a k am km q kq j cells slots Q) : W p l e room_1 s m #[Value.ref b] below meth c H locs cells slots Q (F0 m 1244 ls []) := by
  obtain ⟨hx, hb, hml, hown, hts, hX, hbl, hL, hK, hE⟩ := C0
  have hbA : ¬ (fun z => s.heap.size ≤ z) b := Nat.not_le.mpr hbl
  have hA : ∀ z : Nat, s.heap.size ≤ z → (fun z => s.heap.size ≤ z) z := fun _ h => h
  refine lv_aload_n hx hb dL_law_1244 rfl (lv_at hl 1 rfl) ?_
  refine lv_aload_n hx hb dL_law_1245 rfl (lv_at hl 0 rfl) ?_
  refine lv_iload hx hb dL_law_1246 (lv_at hl 4 rfl) ?_
  refine lv_iconst (v := nI 1) hx hb dL_law_1248 (by decide) ?_
  refine lv_iadd hx hb dL_law_1249 ?_
  refine cb_topi (nI_add _ _) ?_
  refine va_sld hx hb hX hbl hbA hS (i := nI ((5 * j) + 1)) (vp_in_nI (show (5 * j) + 1 < L by omega) (by omega)) dL_law_1250 ?_
  refine cb_topi (z := xs ((5 * j) + 1)) (congrArg xs (tn (by omega))) ?_
  refine lv_aload_n hx hb dL_law_1251 rfl (lv_at hl 3 rfl) ?_
  have hPc := hP.sub (ws' := (cb_w a k S ++ [(q, .inl (kq, (1, .inr (.inl (f)))))])) [0, 1, 2, 3, 4, 5, 6, 7, 8, 9, 10, 11, 12, 13, 14, 15, 16, 17, 18, 19, 35] rfl
  have hDc := hD.sub (ws' := (cb_w a k S ++ [(q, .inl (kq, (1, .inr (.inl (f)))))])) [0, 1, 2, 3, 4, 5, 6, 7, 8, 9, 10, 11, 12, 13, 14, 15, 16, 17, 18, 19, 35] (by decide) rfl
  have hKc := hK.sub (tys' := (cb_ty k ++ [(kq, .long)])) [0, 1, 2, 3, 4, 5, 6, 7, 8, 9, 10, 11, 12, 13, 28] rfl
  have hF : ∀ z, va_A (cb_w a k S ++ [(q, .inl (kq, (1, .inr (.inl (f)))))]) H.size z → s.heap.size ≤ z := va_free hD hS hA [0, 1, 2, 3, 4, 5, 6, 7, 8, 9, 10, 11, 12, 13, 14, 15, 16, 17, 18, 19, 35] rfl
  refine va_calli (vx_runSW (As := [.ref (a 0), .int (xs ((5 * j) + 1)), .ref q]) (rest := []) ⟨hx, hb, hml, hown, hts⟩ (c_L_eaters l hl9 dC dI a k S q kq f H.size (xs ((5 * j) + 1)) hI) (vx_cwSW 3 hts gL_law_L_eaters rfl rfl rfl (by decide +kernel) ⟨(Nat.le_of_ble_eq_true rfl), (Nat.le_of_ble_eq_true rfl)⟩) ⟨cV_blind, fun U hU hW => ⟨rfl, cV_of hKc hPc hDc hE hS hU hW hF⟩⟩ rfl rfl hl.1 rfl (lv_room (Nat.le_of_ble_eq_true rfl)) dL_law_1252 ⟨(by show cells + 8 ≤ room_1.cells; exact Nat.le_trans (by omega) rm_c), (by show slots + 48 ≤ room_1.slots; exact Nat.le_trans (by omega) rm_s)⟩) hS (fun z _ h => hF z h) hF (fun r8 f8 t8 H1 L1 ht hvm hw hB hz1 hk1 hS => ?_)
  obtain ⟨hr8, hf8⟩ := hw
  subst hr8
  obtain ⟨hP9, -, hD9⟩ := hB
  rw [ht] at hP9
  obtain ⟨hP8, hD8⟩ := va_join (wc := (cb_w a k S ++ [(q, .inl (kq, (1, .inr (.inl (f)))))])) (wr := (mb_w am km S th)) hP hD [0, 1, 2, 3, 4, 5, 6, 7, 8, 9, 10, 11, 12, 13, 14, 15, 16, 17, 18, 19, 35] [20, 21, 22, 23, 24, 25, 26, 27, 28, 29, 30, 31, 32, 33, 34] rfl rfl (by decide) (by decide) hk1 hF hP9 hD9
  have hP : va_P (dC, dI) vwCl (cb_w a k S ++ (mb_w am km S th ++ [(q, .inl (kq, (1, .inr (.inl (f8)))))])) H1 := hP8.sub [15, 16, 17, 18, 19, 20, 21, 22, 23, 24, 25, 26, 27, 28, 29, 30, 31, 32, 33, 34, 0, 1, 2, 3, 4, 5, 6, 7, 8, 9, 10, 11, 12, 13, 14, 35] rfl
  have hD : va_D (fun z => s.heap.size ≤ z) (cb_w a k S ++ (mb_w am km S th ++ [(q, .inl (kq, (1, .inr (.inl (f8)))))])) := hD8.sub [15, 16, 17, 18, 19, 20, 21, 22, 23, 24, 25, 26, 27, 28, 29, 30, 31, 32, 33, 34, 0, 1, 2, 3, 4, 5, 6, 7, 8, 9, 10, 11, 12, 13, 14, 35] (by decide) rfl
  refine lv_istore (lv' := [(5, .int (nI (k_eaters S (xs ((5 * j) + 1))))), (0, .ref b), (1, .ref (a 0)), (2, .ref (am 0)), (3, .ref q), (4, .int (nI (5 * j)))]) hx hb dL_law_1255 hl (by decide) rfl (fun ls hl => ?_)
  refine lv_aload_n hx hb dL_law_1257 rfl (lv_at hl 3 rfl) ?_
  refine lv_aload_n hx hb dL_law_1258 rfl (lv_at hl 1 rfl) ?_
  refine lv_iload hx hb dL_law_1259 (lv_at hl 5 rfl) ?_
  refine lv_iconst (v := nI 1) hx hb dL_law_1261 (by decide) ?_
  refine lv_iadd hx hb dL_law_1262 ?_
  refine cb_topi (nI_add _ _) ?_
  refine va_sld hx hb hX hbl hbA hS (i := nI ((5 * j) + 1)) (vp_in_nI (show (5 * j) + 1 < L by omega) (by omega)) dL_law_1263 ?_
  refine cb_topi (z := xs ((5 * j) + 1)) (congrArg xs (tn (by omega))) ?_
  have hPc := hP.sub (ws' := (mb_w am km S th)) [20, 21, 22, 23, 24, 25, 26, 27, 28, 29, 30, 31, 32, 33, 34] rfl
  have hDc := hD.sub (ws' := (mb_w am km S th)) [20, 21, 22, 23, 24, 25, 26, 27, 28, 29, 30, 31, 32, 33, 34] (by decide) rfl
  have hKc := hK.sub (tys' := (mb_ty km)) [14, 15, 16, 17, 18, 19, 20, 21, 22, 23, 24, 25, 26, 27] rfl
  have hF : ∀ z, va_A (mb_w am km S th) H1.size z → s.heap.size ≤ z := va_free hD hS hA [20, 21, 22, 23, 24, 25, 26, 27, 28, 29, 30, 31, 32, 33, 34] rfl
  refine va_calll (va_runV (As := [.int (xs ((5 * j) + 1))]) (rest := []) ⟨hx, hb, hml, hown, hts⟩ (c_X6_eaters l dC dI am km S th H1.size (xs ((5 * j) + 1)) hI) (cwV 1 hts gL_law_X6_eaters rfl rfl rfl (by decide +kernel) ⟨(Nat.le_of_ble_eq_true rfl), (Nat.le_of_ble_eq_true rfl)⟩) ⟨cT_blind, va_recv hKc hPc (ci := 6) (q0 := 0) rfl rfl, fun U hU hW => ⟨rfl, cT_of hKc hPc hDc hU hW⟩⟩ rfl rfl hl.1 rfl (lv_room (Nat.le_of_ble_eq_true rfl)) dL_law_1264 ⟨(by show (cells + 8) + 0 ≤ room_1.cells; exact Nat.le_trans (by omega) rm_c), (by show (slots + 48) + 0 ≤ room_1.slots; exact Nat.le_trans (by omega) rm_s)⟩) hS (fun z _ h => hF z h) hF (fun r9 u9 t9 H2 L2 ht hvm hr9 hB hz1 hk1 hS => ?_)
  obtain ⟨hP9, -, hD9⟩ := hB
  rw [ht] at hP9
  obtain ⟨hP8, hD8⟩ := va_join (wc := (mb_w am km S th)) (wr := ((cb_w a k S) ++ [(q, .inl (kq, (1, .inr (.inl (f8)))))])) hP hD [20, 21, 22, 23, 24, 25, 26, 27, 28, 29, 30, 31, 32, 33, 34] [0, 1, 2, 3, 4, 5, 6, 7, 8, 9, 10, 11, 12, 13, 14, 15, 16, 17, 18, 19, 35] rfl rfl (by decide) (by decide) hk1 hF hP9 hD9
  have hP : va_P (dC, dI) vwCl (cb_w a k S ++ (mb_w am km S (k_eaters S (xs ((5 * j) + 1))) ++ [(q, .inl (kq, (1, .inr (.inl (f8)))))])) H2 := hP8.sub [0, 1, 2, 3, 4, 5, 6, 7, 8, 9, 10, 11, 12, 13, 14, 15, 16, 17, 18, 19, 21, 22, 23, 24, 25, 26, 27, 28, 29, 30, 31, 32, 33, 34, 35, 20] rfl
  have hD : va_D (fun z => s.heap.size ≤ z) (cb_w a k S ++ (mb_w am km S (k_eaters S (xs ((5 * j) + 1))) ++ [(q, .inl (kq, (1, .inr (.inl (f8)))))])) := hD8.sub [0, 1, 2, 3, 4, 5, 6, 7, 8, 9, 10, 11, 12, 13, 14, 15, 16, 17, 18, 19, 21, 22, 23, 24, 25, 26, 27, 28, 29, 30, 31, 32, 33, 34, 35, 20] (by decide) rfl
  refine lv_lstore (lv' := [(6, .long r9), (5, .int (nI (k_eaters S (xs ((5 * j) + 1))))), (0, .ref b), (1, .ref (a 0)), (2, .ref (am 0)), (3, .ref q), (4, .int (nI (5 * j)))]) hx hb dL_law_1267 hl (by decide) rfl (fun ls hl => ?_)
  refine lv_aload_n hx hb dL_law_1269 rfl (lv_at hl 4 rfl) ?_
  have hPc := hP.sub (ws' := (mb_w am km S (k_eaters S (xs ((5 * j) + 1))))) [20, 21, 22, 23, 24, 25, 26, 27, 28, 29, 30, 31, 32, 33, 34] rfl
  have hDc := hD.sub (ws' := (mb_w am km S (k_eaters S (xs ((5 * j) + 1))))) [20, 21, 22, 23, 24, 25, 26, 27, 28, 29, 30, 31, 32, 33, 34] (by decide) rfl
  have hKc := hK.sub (tys' := (mb_ty km)) [14, 15, 16, 17, 18, 19, 20, 21, 22, 23, 24, 25, 26, 27] rfl
  refine vp_callSi (W.runV (As := []) (rest := []) ⟨hx, hb, hml, hown, hts⟩ (c_X6_thrown l dC dI am km S (k_eaters S (xs ((5 * j) + 1)))) (cwV 0 hts gL_law_X6_thrown rfl rfl rfl (by decide +kernel) ⟨(Nat.le_of_ble_eq_true rfl), (Nat.le_of_ble_eq_true rfl)⟩) ⟨cR_blind, va_recv hKc hPc (ci := 6) (q0 := 0) rfl rfl, fun U hU hW => ⟨rfl, cR_of hKc hPc hU hW⟩⟩ rfl rfl hl.1 rfl (lv_room (Nat.le_of_ble_eq_true rfl)) dL_law_1270 ⟨(by show ((cells + 8) + 0) + 0 ≤ room_1.cells; exact Nat.le_trans (by omega) rm_c), (by show ((slots + 48) + 0) + 0 ≤ room_1.slots; exact Nat.le_trans (by omega) rm_s)⟩) (fun r er => ?_)
  subst er
  refine lv_iload hx hb dL_law_1273 (lv_at hl 1 rfl) ?_
  refine lv_icmp_eq (tgt := 1280) hx hb dL_law_1275 (by decide) (fun c_1275 => ?_) (fun c_1275 => ?_)
  · skip
    refine lv_iload hx hb dL_law_1280 (lv_at hl 1 rfl) ?_
    refine lv_if_ne (tgt := 1296) hx hb dL_law_1282 (by decide) (fun c_1282 => ?_) (fun c_1282 => ?_)
    · skip
      refine lv_goto (tgt := 2067) hx hb dL_law_1296 (by decide) ?_
      refine W.widen (k := cells + 231) (n := slots + 1597) (by omega) (by omega) ?_
      exact kk S (k_eaters S (xs ((5 * j) + 1))) f8 H2 _ ls hI hP hD hS (lv_sub hl [2, 3, 4, 5, 6] rfl)
    · skip
      have h0 := kz kb_eaters c_1282
      refine lv_aload_n hx hb dL_law_1285 rfl (lv_at hl 5 rfl) ?_
      refine lv_iconst (v := nI 0) hx hb dL_law_1286 (by decide) ?_
      refine cb_lald hx hb hK hP 35 28 (f := f8) rfl rfl (j := 0) (by omega) (Nat.le_of_ble_eq_true rfl) dL_law_1287 ?_
      refine lv_lload hx hb dL_law_1288 (lv_at hl 0 rfl) ?_
      refine W.lcmp hx hb dL_law_1290 ?_
      refine lv_if_eq (tgt := 1296) hx hb dL_law_1291 (by decide) (fun c_1291 => ?_) (fun c_1291 => ?_)
      · have c_1291 : (f8 0) = r9 := lg_cmp_t c_1291
        refine lv_goto (tgt := 2067) hx hb dL_law_1296 (by decide) ?_
        refine W.widen (k := cells + 231) (n := slots + 1597) (by omega) (by omega) ?_
        exact kk S (k_eaters S (xs ((5 * j) + 1))) f8 H2 _ ls hI hP hD hS (lv_sub hl [2, 3, 4, 5, 6] rfl)
      · have c_1291 : ¬ (f8 0) = r9 := lg_cmp_f c_1291
        exact absurd (by rw [hf8 h0, hr9 h0]) c_1291
  · skip
    exact absurd rfl c_1275
theorem kb_lacks {S : cs_S} {x0 : Int32} {x1 : Int32} {x2 : Int32} : k_lacks S x0 x1 x2 < 4 := by unfold k_lacks; (repeat' split) <;> decide
set_option maxHeartbeats 4000000 in
set_option maxRecDepth 100000 in
theorem lc_lacks {p : Program} {l : Launch} {e : Env} {s : State} {m : MethodId} {below : List Frame} {meth : Method} {c : Code} {b L : Nat} {xs : Nat → Int32} {dC : Nat → ClassId} {dI : Nat → Nat → Nat} {a : Nat → Nat} {k : Nat → ClassId} {am : Nat → Nat} {km : Nat → ClassId} {q : Nat} {kq : ClassId} (hl9 : l.stackTraces = false) (C0 : LC p s m c b L xs dC dI k km kq) {S : cs_S} {th : Nat} {f : Nat → Int64} {H : Heap} {locs : List Loc} {j : Nat} {ls : Array Slot} {cells slots : Nat} {Q : State → Prop} (hI : Inv S) (hP : va_P (dC, dI) vwCl (cb_w a k S ++ (mb_w am km S th ++ [(q, .inl (kq, (1, .inr (.inl (f)))))])) H) (hD : va_D (fun z => s.heap.size ≤ z) (cb_w a k S ++ (mb_w am km S th ++ [(q, .inl (kq, (1, .inr (.inl (f)))))]))) (hS : va_S (fun z => s.heap.size ≤ z) s.heap H locs) (hj : 5 * j + 5 ≤ L) (hl : lv_has ls 9 [(0, .ref b), (1, .ref (a 0)), (2, .ref (am 0)), (3, .ref q), (4, .int (nI (5 * j)))]) (hc : cells + 231 ≤ 200000) (hs : slots + 1597 ≤ 2000000) (kk : KK p l e s m below meth c b dC dI a k am km q kq j cells slots Q) : W p l e room_1 s m #[Value.ref b] below meth c H locs cells slots Q (F0 m 1299 ls []) := by
  obtain ⟨hx, hb, hml, hown, hts, hX, hbl, hL, hK, hE⟩ := C0
  have hbA : ¬ (fun z => s.heap.size ≤ z) b := Nat.not_le.mpr hbl
  have hA : ∀ z : Nat, s.heap.size ≤ z → (fun z => s.heap.size ≤ z) z := fun _ h => h
  refine lv_aload_n hx hb dL_law_1299 rfl (lv_at hl 1 rfl) ?_
  refine lv_aload_n hx hb dL_law_1300 rfl (lv_at hl 0 rfl) ?_
  refine lv_iload hx hb dL_law_1301 (lv_at hl 4 rfl) ?_
  refine lv_iconst (v := nI 1) hx hb dL_law_1303 (by decide) ?_
  refine lv_iadd hx hb dL_law_1304 ?_
  refine cb_topi (nI_add _ _) ?_
  refine va_sld hx hb hX hbl hbA hS (i := nI ((5 * j) + 1)) (vp_in_nI (show (5 * j) + 1 < L by omega) (by omega)) dL_law_1305 ?_
  refine cb_topi (z := xs ((5 * j) + 1)) (congrArg xs (tn (by omega))) ?_
  refine lv_aload_n hx hb dL_law_1306 rfl (lv_at hl 0 rfl) ?_
  refine lv_iload hx hb dL_law_1307 (lv_at hl 4 rfl) ?_
  refine lv_iconst (v := nI 2) hx hb dL_law_1309 (by decide) ?_
  refine lv_iadd hx hb dL_law_1310 ?_
  refine cb_topi (nI_add _ _) ?_
  refine va_sld hx hb hX hbl hbA hS (i := nI ((5 * j) + 2)) (vp_in_nI (show (5 * j) + 2 < L by omega) (by omega)) dL_law_1311 ?_
  refine cb_topi (z := xs ((5 * j) + 2)) (congrArg xs (tn (by omega))) ?_
  refine lv_aload_n hx hb dL_law_1312 rfl (lv_at hl 0 rfl) ?_
  refine lv_iload hx hb dL_law_1313 (lv_at hl 4 rfl) ?_
  refine lv_iconst (v := nI 3) hx hb dL_law_1315 (by decide) ?_
  refine lv_iadd hx hb dL_law_1316 ?_
  refine cb_topi (nI_add _ _) ?_
  refine va_sld hx hb hX hbl hbA hS (i := nI ((5 * j) + 3)) (vp_in_nI (show (5 * j) + 3 < L by omega) (by omega)) dL_law_1317 ?_
  refine cb_topi (z := xs ((5 * j) + 3)) (congrArg xs (tn (by omega))) ?_
  refine lv_aload_n hx hb dL_law_1318 rfl (lv_at hl 3 rfl) ?_
  have hPc := hP.sub (ws' := (cb_w a k S ++ [(q, .inl (kq, (1, .inr (.inl (f)))))])) [0, 1, 2, 3, 4, 5, 6, 7, 8, 9, 10, 11, 12, 13, 14, 15, 16, 17, 18, 19, 35] rfl
  have hDc := hD.sub (ws' := (cb_w a k S ++ [(q, .inl (kq, (1, .inr (.inl (f)))))])) [0, 1, 2, 3, 4, 5, 6, 7, 8, 9, 10, 11, 12, 13, 14, 15, 16, 17, 18, 19, 35] (by decide) rfl
  have hKc := hK.sub (tys' := (cb_ty k ++ [(kq, .long)])) [0, 1, 2, 3, 4, 5, 6, 7, 8, 9, 10, 11, 12, 13, 28] rfl
  have hF : ∀ z, va_A (cb_w a k S ++ [(q, .inl (kq, (1, .inr (.inl (f)))))]) H.size z → s.heap.size ≤ z := va_free hD hS hA [0, 1, 2, 3, 4, 5, 6, 7, 8, 9, 10, 11, 12, 13, 14, 15, 16, 17, 18, 19, 35] rfl
  refine va_calli (vx_runSW (As := [.ref (a 0), .int (xs ((5 * j) + 1)), .int (xs ((5 * j) + 2)), .int (xs ((5 * j) + 3)), .ref q]) (rest := []) ⟨hx, hb, hml, hown, hts⟩ (c_L_lacks l hl9 dC dI a k S q kq f H.size (xs ((5 * j) + 1)) (xs ((5 * j) + 2)) (xs ((5 * j) + 3)) hI) (vx_cwSW 5 hts gL_law_L_lacks rfl rfl rfl (by decide +kernel) ⟨(Nat.le_of_ble_eq_true rfl), (Nat.le_of_ble_eq_true rfl)⟩) ⟨cV_blind, fun U hU hW => ⟨rfl, cV_of hKc hPc hDc hE hS hU hW hF⟩⟩ rfl rfl hl.1 rfl (lv_room (Nat.le_of_ble_eq_true rfl)) dL_law_1319 ⟨(by show cells + 8 ≤ room_1.cells; exact Nat.le_trans (by omega) rm_c), (by show slots + 48 ≤ room_1.slots; exact Nat.le_trans (by omega) rm_s)⟩) hS (fun z _ h => hF z h) hF (fun r8 f8 t8 H1 L1 ht hvm hw hB hz1 hk1 hS => ?_)
  obtain ⟨hr8, hf8⟩ := hw
  subst hr8
  obtain ⟨hP9, -, hD9⟩ := hB
  rw [ht] at hP9
  obtain ⟨hP8, hD8⟩ := va_join (wc := (cb_w a k S ++ [(q, .inl (kq, (1, .inr (.inl (f)))))])) (wr := (mb_w am km S th)) hP hD [0, 1, 2, 3, 4, 5, 6, 7, 8, 9, 10, 11, 12, 13, 14, 15, 16, 17, 18, 19, 35] [20, 21, 22, 23, 24, 25, 26, 27, 28, 29, 30, 31, 32, 33, 34] rfl rfl (by decide) (by decide) hk1 hF hP9 hD9
  have hP : va_P (dC, dI) vwCl (cb_w a k S ++ (mb_w am km S th ++ [(q, .inl (kq, (1, .inr (.inl (f8)))))])) H1 := hP8.sub [15, 16, 17, 18, 19, 20, 21, 22, 23, 24, 25, 26, 27, 28, 29, 30, 31, 32, 33, 34, 0, 1, 2, 3, 4, 5, 6, 7, 8, 9, 10, 11, 12, 13, 14, 35] rfl
  have hD : va_D (fun z => s.heap.size ≤ z) (cb_w a k S ++ (mb_w am km S th ++ [(q, .inl (kq, (1, .inr (.inl (f8)))))])) := hD8.sub [15, 16, 17, 18, 19, 20, 21, 22, 23, 24, 25, 26, 27, 28, 29, 30, 31, 32, 33, 34, 0, 1, 2, 3, 4, 5, 6, 7, 8, 9, 10, 11, 12, 13, 14, 35] (by decide) rfl
  refine lv_istore (lv' := [(5, .int (nI (k_lacks S (xs ((5 * j) + 1)) (xs ((5 * j) + 2)) (xs ((5 * j) + 3))))), (0, .ref b), (1, .ref (a 0)), (2, .ref (am 0)), (3, .ref q), (4, .int (nI (5 * j)))]) hx hb dL_law_1322 hl (by decide) rfl (fun ls hl => ?_)
  refine lv_aload_n hx hb dL_law_1324 rfl (lv_at hl 3 rfl) ?_
  refine lv_aload_n hx hb dL_law_1325 rfl (lv_at hl 1 rfl) ?_
  refine lv_iload hx hb dL_law_1326 (lv_at hl 5 rfl) ?_
  refine lv_iconst (v := nI 1) hx hb dL_law_1328 (by decide) ?_
  refine lv_iadd hx hb dL_law_1329 ?_
  refine cb_topi (nI_add _ _) ?_
  refine va_sld hx hb hX hbl hbA hS (i := nI ((5 * j) + 1)) (vp_in_nI (show (5 * j) + 1 < L by omega) (by omega)) dL_law_1330 ?_
  refine cb_topi (z := xs ((5 * j) + 1)) (congrArg xs (tn (by omega))) ?_
  refine lv_aload_n hx hb dL_law_1331 rfl (lv_at hl 1 rfl) ?_
  refine lv_iload hx hb dL_law_1332 (lv_at hl 5 rfl) ?_
  refine lv_iconst (v := nI 2) hx hb dL_law_1334 (by decide) ?_
  refine lv_iadd hx hb dL_law_1335 ?_
  refine cb_topi (nI_add _ _) ?_
  refine va_sld hx hb hX hbl hbA hS (i := nI ((5 * j) + 2)) (vp_in_nI (show (5 * j) + 2 < L by omega) (by omega)) dL_law_1336 ?_
  refine cb_topi (z := xs ((5 * j) + 2)) (congrArg xs (tn (by omega))) ?_
  refine lv_aload_n hx hb dL_law_1337 rfl (lv_at hl 1 rfl) ?_
  refine lv_iload hx hb dL_law_1338 (lv_at hl 5 rfl) ?_
  refine lv_iconst (v := nI 3) hx hb dL_law_1340 (by decide) ?_
  refine lv_iadd hx hb dL_law_1341 ?_
  refine cb_topi (nI_add _ _) ?_
  refine va_sld hx hb hX hbl hbA hS (i := nI ((5 * j) + 3)) (vp_in_nI (show (5 * j) + 3 < L by omega) (by omega)) dL_law_1342 ?_
  refine cb_topi (z := xs ((5 * j) + 3)) (congrArg xs (tn (by omega))) ?_
  have hPc := hP.sub (ws' := (mb_w am km S th)) [20, 21, 22, 23, 24, 25, 26, 27, 28, 29, 30, 31, 32, 33, 34] rfl
  have hDc := hD.sub (ws' := (mb_w am km S th)) [20, 21, 22, 23, 24, 25, 26, 27, 28, 29, 30, 31, 32, 33, 34] (by decide) rfl
  have hKc := hK.sub (tys' := (mb_ty km)) [14, 15, 16, 17, 18, 19, 20, 21, 22, 23, 24, 25, 26, 27] rfl
  have hF : ∀ z, va_A (mb_w am km S th) H1.size z → s.heap.size ≤ z := va_free hD hS hA [20, 21, 22, 23, 24, 25, 26, 27, 28, 29, 30, 31, 32, 33, 34] rfl
  refine va_calli (va_runV (As := [.int (xs ((5 * j) + 1)), .int (xs ((5 * j) + 2)), .int (xs ((5 * j) + 3))]) (rest := []) ⟨hx, hb, hml, hown, hts⟩ (c_X6_lacks l dC dI am km S th H1.size (xs ((5 * j) + 1)) (xs ((5 * j) + 2)) (xs ((5 * j) + 3)) hI) (cwV 3 hts gL_law_X6_lacks rfl rfl rfl (by decide +kernel) ⟨(Nat.le_of_ble_eq_true rfl), (Nat.le_of_ble_eq_true rfl)⟩) ⟨cT_blind, va_recv hKc hPc (ci := 6) (q0 := 0) rfl rfl, fun U hU hW => ⟨rfl, cT_of hKc hPc hDc hU hW⟩⟩ rfl rfl hl.1 rfl (lv_room (Nat.le_of_ble_eq_true rfl)) dL_law_1343 ⟨(by show (cells + 8) + 0 ≤ room_1.cells; exact Nat.le_trans (by omega) rm_c), (by show (slots + 48) + 0 ≤ room_1.slots; exact Nat.le_trans (by omega) rm_s)⟩) hS (fun z _ h => hF z h) hF (fun r9 u9 t9 H2 L2 ht hvm hr9 hB hz1 hk1 hS => ?_)
  obtain ⟨hP9, -, hD9⟩ := hB
  rw [ht] at hP9
  obtain ⟨hP8, hD8⟩ := va_join (wc := (mb_w am km S th)) (wr := ((cb_w a k S) ++ [(q, .inl (kq, (1, .inr (.inl (f8)))))])) hP hD [20, 21, 22, 23, 24, 25, 26, 27, 28, 29, 30, 31, 32, 33, 34] [0, 1, 2, 3, 4, 5, 6, 7, 8, 9, 10, 11, 12, 13, 14, 15, 16, 17, 18, 19, 35] rfl rfl (by decide) (by decide) hk1 hF hP9 hD9
  have hP : va_P (dC, dI) vwCl (cb_w a k S ++ (mb_w am km S (k_lacks S (xs ((5 * j) + 1)) (xs ((5 * j) + 2)) (xs ((5 * j) + 3))) ++ [(q, .inl (kq, (1, .inr (.inl (f8)))))])) H2 := hP8.sub [0, 1, 2, 3, 4, 5, 6, 7, 8, 9, 10, 11, 12, 13, 14, 15, 16, 17, 18, 19, 21, 22, 23, 24, 25, 26, 27, 28, 29, 30, 31, 32, 33, 34, 35, 20] rfl
  have hD : va_D (fun z => s.heap.size ≤ z) (cb_w a k S ++ (mb_w am km S (k_lacks S (xs ((5 * j) + 1)) (xs ((5 * j) + 2)) (xs ((5 * j) + 3))) ++ [(q, .inl (kq, (1, .inr (.inl (f8)))))])) := hD8.sub [0, 1, 2, 3, 4, 5, 6, 7, 8, 9, 10, 11, 12, 13, 14, 15, 16, 17, 18, 19, 21, 22, 23, 24, 25, 26, 27, 28, 29, 30, 31, 32, 33, 34, 35, 20] (by decide) rfl
  refine lv_istore (lv' := [(6, .int r9), (5, .int (nI (k_lacks S (xs ((5 * j) + 1)) (xs ((5 * j) + 2)) (xs ((5 * j) + 3))))), (0, .ref b), (1, .ref (a 0)), (2, .ref (am 0)), (3, .ref q), (4, .int (nI (5 * j)))]) hx hb dL_law_1346 hl (by decide) rfl (fun ls hl => ?_)
  refine lv_aload_n hx hb dL_law_1348 rfl (lv_at hl 4 rfl) ?_
  have hPc := hP.sub (ws' := (mb_w am km S (k_lacks S (xs ((5 * j) + 1)) (xs ((5 * j) + 2)) (xs ((5 * j) + 3))))) [20, 21, 22, 23, 24, 25, 26, 27, 28, 29, 30, 31, 32, 33, 34] rfl
  have hDc := hD.sub (ws' := (mb_w am km S (k_lacks S (xs ((5 * j) + 1)) (xs ((5 * j) + 2)) (xs ((5 * j) + 3))))) [20, 21, 22, 23, 24, 25, 26, 27, 28, 29, 30, 31, 32, 33, 34] (by decide) rfl
  have hKc := hK.sub (tys' := (mb_ty km)) [14, 15, 16, 17, 18, 19, 20, 21, 22, 23, 24, 25, 26, 27] rfl
  refine vp_callSi (W.runV (As := []) (rest := []) ⟨hx, hb, hml, hown, hts⟩ (c_X6_thrown l dC dI am km S (k_lacks S (xs ((5 * j) + 1)) (xs ((5 * j) + 2)) (xs ((5 * j) + 3)))) (cwV 0 hts gL_law_X6_thrown rfl rfl rfl (by decide +kernel) ⟨(Nat.le_of_ble_eq_true rfl), (Nat.le_of_ble_eq_true rfl)⟩) ⟨cR_blind, va_recv hKc hPc (ci := 6) (q0 := 0) rfl rfl, fun U hU hW => ⟨rfl, cR_of hKc hPc hU hW⟩⟩ rfl rfl hl.1 rfl (lv_room (Nat.le_of_ble_eq_true rfl)) dL_law_1349 ⟨(by show ((cells + 8) + 0) + 0 ≤ room_1.cells; exact Nat.le_trans (by omega) rm_c), (by show ((slots + 48) + 0) + 0 ≤ room_1.slots; exact Nat.le_trans (by omega) rm_s)⟩) (fun r er => ?_)
  subst er
  refine lv_iload hx hb dL_law_1352 (lv_at hl 1 rfl) ?_
  refine lv_icmp_eq (tgt := 1359) hx hb dL_law_1354 (by decide) (fun c_1354 => ?_) (fun c_1354 => ?_)
  · skip
    refine lv_iload hx hb dL_law_1359 (lv_at hl 1 rfl) ?_
    refine lv_if_ne (tgt := 1376) hx hb dL_law_1361 (by decide) (fun c_1361 => ?_) (fun c_1361 => ?_)
    · skip
      refine lv_goto (tgt := 2067) hx hb dL_law_1376 (by decide) ?_
      refine W.widen (k := cells + 231) (n := slots + 1597) (by omega) (by omega) ?_
      exact kk S (k_lacks S (xs ((5 * j) + 1)) (xs ((5 * j) + 2)) (xs ((5 * j) + 3))) f8 H2 _ ls hI hP hD hS (lv_sub hl [2, 3, 4, 5, 6] rfl)
    · skip
      have h0 := kz kb_lacks c_1361
      refine lv_aload_n hx hb dL_law_1364 rfl (lv_at hl 5 rfl) ?_
      refine lv_iconst (v := nI 0) hx hb dL_law_1365 (by decide) ?_
      refine cb_lald hx hb hK hP 35 28 (f := f8) rfl rfl (j := 0) (by omega) (Nat.le_of_ble_eq_true rfl) dL_law_1366 ?_
      refine lv_iload hx hb dL_law_1367 (lv_at hl 0 rfl) ?_
      refine lv_i2l hx hb dL_law_1369 rfl ?_
      refine W.lcmp hx hb dL_law_1370 ?_
      refine lv_if_eq (tgt := 1376) hx hb dL_law_1371 (by decide) (fun c_1371 => ?_) (fun c_1371 => ?_)
      · have c_1371 : (f8 0) = r9.toInt64 := lg_cmp_t c_1371
        refine lv_goto (tgt := 2067) hx hb dL_law_1376 (by decide) ?_
        refine W.widen (k := cells + 231) (n := slots + 1597) (by omega) (by omega) ?_
        exact kk S (k_lacks S (xs ((5 * j) + 1)) (xs ((5 * j) + 2)) (xs ((5 * j) + 3))) f8 H2 _ ls hI hP hD hS (lv_sub hl [2, 3, 4, 5, 6] rfl)
      · have c_1371 : ¬ (f8 0) = r9.toInt64 := lg_cmp_f c_1371
        exact absurd (by rw [hf8 h0, hr9 h0]) c_1371
  · skip
    exact absurd rfl c_1354
theorem kb_eat {S : cs_S} {x0 : Int32} : k_eat S x0 < 4 := by unfold k_eat; (repeat' split) <;> decide
set_option maxHeartbeats 4000000 in
set_option maxRecDepth 100000 in
theorem lc_eat {p : Program} {l : Launch} {e : Env} {s : State} {m : MethodId} {below : List Frame} {meth : Method} {c : Code} {b L : Nat} {xs : Nat → Int32} {dC : Nat → ClassId} {dI : Nat → Nat → Nat} {a : Nat → Nat} {k : Nat → ClassId} {am : Nat → Nat} {km : Nat → ClassId} {q : Nat} {kq : ClassId} (hl9 : l.stackTraces = false) (C0 : LC p s m c b L xs dC dI k km kq) {S : cs_S} {th : Nat} {f : Nat → Int64} {H : Heap} {locs : List Loc} {j : Nat} {ls : Array Slot} {cells slots : Nat} {Q : State → Prop} (hI : Inv S) (hP : va_P (dC, dI) vwCl (cb_w a k S ++ (mb_w am km S th ++ [(q, .inl (kq, (1, .inr (.inl (f)))))])) H) (hD : va_D (fun z => s.heap.size ≤ z) (cb_w a k S ++ (mb_w am km S th ++ [(q, .inl (kq, (1, .inr (.inl (f)))))]))) (hS : va_S (fun z => s.heap.size ≤ z) s.heap H locs) (hj : 5 * j + 5 ≤ L) (hl : lv_has ls 9 [(0, .ref b), (1, .ref (a 0)), (2, .ref (am 0)), (3, .ref q), (4, .int (nI (5 * j)))]) (hc : cells + 231 ≤ 200000) (hs : slots + 1597 ≤ 2000000) (kk : KK p l e s m below meth c b dC dI a k am km q kq j cells slots Q) : W p l e room_1 s m #[Value.ref b] below meth c H locs cells slots Q (F0 m 1379 ls []) := by
  obtain ⟨hx, hb, hml, hown, hts, hX, hbl, hL, hK, hE⟩ := C0
  have hbA : ¬ (fun z => s.heap.size ≤ z) b := Nat.not_le.mpr hbl
  have hA : ∀ z : Nat, s.heap.size ≤ z → (fun z => s.heap.size ≤ z) z := fun _ h => h
  refine lv_aload_n hx hb dL_law_1379 rfl (lv_at hl 1 rfl) ?_
  refine lv_aload_n hx hb dL_law_1380 rfl (lv_at hl 0 rfl) ?_
  refine lv_iload hx hb dL_law_1381 (lv_at hl 4 rfl) ?_
  refine lv_iconst (v := nI 1) hx hb dL_law_1383 (by decide) ?_
  refine lv_iadd hx hb dL_law_1384 ?_
  refine cb_topi (nI_add _ _) ?_
  refine va_sld hx hb hX hbl hbA hS (i := nI ((5 * j) + 1)) (vp_in_nI (show (5 * j) + 1 < L by omega) (by omega)) dL_law_1385 ?_
  refine cb_topi (z := xs ((5 * j) + 1)) (congrArg xs (tn (by omega))) ?_
  refine lv_aload_n hx hb dL_law_1386 rfl (lv_at hl 3 rfl) ?_
  have hPc := hP.sub (ws' := (cb_w a k S ++ [(q, .inl (kq, (1, .inr (.inl (f)))))])) [0, 1, 2, 3, 4, 5, 6, 7, 8, 9, 10, 11, 12, 13, 14, 15, 16, 17, 18, 19, 35] rfl
  have hDc := hD.sub (ws' := (cb_w a k S ++ [(q, .inl (kq, (1, .inr (.inl (f)))))])) [0, 1, 2, 3, 4, 5, 6, 7, 8, 9, 10, 11, 12, 13, 14, 15, 16, 17, 18, 19, 35] (by decide) rfl
  have hKc := hK.sub (tys' := (cb_ty k ++ [(kq, .long)])) [0, 1, 2, 3, 4, 5, 6, 7, 8, 9, 10, 11, 12, 13, 28] rfl
  have hF : ∀ z, va_A (cb_w a k S ++ [(q, .inl (kq, (1, .inr (.inl (f)))))]) H.size z → s.heap.size ≤ z := va_free hD hS hA [0, 1, 2, 3, 4, 5, 6, 7, 8, 9, 10, 11, 12, 13, 14, 15, 16, 17, 18, 19, 35] rfl
  refine va_calli (vx_runSW (As := [.ref (a 0), .int (xs ((5 * j) + 1)), .ref q]) (rest := []) ⟨hx, hb, hml, hown, hts⟩ (c_L_eat l hl9 dC dI a k S q kq f H.size (xs ((5 * j) + 1)) hI) (vx_cwSW 3 hts gL_law_L_eat rfl rfl rfl (by decide +kernel) ⟨(Nat.le_of_ble_eq_true rfl), (Nat.le_of_ble_eq_true rfl)⟩) ⟨cV_blind, fun U hU hW => ⟨rfl, cV_of hKc hPc hDc hE hS hU hW hF⟩⟩ rfl rfl hl.1 rfl (lv_room (Nat.le_of_ble_eq_true rfl)) dL_law_1387 ⟨(by show cells + 8 ≤ room_1.cells; exact Nat.le_trans (by omega) rm_c), (by show slots + 48 ≤ room_1.slots; exact Nat.le_trans (by omega) rm_s)⟩) hS (fun z _ h => hF z h) hF (fun r8 f8 t8 H1 L1 ht hvm hw hB hz1 hk1 hS => ?_)
  obtain ⟨hr8, hf8⟩ := hw
  subst hr8
  obtain ⟨hP9, -, hD9⟩ := hB
  rw [ht] at hP9
  obtain ⟨hP8, hD8⟩ := va_join (wc := (cb_w a k S ++ [(q, .inl (kq, (1, .inr (.inl (f)))))])) (wr := (mb_w am km S th)) hP hD [0, 1, 2, 3, 4, 5, 6, 7, 8, 9, 10, 11, 12, 13, 14, 15, 16, 17, 18, 19, 35] [20, 21, 22, 23, 24, 25, 26, 27, 28, 29, 30, 31, 32, 33, 34] rfl rfl (by decide) (by decide) hk1 hF hP9 hD9
  have hP : va_P (dC, dI) vwCl (cb_w a k (kS (k_eat S (xs ((5 * j) + 1))) (S_eat S (xs ((5 * j) + 1))) S) ++ (mb_w am km S th ++ [(q, .inl (kq, (1, .inr (.inl (f8)))))])) H1 := hP8.sub [15, 16, 17, 18, 19, 20, 21, 22, 23, 24, 25, 26, 27, 28, 29, 30, 31, 32, 33, 34, 0, 1, 2, 3, 4, 5, 6, 7, 8, 9, 10, 11, 12, 13, 14, 35] rfl
  have hD : va_D (fun z => s.heap.size ≤ z) (cb_w a k (kS (k_eat S (xs ((5 * j) + 1))) (S_eat S (xs ((5 * j) + 1))) S) ++ (mb_w am km S th ++ [(q, .inl (kq, (1, .inr (.inl (f8)))))])) := hD8.sub [15, 16, 17, 18, 19, 20, 21, 22, 23, 24, 25, 26, 27, 28, 29, 30, 31, 32, 33, 34, 0, 1, 2, 3, 4, 5, 6, 7, 8, 9, 10, 11, 12, 13, 14, 35] (by decide) rfl
  refine lv_istore (lv' := [(5, .int (nI (k_eat S (xs ((5 * j) + 1))))), (0, .ref b), (1, .ref (a 0)), (2, .ref (am 0)), (3, .ref q), (4, .int (nI (5 * j)))]) hx hb dL_law_1390 hl (by decide) rfl (fun ls hl => ?_)
  refine lv_aload_n hx hb dL_law_1392 rfl (lv_at hl 3 rfl) ?_
  refine lv_aload_n hx hb dL_law_1393 rfl (lv_at hl 1 rfl) ?_
  refine lv_iload hx hb dL_law_1394 (lv_at hl 5 rfl) ?_
  refine lv_iconst (v := nI 1) hx hb dL_law_1396 (by decide) ?_
  refine lv_iadd hx hb dL_law_1397 ?_
  refine cb_topi (nI_add _ _) ?_
  refine va_sld hx hb hX hbl hbA hS (i := nI ((5 * j) + 1)) (vp_in_nI (show (5 * j) + 1 < L by omega) (by omega)) dL_law_1398 ?_
  refine cb_topi (z := xs ((5 * j) + 1)) (congrArg xs (tn (by omega))) ?_
  have hPc := hP.sub (ws' := (mb_w am km S th)) [20, 21, 22, 23, 24, 25, 26, 27, 28, 29, 30, 31, 32, 33, 34] rfl
  have hDc := hD.sub (ws' := (mb_w am km S th)) [20, 21, 22, 23, 24, 25, 26, 27, 28, 29, 30, 31, 32, 33, 34] (by decide) rfl
  have hKc := hK.sub (tys' := (mb_ty km)) [14, 15, 16, 17, 18, 19, 20, 21, 22, 23, 24, 25, 26, 27] rfl
  have hF : ∀ z, va_A (mb_w am km S th) H1.size z → s.heap.size ≤ z := va_free hD hS hA [20, 21, 22, 23, 24, 25, 26, 27, 28, 29, 30, 31, 32, 33, 34] rfl
  refine va_calli (va_runV (As := [.int (xs ((5 * j) + 1))]) (rest := []) ⟨hx, hb, hml, hown, hts⟩ (c_X6_eat l dC dI am km S th H1.size (xs ((5 * j) + 1)) hI) (cwV 1 hts gL_law_X6_eat rfl rfl rfl (by decide +kernel) ⟨(Nat.le_of_ble_eq_true rfl), (Nat.le_of_ble_eq_true rfl)⟩) ⟨cT_blind, va_recv hKc hPc (ci := 6) (q0 := 0) rfl rfl, fun U hU hW => ⟨rfl, cT_of hKc hPc hDc hU hW⟩⟩ rfl rfl hl.1 rfl (lv_room (Nat.le_of_ble_eq_true rfl)) dL_law_1399 ⟨(by show (cells + 8) + 0 ≤ room_1.cells; exact Nat.le_trans (by omega) rm_c), (by show (slots + 48) + 0 ≤ room_1.slots; exact Nat.le_trans (by omega) rm_s)⟩) hS (fun z _ h => hF z h) hF (fun r9 u9 t9 H2 L2 ht hvm hr9 hB hz1 hk1 hS => ?_)
  obtain ⟨hP9, -, hD9⟩ := hB
  rw [ht] at hP9
  obtain ⟨hP8, hD8⟩ := va_join (wc := (mb_w am km S th)) (wr := ((cb_w a k (kS (k_eat S (xs ((5 * j) + 1))) (S_eat S (xs ((5 * j) + 1))) S)) ++ [(q, .inl (kq, (1, .inr (.inl (f8)))))])) hP hD [20, 21, 22, 23, 24, 25, 26, 27, 28, 29, 30, 31, 32, 33, 34] [0, 1, 2, 3, 4, 5, 6, 7, 8, 9, 10, 11, 12, 13, 14, 15, 16, 17, 18, 19, 35] rfl rfl (by decide) (by decide) hk1 hF hP9 hD9
  have hP : va_P (dC, dI) vwCl (cb_w a k (kS (k_eat S (xs ((5 * j) + 1))) (S_eat S (xs ((5 * j) + 1))) S) ++ (mb_w am km (kS (k_eat S (xs ((5 * j) + 1))) (S_eat S (xs ((5 * j) + 1))) S) (k_eat S (xs ((5 * j) + 1))) ++ [(q, .inl (kq, (1, .inr (.inl (f8)))))])) H2 := hP8.sub [0, 1, 2, 3, 4, 5, 6, 7, 8, 9, 10, 11, 12, 13, 14, 15, 16, 17, 18, 19, 21, 22, 23, 24, 25, 26, 27, 28, 29, 30, 31, 32, 33, 34, 35, 20] rfl
  have hD : va_D (fun z => s.heap.size ≤ z) (cb_w a k (kS (k_eat S (xs ((5 * j) + 1))) (S_eat S (xs ((5 * j) + 1))) S) ++ (mb_w am km (kS (k_eat S (xs ((5 * j) + 1))) (S_eat S (xs ((5 * j) + 1))) S) (k_eat S (xs ((5 * j) + 1))) ++ [(q, .inl (kq, (1, .inr (.inl (f8)))))])) := hD8.sub [0, 1, 2, 3, 4, 5, 6, 7, 8, 9, 10, 11, 12, 13, 14, 15, 16, 17, 18, 19, 21, 22, 23, 24, 25, 26, 27, 28, 29, 30, 31, 32, 33, 34, 35, 20] (by decide) rfl
  refine lv_istore (lv' := [(6, .int r9), (5, .int (nI (k_eat S (xs ((5 * j) + 1))))), (0, .ref b), (1, .ref (a 0)), (2, .ref (am 0)), (3, .ref q), (4, .int (nI (5 * j)))]) hx hb dL_law_1402 hl (by decide) rfl (fun ls hl => ?_)
  refine lv_aload_n hx hb dL_law_1404 rfl (lv_at hl 4 rfl) ?_
  have hPc := hP.sub (ws' := (mb_w am km (kS (k_eat S (xs ((5 * j) + 1))) (S_eat S (xs ((5 * j) + 1))) S) (k_eat S (xs ((5 * j) + 1))))) [20, 21, 22, 23, 24, 25, 26, 27, 28, 29, 30, 31, 32, 33, 34] rfl
  have hDc := hD.sub (ws' := (mb_w am km (kS (k_eat S (xs ((5 * j) + 1))) (S_eat S (xs ((5 * j) + 1))) S) (k_eat S (xs ((5 * j) + 1))))) [20, 21, 22, 23, 24, 25, 26, 27, 28, 29, 30, 31, 32, 33, 34] (by decide) rfl
  have hKc := hK.sub (tys' := (mb_ty km)) [14, 15, 16, 17, 18, 19, 20, 21, 22, 23, 24, 25, 26, 27] rfl
  refine vp_callSi (W.runV (As := []) (rest := []) ⟨hx, hb, hml, hown, hts⟩ (c_X6_thrown l dC dI am km (kS (k_eat S (xs ((5 * j) + 1))) (S_eat S (xs ((5 * j) + 1))) S) (k_eat S (xs ((5 * j) + 1)))) (cwV 0 hts gL_law_X6_thrown rfl rfl rfl (by decide +kernel) ⟨(Nat.le_of_ble_eq_true rfl), (Nat.le_of_ble_eq_true rfl)⟩) ⟨cR_blind, va_recv hKc hPc (ci := 6) (q0 := 0) rfl rfl, fun U hU hW => ⟨rfl, cR_of hKc hPc hU hW⟩⟩ rfl rfl hl.1 rfl (lv_room (Nat.le_of_ble_eq_true rfl)) dL_law_1405 ⟨(by show ((cells + 8) + 0) + 0 ≤ room_1.cells; exact Nat.le_trans (by omega) rm_c), (by show ((slots + 48) + 0) + 0 ≤ room_1.slots; exact Nat.le_trans (by omega) rm_s)⟩) (fun r er => ?_)
  subst er
  refine lv_iload hx hb dL_law_1408 (lv_at hl 1 rfl) ?_
  refine lv_icmp_eq (tgt := 1415) hx hb dL_law_1410 (by decide) (fun c_1410 => ?_) (fun c_1410 => ?_)
  · skip
    refine lv_iload hx hb dL_law_1415 (lv_at hl 1 rfl) ?_
    refine lv_if_ne (tgt := 1432) hx hb dL_law_1417 (by decide) (fun c_1417 => ?_) (fun c_1417 => ?_)
    · skip
      refine lv_goto (tgt := 2067) hx hb dL_law_1432 (by decide) ?_
      refine W.widen (k := cells + 231) (n := slots + 1597) (by omega) (by omega) ?_
      exact kk (kS (k_eat S (xs ((5 * j) + 1))) (S_eat S (xs ((5 * j) + 1))) S) (k_eat S (xs ((5 * j) + 1))) f8 H2 _ ls (inv_kS hI (fun h9 => inv_eat hI h9)) hP hD hS (lv_sub hl [2, 3, 4, 5, 6] rfl)
    · skip
      have h0 := kz kb_eat c_1417
      refine lv_aload_n hx hb dL_law_1420 rfl (lv_at hl 5 rfl) ?_
      refine lv_iconst (v := nI 0) hx hb dL_law_1421 (by decide) ?_
      refine cb_lald hx hb hK hP 35 28 (f := f8) rfl rfl (j := 0) (by omega) (Nat.le_of_ble_eq_true rfl) dL_law_1422 ?_
      refine lv_iload hx hb dL_law_1423 (lv_at hl 0 rfl) ?_
      refine lv_i2l hx hb dL_law_1425 rfl ?_
      refine W.lcmp hx hb dL_law_1426 ?_
      refine lv_if_eq (tgt := 1432) hx hb dL_law_1427 (by decide) (fun c_1427 => ?_) (fun c_1427 => ?_)
      · have c_1427 : (f8 0) = r9.toInt64 := lg_cmp_t c_1427
        refine lv_goto (tgt := 2067) hx hb dL_law_1432 (by decide) ?_
        refine W.widen (k := cells + 231) (n := slots + 1597) (by omega) (by omega) ?_
        exact kk (kS (k_eat S (xs ((5 * j) + 1))) (S_eat S (xs ((5 * j) + 1))) S) (k_eat S (xs ((5 * j) + 1))) f8 H2 _ ls (inv_kS hI (fun h9 => inv_eat hI h9)) hP hD hS (lv_sub hl [2, 3, 4, 5, 6] rfl)
      · have c_1427 : ¬ (f8 0) = r9.toInt64 := lg_cmp_f c_1427
        exact absurd (by rw [hf8 h0, hr9 h0]) c_1427
  · skip
    exact absurd rfl c_1410
theorem kb_table {x0 : Int32} : k_table x0 < 4 := by unfold k_table; (repeat' split) <;> decide
set_option maxHeartbeats 4000000 in
set_option maxRecDepth 100000 in
theorem lc_table {p : Program} {l : Launch} {e : Env} {s : State} {m : MethodId} {below : List Frame} {meth : Method} {c : Code} {b L : Nat} {xs : Nat → Int32} {dC : Nat → ClassId} {dI : Nat → Nat → Nat} {a : Nat → Nat} {k : Nat → ClassId} {am : Nat → Nat} {km : Nat → ClassId} {q : Nat} {kq : ClassId} (hl9 : l.stackTraces = false) (C0 : LC p s m c b L xs dC dI k km kq) {S : cs_S} {th : Nat} {f : Nat → Int64} {H : Heap} {locs : List Loc} {j : Nat} {ls : Array Slot} {cells slots : Nat} {Q : State → Prop} (hI : Inv S) (hP : va_P (dC, dI) vwCl (cb_w a k S ++ (mb_w am km S th ++ [(q, .inl (kq, (1, .inr (.inl (f)))))])) H) (hD : va_D (fun z => s.heap.size ≤ z) (cb_w a k S ++ (mb_w am km S th ++ [(q, .inl (kq, (1, .inr (.inl (f)))))]))) (hS : va_S (fun z => s.heap.size ≤ z) s.heap H locs) (hj : 5 * j + 5 ≤ L) (hl : lv_has ls 9 [(0, .ref b), (1, .ref (a 0)), (2, .ref (am 0)), (3, .ref q), (4, .int (nI (5 * j)))]) (hc : cells + 231 ≤ 200000) (hs : slots + 1597 ≤ 2000000) (kk : KK p l e s m below meth c b dC dI a k am km q kq j cells slots Q) : W p l e room_1 s m #[Value.ref b] below meth c H locs cells slots Q (F0 m 1435 ls []) := by
  obtain ⟨hx, hb, hml, hown, hts, hX, hbl, hL, hK, hE⟩ := C0
  have hbA : ¬ (fun z => s.heap.size ≤ z) b := Nat.not_le.mpr hbl
  have hA : ∀ z : Nat, s.heap.size ≤ z → (fun z => s.heap.size ≤ z) z := fun _ h => h
  refine lv_aload_n hx hb dL_law_1435 rfl (lv_at hl 1 rfl) ?_
  refine lv_aload_n hx hb dL_law_1436 rfl (lv_at hl 0 rfl) ?_
  refine lv_iload hx hb dL_law_1437 (lv_at hl 4 rfl) ?_
  refine lv_iconst (v := nI 1) hx hb dL_law_1439 (by decide) ?_
  refine lv_iadd hx hb dL_law_1440 ?_
  refine cb_topi (nI_add _ _) ?_
  refine va_sld hx hb hX hbl hbA hS (i := nI ((5 * j) + 1)) (vp_in_nI (show (5 * j) + 1 < L by omega) (by omega)) dL_law_1441 ?_
  refine cb_topi (z := xs ((5 * j) + 1)) (congrArg xs (tn (by omega))) ?_
  refine lv_aload_n hx hb dL_law_1442 rfl (lv_at hl 3 rfl) ?_
  have hPc := hP.sub (ws' := (cb_w a k S ++ [(q, .inl (kq, (1, .inr (.inl (f)))))])) [0, 1, 2, 3, 4, 5, 6, 7, 8, 9, 10, 11, 12, 13, 14, 15, 16, 17, 18, 19, 35] rfl
  have hDc := hD.sub (ws' := (cb_w a k S ++ [(q, .inl (kq, (1, .inr (.inl (f)))))])) [0, 1, 2, 3, 4, 5, 6, 7, 8, 9, 10, 11, 12, 13, 14, 15, 16, 17, 18, 19, 35] (by decide) rfl
  have hKc := hK.sub (tys' := (cb_ty k ++ [(kq, .long)])) [0, 1, 2, 3, 4, 5, 6, 7, 8, 9, 10, 11, 12, 13, 28] rfl
  have hF : ∀ z, va_A (cb_w a k S ++ [(q, .inl (kq, (1, .inr (.inl (f)))))]) H.size z → s.heap.size ≤ z := va_free hD hS hA [0, 1, 2, 3, 4, 5, 6, 7, 8, 9, 10, 11, 12, 13, 14, 15, 16, 17, 18, 19, 35] rfl
  refine va_calli (vx_runSW (As := [.ref (a 0), .int (xs ((5 * j) + 1)), .ref q]) (rest := []) ⟨hx, hb, hml, hown, hts⟩ (c_L_table l hl9 dC dI a k S q kq f H.size (xs ((5 * j) + 1)) hI) (vx_cwSW 3 hts gL_law_L_table rfl rfl rfl (by decide +kernel) ⟨(Nat.le_of_ble_eq_true rfl), (Nat.le_of_ble_eq_true rfl)⟩) ⟨cV_blind, fun U hU hW => ⟨rfl, cV_of hKc hPc hDc hE hS hU hW hF⟩⟩ rfl rfl hl.1 rfl (lv_room (Nat.le_of_ble_eq_true rfl)) dL_law_1443 ⟨(by show cells + 8 ≤ room_1.cells; exact Nat.le_trans (by omega) rm_c), (by show slots + 48 ≤ room_1.slots; exact Nat.le_trans (by omega) rm_s)⟩) hS (fun z _ h => hF z h) hF (fun r8 f8 t8 H1 L1 ht hvm hw hB hz1 hk1 hS => ?_)
  obtain ⟨hr8, hf8⟩ := hw
  subst hr8
  obtain ⟨hP9, -, hD9⟩ := hB
  rw [ht] at hP9
  obtain ⟨hP8, hD8⟩ := va_join (wc := (cb_w a k S ++ [(q, .inl (kq, (1, .inr (.inl (f)))))])) (wr := (mb_w am km S th)) hP hD [0, 1, 2, 3, 4, 5, 6, 7, 8, 9, 10, 11, 12, 13, 14, 15, 16, 17, 18, 19, 35] [20, 21, 22, 23, 24, 25, 26, 27, 28, 29, 30, 31, 32, 33, 34] rfl rfl (by decide) (by decide) hk1 hF hP9 hD9
  have hP : va_P (dC, dI) vwCl (cb_w a k S ++ (mb_w am km S th ++ [(q, .inl (kq, (1, .inr (.inl (f8)))))])) H1 := hP8.sub [15, 16, 17, 18, 19, 20, 21, 22, 23, 24, 25, 26, 27, 28, 29, 30, 31, 32, 33, 34, 0, 1, 2, 3, 4, 5, 6, 7, 8, 9, 10, 11, 12, 13, 14, 35] rfl
  have hD : va_D (fun z => s.heap.size ≤ z) (cb_w a k S ++ (mb_w am km S th ++ [(q, .inl (kq, (1, .inr (.inl (f8)))))])) := hD8.sub [15, 16, 17, 18, 19, 20, 21, 22, 23, 24, 25, 26, 27, 28, 29, 30, 31, 32, 33, 34, 0, 1, 2, 3, 4, 5, 6, 7, 8, 9, 10, 11, 12, 13, 14, 35] (by decide) rfl
  refine lv_istore (lv' := [(5, .int (nI (k_table (xs ((5 * j) + 1))))), (0, .ref b), (1, .ref (a 0)), (2, .ref (am 0)), (3, .ref q), (4, .int (nI (5 * j)))]) hx hb dL_law_1446 hl (by decide) rfl (fun ls hl => ?_)
  refine lv_aload_n hx hb dL_law_1448 rfl (lv_at hl 3 rfl) ?_
  refine lv_aload_n hx hb dL_law_1449 rfl (lv_at hl 1 rfl) ?_
  refine lv_iload hx hb dL_law_1450 (lv_at hl 5 rfl) ?_
  refine lv_iconst (v := nI 1) hx hb dL_law_1452 (by decide) ?_
  refine lv_iadd hx hb dL_law_1453 ?_
  refine cb_topi (nI_add _ _) ?_
  refine va_sld hx hb hX hbl hbA hS (i := nI ((5 * j) + 1)) (vp_in_nI (show (5 * j) + 1 < L by omega) (by omega)) dL_law_1454 ?_
  refine cb_topi (z := xs ((5 * j) + 1)) (congrArg xs (tn (by omega))) ?_
  have hPc := hP.sub (ws' := (mb_w am km S th)) [20, 21, 22, 23, 24, 25, 26, 27, 28, 29, 30, 31, 32, 33, 34] rfl
  have hDc := hD.sub (ws' := (mb_w am km S th)) [20, 21, 22, 23, 24, 25, 26, 27, 28, 29, 30, 31, 32, 33, 34] (by decide) rfl
  have hKc := hK.sub (tys' := (mb_ty km)) [14, 15, 16, 17, 18, 19, 20, 21, 22, 23, 24, 25, 26, 27] rfl
  have hF : ∀ z, va_A (mb_w am km S th) H1.size z → s.heap.size ≤ z := va_free hD hS hA [20, 21, 22, 23, 24, 25, 26, 27, 28, 29, 30, 31, 32, 33, 34] rfl
  refine va_calli (va_runV (As := [.int (xs ((5 * j) + 1))]) (rest := []) ⟨hx, hb, hml, hown, hts⟩ (c_X6_table l dC dI am km S th H1.size (xs ((5 * j) + 1)) hI) (cwV 1 hts gL_law_X6_table rfl rfl rfl (by decide +kernel) ⟨(Nat.le_of_ble_eq_true rfl), (Nat.le_of_ble_eq_true rfl)⟩) ⟨cT_blind, va_recv hKc hPc (ci := 6) (q0 := 0) rfl rfl, fun U hU hW => ⟨rfl, cT_of hKc hPc hDc hU hW⟩⟩ rfl rfl hl.1 rfl (lv_room (Nat.le_of_ble_eq_true rfl)) dL_law_1455 ⟨(by show (cells + 8) + 0 ≤ room_1.cells; exact Nat.le_trans (by omega) rm_c), (by show (slots + 48) + 0 ≤ room_1.slots; exact Nat.le_trans (by omega) rm_s)⟩) hS (fun z _ h => hF z h) hF (fun r9 u9 t9 H2 L2 ht hvm hr9 hB hz1 hk1 hS => ?_)
  obtain ⟨hP9, -, hD9⟩ := hB
  rw [ht] at hP9
  obtain ⟨hP8, hD8⟩ := va_join (wc := (mb_w am km S th)) (wr := ((cb_w a k S) ++ [(q, .inl (kq, (1, .inr (.inl (f8)))))])) hP hD [20, 21, 22, 23, 24, 25, 26, 27, 28, 29, 30, 31, 32, 33, 34] [0, 1, 2, 3, 4, 5, 6, 7, 8, 9, 10, 11, 12, 13, 14, 15, 16, 17, 18, 19, 35] rfl rfl (by decide) (by decide) hk1 hF hP9 hD9
  have hP : va_P (dC, dI) vwCl (cb_w a k S ++ (mb_w am km S (k_table (xs ((5 * j) + 1))) ++ [(q, .inl (kq, (1, .inr (.inl (f8)))))])) H2 := hP8.sub [0, 1, 2, 3, 4, 5, 6, 7, 8, 9, 10, 11, 12, 13, 14, 15, 16, 17, 18, 19, 21, 22, 23, 24, 25, 26, 27, 28, 29, 30, 31, 32, 33, 34, 35, 20] rfl
  have hD : va_D (fun z => s.heap.size ≤ z) (cb_w a k S ++ (mb_w am km S (k_table (xs ((5 * j) + 1))) ++ [(q, .inl (kq, (1, .inr (.inl (f8)))))])) := hD8.sub [0, 1, 2, 3, 4, 5, 6, 7, 8, 9, 10, 11, 12, 13, 14, 15, 16, 17, 18, 19, 21, 22, 23, 24, 25, 26, 27, 28, 29, 30, 31, 32, 33, 34, 35, 20] (by decide) rfl
  refine lv_istore (lv' := [(6, .int r9), (5, .int (nI (k_table (xs ((5 * j) + 1))))), (0, .ref b), (1, .ref (a 0)), (2, .ref (am 0)), (3, .ref q), (4, .int (nI (5 * j)))]) hx hb dL_law_1458 hl (by decide) rfl (fun ls hl => ?_)
  refine lv_aload_n hx hb dL_law_1460 rfl (lv_at hl 4 rfl) ?_
  have hPc := hP.sub (ws' := (mb_w am km S (k_table (xs ((5 * j) + 1))))) [20, 21, 22, 23, 24, 25, 26, 27, 28, 29, 30, 31, 32, 33, 34] rfl
  have hDc := hD.sub (ws' := (mb_w am km S (k_table (xs ((5 * j) + 1))))) [20, 21, 22, 23, 24, 25, 26, 27, 28, 29, 30, 31, 32, 33, 34] (by decide) rfl
  have hKc := hK.sub (tys' := (mb_ty km)) [14, 15, 16, 17, 18, 19, 20, 21, 22, 23, 24, 25, 26, 27] rfl
  refine vp_callSi (W.runV (As := []) (rest := []) ⟨hx, hb, hml, hown, hts⟩ (c_X6_thrown l dC dI am km S (k_table (xs ((5 * j) + 1)))) (cwV 0 hts gL_law_X6_thrown rfl rfl rfl (by decide +kernel) ⟨(Nat.le_of_ble_eq_true rfl), (Nat.le_of_ble_eq_true rfl)⟩) ⟨cR_blind, va_recv hKc hPc (ci := 6) (q0 := 0) rfl rfl, fun U hU hW => ⟨rfl, cR_of hKc hPc hU hW⟩⟩ rfl rfl hl.1 rfl (lv_room (Nat.le_of_ble_eq_true rfl)) dL_law_1461 ⟨(by show ((cells + 8) + 0) + 0 ≤ room_1.cells; exact Nat.le_trans (by omega) rm_c), (by show ((slots + 48) + 0) + 0 ≤ room_1.slots; exact Nat.le_trans (by omega) rm_s)⟩) (fun r er => ?_)
  subst er
  refine lv_iload hx hb dL_law_1464 (lv_at hl 1 rfl) ?_
  refine lv_icmp_eq (tgt := 1471) hx hb dL_law_1466 (by decide) (fun c_1466 => ?_) (fun c_1466 => ?_)
  · skip
    refine lv_iload hx hb dL_law_1471 (lv_at hl 1 rfl) ?_
    refine lv_if_ne (tgt := 1488) hx hb dL_law_1473 (by decide) (fun c_1473 => ?_) (fun c_1473 => ?_)
    · skip
      refine lv_goto (tgt := 2067) hx hb dL_law_1488 (by decide) ?_
      refine W.widen (k := cells + 231) (n := slots + 1597) (by omega) (by omega) ?_
      exact kk S (k_table (xs ((5 * j) + 1))) f8 H2 _ ls hI hP hD hS (lv_sub hl [2, 3, 4, 5, 6] rfl)
    · skip
      have h0 := kz kb_table c_1473
      refine lv_aload_n hx hb dL_law_1476 rfl (lv_at hl 5 rfl) ?_
      refine lv_iconst (v := nI 0) hx hb dL_law_1477 (by decide) ?_
      refine cb_lald hx hb hK hP 35 28 (f := f8) rfl rfl (j := 0) (by omega) (Nat.le_of_ble_eq_true rfl) dL_law_1478 ?_
      refine lv_iload hx hb dL_law_1479 (lv_at hl 0 rfl) ?_
      refine lv_i2l hx hb dL_law_1481 rfl ?_
      refine W.lcmp hx hb dL_law_1482 ?_
      refine lv_if_eq (tgt := 1488) hx hb dL_law_1483 (by decide) (fun c_1483 => ?_) (fun c_1483 => ?_)
      · have c_1483 : (f8 0) = r9.toInt64 := lg_cmp_t c_1483
        refine lv_goto (tgt := 2067) hx hb dL_law_1488 (by decide) ?_
        refine W.widen (k := cells + 231) (n := slots + 1597) (by omega) (by omega) ?_
        exact kk S (k_table (xs ((5 * j) + 1))) f8 H2 _ ls hI hP hD hS (lv_sub hl [2, 3, 4, 5, 6] rfl)
      · have c_1483 : ¬ (f8 0) = r9.toInt64 := lg_cmp_f c_1483
        exact absurd (by rw [hf8 h0, hr9 h0]) c_1483
  · skip
    exact absurd rfl c_1466
theorem kb_addBadge {S : cs_S} {x0 : Int32} : k_addBadge S x0 < 4 := by unfold k_addBadge; (repeat' split) <;> decide
set_option maxHeartbeats 4000000 in
set_option maxRecDepth 100000 in
theorem lc_addBadge {p : Program} {l : Launch} {e : Env} {s : State} {m : MethodId} {below : List Frame} {meth : Method} {c : Code} {b L : Nat} {xs : Nat → Int32} {dC : Nat → ClassId} {dI : Nat → Nat → Nat} {a : Nat → Nat} {k : Nat → ClassId} {am : Nat → Nat} {km : Nat → ClassId} {q : Nat} {kq : ClassId} (hl9 : l.stackTraces = false) (C0 : LC p s m c b L xs dC dI k km kq) {S : cs_S} {th : Nat} {f : Nat → Int64} {H : Heap} {locs : List Loc} {j : Nat} {ls : Array Slot} {cells slots : Nat} {Q : State → Prop} (hI : Inv S) (hP : va_P (dC, dI) vwCl (cb_w a k S ++ (mb_w am km S th ++ [(q, .inl (kq, (1, .inr (.inl (f)))))])) H) (hD : va_D (fun z => s.heap.size ≤ z) (cb_w a k S ++ (mb_w am km S th ++ [(q, .inl (kq, (1, .inr (.inl (f)))))]))) (hS : va_S (fun z => s.heap.size ≤ z) s.heap H locs) (hj : 5 * j + 5 ≤ L) (hl : lv_has ls 9 [(0, .ref b), (1, .ref (a 0)), (2, .ref (am 0)), (3, .ref q), (4, .int (nI (5 * j)))]) (hc : cells + 231 ≤ 200000) (hs : slots + 1597 ≤ 2000000) (kk : KK p l e s m below meth c b dC dI a k am km q kq j cells slots Q) : W p l e room_1 s m #[Value.ref b] below meth c H locs cells slots Q (F0 m 1491 ls []) := by
  obtain ⟨hx, hb, hml, hown, hts, hX, hbl, hL, hK, hE⟩ := C0
  have hbA : ¬ (fun z => s.heap.size ≤ z) b := Nat.not_le.mpr hbl
  have hA : ∀ z : Nat, s.heap.size ≤ z → (fun z => s.heap.size ≤ z) z := fun _ h => h
  refine lv_aload_n hx hb dL_law_1491 rfl (lv_at hl 1 rfl) ?_
  refine lv_aload_n hx hb dL_law_1492 rfl (lv_at hl 0 rfl) ?_
  refine lv_iload hx hb dL_law_1493 (lv_at hl 4 rfl) ?_
  refine lv_iconst (v := nI 1) hx hb dL_law_1495 (by decide) ?_
  refine lv_iadd hx hb dL_law_1496 ?_
  refine cb_topi (nI_add _ _) ?_
  refine va_sld hx hb hX hbl hbA hS (i := nI ((5 * j) + 1)) (vp_in_nI (show (5 * j) + 1 < L by omega) (by omega)) dL_law_1497 ?_
  refine cb_topi (z := xs ((5 * j) + 1)) (congrArg xs (tn (by omega))) ?_
  refine lv_aload_n hx hb dL_law_1498 rfl (lv_at hl 3 rfl) ?_
  have hPc := hP.sub (ws' := (cb_w a k S ++ [(q, .inl (kq, (1, .inr (.inl (f)))))])) [0, 1, 2, 3, 4, 5, 6, 7, 8, 9, 10, 11, 12, 13, 14, 15, 16, 17, 18, 19, 35] rfl
  have hDc := hD.sub (ws' := (cb_w a k S ++ [(q, .inl (kq, (1, .inr (.inl (f)))))])) [0, 1, 2, 3, 4, 5, 6, 7, 8, 9, 10, 11, 12, 13, 14, 15, 16, 17, 18, 19, 35] (by decide) rfl
  have hKc := hK.sub (tys' := (cb_ty k ++ [(kq, .long)])) [0, 1, 2, 3, 4, 5, 6, 7, 8, 9, 10, 11, 12, 13, 28] rfl
  have hF : ∀ z, va_A (cb_w a k S ++ [(q, .inl (kq, (1, .inr (.inl (f)))))]) H.size z → s.heap.size ≤ z := va_free hD hS hA [0, 1, 2, 3, 4, 5, 6, 7, 8, 9, 10, 11, 12, 13, 14, 15, 16, 17, 18, 19, 35] rfl
  refine va_calli (vx_runSW (As := [.ref (a 0), .int (xs ((5 * j) + 1)), .ref q]) (rest := []) ⟨hx, hb, hml, hown, hts⟩ (c_L_addBadge l hl9 dC dI a k S q kq f H.size (xs ((5 * j) + 1)) hI) (vx_cwSW 3 hts gL_law_L_addBadge rfl rfl rfl (by decide +kernel) ⟨(Nat.le_of_ble_eq_true rfl), (Nat.le_of_ble_eq_true rfl)⟩) ⟨cV_blind, fun U hU hW => ⟨rfl, cV_of hKc hPc hDc hE hS hU hW hF⟩⟩ rfl rfl hl.1 rfl (lv_room (Nat.le_of_ble_eq_true rfl)) dL_law_1499 ⟨(by show cells + 8 ≤ room_1.cells; exact Nat.le_trans (by omega) rm_c), (by show slots + 48 ≤ room_1.slots; exact Nat.le_trans (by omega) rm_s)⟩) hS (fun z _ h => hF z h) hF (fun r8 f8 t8 H1 L1 ht hvm hw hB hz1 hk1 hS => ?_)
  obtain ⟨hr8, hf8⟩ := hw
  subst hr8
  obtain ⟨hP9, -, hD9⟩ := hB
  rw [ht] at hP9
  obtain ⟨hP8, hD8⟩ := va_join (wc := (cb_w a k S ++ [(q, .inl (kq, (1, .inr (.inl (f)))))])) (wr := (mb_w am km S th)) hP hD [0, 1, 2, 3, 4, 5, 6, 7, 8, 9, 10, 11, 12, 13, 14, 15, 16, 17, 18, 19, 35] [20, 21, 22, 23, 24, 25, 26, 27, 28, 29, 30, 31, 32, 33, 34] rfl rfl (by decide) (by decide) hk1 hF hP9 hD9
  have hP : va_P (dC, dI) vwCl (cb_w a k (kS (k_addBadge S (xs ((5 * j) + 1))) (S_addBadge S (xs ((5 * j) + 1))) S) ++ (mb_w am km S th ++ [(q, .inl (kq, (1, .inr (.inl (f8)))))])) H1 := hP8.sub [15, 16, 17, 18, 19, 20, 21, 22, 23, 24, 25, 26, 27, 28, 29, 30, 31, 32, 33, 34, 0, 1, 2, 3, 4, 5, 6, 7, 8, 9, 10, 11, 12, 13, 14, 35] rfl
  have hD : va_D (fun z => s.heap.size ≤ z) (cb_w a k (kS (k_addBadge S (xs ((5 * j) + 1))) (S_addBadge S (xs ((5 * j) + 1))) S) ++ (mb_w am km S th ++ [(q, .inl (kq, (1, .inr (.inl (f8)))))])) := hD8.sub [15, 16, 17, 18, 19, 20, 21, 22, 23, 24, 25, 26, 27, 28, 29, 30, 31, 32, 33, 34, 0, 1, 2, 3, 4, 5, 6, 7, 8, 9, 10, 11, 12, 13, 14, 35] (by decide) rfl
  refine lv_istore (lv' := [(5, .int (nI (k_addBadge S (xs ((5 * j) + 1))))), (0, .ref b), (1, .ref (a 0)), (2, .ref (am 0)), (3, .ref q), (4, .int (nI (5 * j)))]) hx hb dL_law_1502 hl (by decide) rfl (fun ls hl => ?_)
  refine lv_aload_n hx hb dL_law_1504 rfl (lv_at hl 3 rfl) ?_
  refine lv_aload_n hx hb dL_law_1505 rfl (lv_at hl 1 rfl) ?_
  refine lv_iload hx hb dL_law_1506 (lv_at hl 5 rfl) ?_
  refine lv_iconst (v := nI 1) hx hb dL_law_1508 (by decide) ?_
  refine lv_iadd hx hb dL_law_1509 ?_
  refine cb_topi (nI_add _ _) ?_
  refine va_sld hx hb hX hbl hbA hS (i := nI ((5 * j) + 1)) (vp_in_nI (show (5 * j) + 1 < L by omega) (by omega)) dL_law_1510 ?_
  refine cb_topi (z := xs ((5 * j) + 1)) (congrArg xs (tn (by omega))) ?_
  have hPc := hP.sub (ws' := (mb_w am km S th)) [20, 21, 22, 23, 24, 25, 26, 27, 28, 29, 30, 31, 32, 33, 34] rfl
  have hDc := hD.sub (ws' := (mb_w am km S th)) [20, 21, 22, 23, 24, 25, 26, 27, 28, 29, 30, 31, 32, 33, 34] (by decide) rfl
  have hKc := hK.sub (tys' := (mb_ty km)) [14, 15, 16, 17, 18, 19, 20, 21, 22, 23, 24, 25, 26, 27] rfl
  have hF : ∀ z, va_A (mb_w am km S th) H1.size z → s.heap.size ≤ z := va_free hD hS hA [20, 21, 22, 23, 24, 25, 26, 27, 28, 29, 30, 31, 32, 33, 34] rfl
  refine va_calli (va_runV (As := [.int (xs ((5 * j) + 1))]) (rest := []) ⟨hx, hb, hml, hown, hts⟩ (c_X6_addBadge l dC dI am km S th H1.size (xs ((5 * j) + 1)) hI) (cwV 1 hts gL_law_X6_addBadge rfl rfl rfl (by decide +kernel) ⟨(Nat.le_of_ble_eq_true rfl), (Nat.le_of_ble_eq_true rfl)⟩) ⟨cT_blind, va_recv hKc hPc (ci := 6) (q0 := 0) rfl rfl, fun U hU hW => ⟨rfl, cT_of hKc hPc hDc hU hW⟩⟩ rfl rfl hl.1 rfl (lv_room (Nat.le_of_ble_eq_true rfl)) dL_law_1511 ⟨(by show (cells + 8) + 0 ≤ room_1.cells; exact Nat.le_trans (by omega) rm_c), (by show (slots + 48) + 0 ≤ room_1.slots; exact Nat.le_trans (by omega) rm_s)⟩) hS (fun z _ h => hF z h) hF (fun r9 u9 t9 H2 L2 ht hvm hr9 hB hz1 hk1 hS => ?_)
  obtain ⟨hP9, -, hD9⟩ := hB
  rw [ht] at hP9
  obtain ⟨hP8, hD8⟩ := va_join (wc := (mb_w am km S th)) (wr := ((cb_w a k (kS (k_addBadge S (xs ((5 * j) + 1))) (S_addBadge S (xs ((5 * j) + 1))) S)) ++ [(q, .inl (kq, (1, .inr (.inl (f8)))))])) hP hD [20, 21, 22, 23, 24, 25, 26, 27, 28, 29, 30, 31, 32, 33, 34] [0, 1, 2, 3, 4, 5, 6, 7, 8, 9, 10, 11, 12, 13, 14, 15, 16, 17, 18, 19, 35] rfl rfl (by decide) (by decide) hk1 hF hP9 hD9
  have hP : va_P (dC, dI) vwCl (cb_w a k (kS (k_addBadge S (xs ((5 * j) + 1))) (S_addBadge S (xs ((5 * j) + 1))) S) ++ (mb_w am km (kS (k_addBadge S (xs ((5 * j) + 1))) (S_addBadge S (xs ((5 * j) + 1))) S) (k_addBadge S (xs ((5 * j) + 1))) ++ [(q, .inl (kq, (1, .inr (.inl (f8)))))])) H2 := hP8.sub [0, 1, 2, 3, 4, 5, 6, 7, 8, 9, 10, 11, 12, 13, 14, 15, 16, 17, 18, 19, 21, 22, 23, 24, 25, 26, 27, 28, 29, 30, 31, 32, 33, 34, 35, 20] rfl
  have hD : va_D (fun z => s.heap.size ≤ z) (cb_w a k (kS (k_addBadge S (xs ((5 * j) + 1))) (S_addBadge S (xs ((5 * j) + 1))) S) ++ (mb_w am km (kS (k_addBadge S (xs ((5 * j) + 1))) (S_addBadge S (xs ((5 * j) + 1))) S) (k_addBadge S (xs ((5 * j) + 1))) ++ [(q, .inl (kq, (1, .inr (.inl (f8)))))])) := hD8.sub [0, 1, 2, 3, 4, 5, 6, 7, 8, 9, 10, 11, 12, 13, 14, 15, 16, 17, 18, 19, 21, 22, 23, 24, 25, 26, 27, 28, 29, 30, 31, 32, 33, 34, 35, 20] (by decide) rfl
  refine lv_istore (lv' := [(6, .int r9), (5, .int (nI (k_addBadge S (xs ((5 * j) + 1))))), (0, .ref b), (1, .ref (a 0)), (2, .ref (am 0)), (3, .ref q), (4, .int (nI (5 * j)))]) hx hb dL_law_1514 hl (by decide) rfl (fun ls hl => ?_)
  refine lv_aload_n hx hb dL_law_1516 rfl (lv_at hl 4 rfl) ?_
  have hPc := hP.sub (ws' := (mb_w am km (kS (k_addBadge S (xs ((5 * j) + 1))) (S_addBadge S (xs ((5 * j) + 1))) S) (k_addBadge S (xs ((5 * j) + 1))))) [20, 21, 22, 23, 24, 25, 26, 27, 28, 29, 30, 31, 32, 33, 34] rfl
  have hDc := hD.sub (ws' := (mb_w am km (kS (k_addBadge S (xs ((5 * j) + 1))) (S_addBadge S (xs ((5 * j) + 1))) S) (k_addBadge S (xs ((5 * j) + 1))))) [20, 21, 22, 23, 24, 25, 26, 27, 28, 29, 30, 31, 32, 33, 34] (by decide) rfl
  have hKc := hK.sub (tys' := (mb_ty km)) [14, 15, 16, 17, 18, 19, 20, 21, 22, 23, 24, 25, 26, 27] rfl
  refine vp_callSi (W.runV (As := []) (rest := []) ⟨hx, hb, hml, hown, hts⟩ (c_X6_thrown l dC dI am km (kS (k_addBadge S (xs ((5 * j) + 1))) (S_addBadge S (xs ((5 * j) + 1))) S) (k_addBadge S (xs ((5 * j) + 1)))) (cwV 0 hts gL_law_X6_thrown rfl rfl rfl (by decide +kernel) ⟨(Nat.le_of_ble_eq_true rfl), (Nat.le_of_ble_eq_true rfl)⟩) ⟨cR_blind, va_recv hKc hPc (ci := 6) (q0 := 0) rfl rfl, fun U hU hW => ⟨rfl, cR_of hKc hPc hU hW⟩⟩ rfl rfl hl.1 rfl (lv_room (Nat.le_of_ble_eq_true rfl)) dL_law_1517 ⟨(by show ((cells + 8) + 0) + 0 ≤ room_1.cells; exact Nat.le_trans (by omega) rm_c), (by show ((slots + 48) + 0) + 0 ≤ room_1.slots; exact Nat.le_trans (by omega) rm_s)⟩) (fun r er => ?_)
  subst er
  refine lv_iload hx hb dL_law_1520 (lv_at hl 1 rfl) ?_
  refine lv_icmp_eq (tgt := 1527) hx hb dL_law_1522 (by decide) (fun c_1522 => ?_) (fun c_1522 => ?_)
  · skip
    refine lv_iload hx hb dL_law_1527 (lv_at hl 1 rfl) ?_
    refine lv_if_ne (tgt := 1544) hx hb dL_law_1529 (by decide) (fun c_1529 => ?_) (fun c_1529 => ?_)
    · skip
      refine lv_goto (tgt := 2067) hx hb dL_law_1544 (by decide) ?_
      refine W.widen (k := cells + 231) (n := slots + 1597) (by omega) (by omega) ?_
      exact kk (kS (k_addBadge S (xs ((5 * j) + 1))) (S_addBadge S (xs ((5 * j) + 1))) S) (k_addBadge S (xs ((5 * j) + 1))) f8 H2 _ ls (inv_kS hI (fun h9 => inv_addBadge hI h9)) hP hD hS (lv_sub hl [2, 3, 4, 5, 6] rfl)
    · skip
      have h0 := kz kb_addBadge c_1529
      refine lv_aload_n hx hb dL_law_1532 rfl (lv_at hl 5 rfl) ?_
      refine lv_iconst (v := nI 0) hx hb dL_law_1533 (by decide) ?_
      refine cb_lald hx hb hK hP 35 28 (f := f8) rfl rfl (j := 0) (by omega) (Nat.le_of_ble_eq_true rfl) dL_law_1534 ?_
      refine lv_iload hx hb dL_law_1535 (lv_at hl 0 rfl) ?_
      refine lv_i2l hx hb dL_law_1537 rfl ?_
      refine W.lcmp hx hb dL_law_1538 ?_
      refine lv_if_eq (tgt := 1544) hx hb dL_law_1539 (by decide) (fun c_1539 => ?_) (fun c_1539 => ?_)
      · have c_1539 : (f8 0) = r9.toInt64 := lg_cmp_t c_1539
        refine lv_goto (tgt := 2067) hx hb dL_law_1544 (by decide) ?_
        refine W.widen (k := cells + 231) (n := slots + 1597) (by omega) (by omega) ?_
        exact kk (kS (k_addBadge S (xs ((5 * j) + 1))) (S_addBadge S (xs ((5 * j) + 1))) S) (k_addBadge S (xs ((5 * j) + 1))) f8 H2 _ ls (inv_kS hI (fun h9 => inv_addBadge hI h9)) hP hD hS (lv_sub hl [2, 3, 4, 5, 6] rfl)
      · have c_1539 : ¬ (f8 0) = r9.toInt64 := lg_cmp_f c_1539
        exact absurd (by rw [hf8 h0, hr9 h0]) c_1539
  · skip
    exact absurd rfl c_1522
theorem kb_want {S : cs_S} {x0 : Int32} {x1 : Int32} {x2 : Int32} : k_want S x0 x1 x2 < 4 := by unfold k_want; (repeat' split) <;> decide
set_option maxHeartbeats 4000000 in
set_option maxRecDepth 100000 in
theorem lc_want {p : Program} {l : Launch} {e : Env} {s : State} {m : MethodId} {below : List Frame} {meth : Method} {c : Code} {b L : Nat} {xs : Nat → Int32} {dC : Nat → ClassId} {dI : Nat → Nat → Nat} {a : Nat → Nat} {k : Nat → ClassId} {am : Nat → Nat} {km : Nat → ClassId} {q : Nat} {kq : ClassId} (hl9 : l.stackTraces = false) (C0 : LC p s m c b L xs dC dI k km kq) {S : cs_S} {th : Nat} {f : Nat → Int64} {H : Heap} {locs : List Loc} {j : Nat} {ls : Array Slot} {cells slots : Nat} {Q : State → Prop} (hI : Inv S) (hP : va_P (dC, dI) vwCl (cb_w a k S ++ (mb_w am km S th ++ [(q, .inl (kq, (1, .inr (.inl (f)))))])) H) (hD : va_D (fun z => s.heap.size ≤ z) (cb_w a k S ++ (mb_w am km S th ++ [(q, .inl (kq, (1, .inr (.inl (f)))))]))) (hS : va_S (fun z => s.heap.size ≤ z) s.heap H locs) (hj : 5 * j + 5 ≤ L) (hl : lv_has ls 9 [(0, .ref b), (1, .ref (a 0)), (2, .ref (am 0)), (3, .ref q), (4, .int (nI (5 * j)))]) (hc : cells + 231 ≤ 200000) (hs : slots + 1597 ≤ 2000000) (kk : KK p l e s m below meth c b dC dI a k am km q kq j cells slots Q) : W p l e room_1 s m #[Value.ref b] below meth c H locs cells slots Q (F0 m 1547 ls []) := by
  obtain ⟨hx, hb, hml, hown, hts, hX, hbl, hL, hK, hE⟩ := C0
  have hbA : ¬ (fun z => s.heap.size ≤ z) b := Nat.not_le.mpr hbl
  have hA : ∀ z : Nat, s.heap.size ≤ z → (fun z => s.heap.size ≤ z) z := fun _ h => h
  refine lv_aload_n hx hb dL_law_1547 rfl (lv_at hl 1 rfl) ?_
  refine lv_aload_n hx hb dL_law_1548 rfl (lv_at hl 0 rfl) ?_
  refine lv_iload hx hb dL_law_1549 (lv_at hl 4 rfl) ?_
  refine lv_iconst (v := nI 1) hx hb dL_law_1551 (by decide) ?_
  refine lv_iadd hx hb dL_law_1552 ?_
  refine cb_topi (nI_add _ _) ?_
  refine va_sld hx hb hX hbl hbA hS (i := nI ((5 * j) + 1)) (vp_in_nI (show (5 * j) + 1 < L by omega) (by omega)) dL_law_1553 ?_
  refine cb_topi (z := xs ((5 * j) + 1)) (congrArg xs (tn (by omega))) ?_
  refine lv_aload_n hx hb dL_law_1554 rfl (lv_at hl 0 rfl) ?_
  refine lv_iload hx hb dL_law_1555 (lv_at hl 4 rfl) ?_
  refine lv_iconst (v := nI 2) hx hb dL_law_1557 (by decide) ?_
  refine lv_iadd hx hb dL_law_1558 ?_
  refine cb_topi (nI_add _ _) ?_
  refine va_sld hx hb hX hbl hbA hS (i := nI ((5 * j) + 2)) (vp_in_nI (show (5 * j) + 2 < L by omega) (by omega)) dL_law_1559 ?_
  refine cb_topi (z := xs ((5 * j) + 2)) (congrArg xs (tn (by omega))) ?_
  refine lv_aload_n hx hb dL_law_1560 rfl (lv_at hl 0 rfl) ?_
  refine lv_iload hx hb dL_law_1561 (lv_at hl 4 rfl) ?_
  refine lv_iconst (v := nI 3) hx hb dL_law_1563 (by decide) ?_
  refine lv_iadd hx hb dL_law_1564 ?_
  refine cb_topi (nI_add _ _) ?_
  refine va_sld hx hb hX hbl hbA hS (i := nI ((5 * j) + 3)) (vp_in_nI (show (5 * j) + 3 < L by omega) (by omega)) dL_law_1565 ?_
  refine cb_topi (z := xs ((5 * j) + 3)) (congrArg xs (tn (by omega))) ?_
  refine lv_aload_n hx hb dL_law_1566 rfl (lv_at hl 3 rfl) ?_
  have hPc := hP.sub (ws' := (cb_w a k S ++ [(q, .inl (kq, (1, .inr (.inl (f)))))])) [0, 1, 2, 3, 4, 5, 6, 7, 8, 9, 10, 11, 12, 13, 14, 15, 16, 17, 18, 19, 35] rfl
  have hDc := hD.sub (ws' := (cb_w a k S ++ [(q, .inl (kq, (1, .inr (.inl (f)))))])) [0, 1, 2, 3, 4, 5, 6, 7, 8, 9, 10, 11, 12, 13, 14, 15, 16, 17, 18, 19, 35] (by decide) rfl
  have hKc := hK.sub (tys' := (cb_ty k ++ [(kq, .long)])) [0, 1, 2, 3, 4, 5, 6, 7, 8, 9, 10, 11, 12, 13, 28] rfl
  have hF : ∀ z, va_A (cb_w a k S ++ [(q, .inl (kq, (1, .inr (.inl (f)))))]) H.size z → s.heap.size ≤ z := va_free hD hS hA [0, 1, 2, 3, 4, 5, 6, 7, 8, 9, 10, 11, 12, 13, 14, 15, 16, 17, 18, 19, 35] rfl
  refine va_calli (vx_runSW (As := [.ref (a 0), .int (xs ((5 * j) + 1)), .int (xs ((5 * j) + 2)), .int (xs ((5 * j) + 3)), .ref q]) (rest := []) ⟨hx, hb, hml, hown, hts⟩ (c_L_want l hl9 dC dI a k S q kq f H.size (xs ((5 * j) + 1)) (xs ((5 * j) + 2)) (xs ((5 * j) + 3)) hI) (vx_cwSW 5 hts gL_law_L_want rfl rfl rfl (by decide +kernel) ⟨(Nat.le_of_ble_eq_true rfl), (Nat.le_of_ble_eq_true rfl)⟩) ⟨cV_blind, fun U hU hW => ⟨rfl, cV_of hKc hPc hDc hE hS hU hW hF⟩⟩ rfl rfl hl.1 rfl (lv_room (Nat.le_of_ble_eq_true rfl)) dL_law_1567 ⟨(by show cells + 8 ≤ room_1.cells; exact Nat.le_trans (by omega) rm_c), (by show slots + 48 ≤ room_1.slots; exact Nat.le_trans (by omega) rm_s)⟩) hS (fun z _ h => hF z h) hF (fun r8 f8 t8 H1 L1 ht hvm hw hB hz1 hk1 hS => ?_)
  obtain ⟨hr8, hf8⟩ := hw
  subst hr8
  obtain ⟨hP9, -, hD9⟩ := hB
  rw [ht] at hP9
  obtain ⟨hP8, hD8⟩ := va_join (wc := (cb_w a k S ++ [(q, .inl (kq, (1, .inr (.inl (f)))))])) (wr := (mb_w am km S th)) hP hD [0, 1, 2, 3, 4, 5, 6, 7, 8, 9, 10, 11, 12, 13, 14, 15, 16, 17, 18, 19, 35] [20, 21, 22, 23, 24, 25, 26, 27, 28, 29, 30, 31, 32, 33, 34] rfl rfl (by decide) (by decide) hk1 hF hP9 hD9
  have hP : va_P (dC, dI) vwCl (cb_w a k (kS (k_want S (xs ((5 * j) + 1)) (xs ((5 * j) + 2)) (xs ((5 * j) + 3))) (S_want S (xs ((5 * j) + 1)) (xs ((5 * j) + 2)) (xs ((5 * j) + 3))) S) ++ (mb_w am km S th ++ [(q, .inl (kq, (1, .inr (.inl (f8)))))])) H1 := hP8.sub [15, 16, 17, 18, 19, 20, 21, 22, 23, 24, 25, 26, 27, 28, 29, 30, 31, 32, 33, 34, 0, 1, 2, 3, 4, 5, 6, 7, 8, 9, 10, 11, 12, 13, 14, 35] rfl
  have hD : va_D (fun z => s.heap.size ≤ z) (cb_w a k (kS (k_want S (xs ((5 * j) + 1)) (xs ((5 * j) + 2)) (xs ((5 * j) + 3))) (S_want S (xs ((5 * j) + 1)) (xs ((5 * j) + 2)) (xs ((5 * j) + 3))) S) ++ (mb_w am km S th ++ [(q, .inl (kq, (1, .inr (.inl (f8)))))])) := hD8.sub [15, 16, 17, 18, 19, 20, 21, 22, 23, 24, 25, 26, 27, 28, 29, 30, 31, 32, 33, 34, 0, 1, 2, 3, 4, 5, 6, 7, 8, 9, 10, 11, 12, 13, 14, 35] (by decide) rfl
  refine lv_istore (lv' := [(5, .int (nI (k_want S (xs ((5 * j) + 1)) (xs ((5 * j) + 2)) (xs ((5 * j) + 3))))), (0, .ref b), (1, .ref (a 0)), (2, .ref (am 0)), (3, .ref q), (4, .int (nI (5 * j)))]) hx hb dL_law_1570 hl (by decide) rfl (fun ls hl => ?_)
  refine lv_aload_n hx hb dL_law_1572 rfl (lv_at hl 3 rfl) ?_
  refine lv_aload_n hx hb dL_law_1573 rfl (lv_at hl 1 rfl) ?_
  refine lv_iload hx hb dL_law_1574 (lv_at hl 5 rfl) ?_
  refine lv_iconst (v := nI 1) hx hb dL_law_1576 (by decide) ?_
  refine lv_iadd hx hb dL_law_1577 ?_
  refine cb_topi (nI_add _ _) ?_
  refine va_sld hx hb hX hbl hbA hS (i := nI ((5 * j) + 1)) (vp_in_nI (show (5 * j) + 1 < L by omega) (by omega)) dL_law_1578 ?_
  refine cb_topi (z := xs ((5 * j) + 1)) (congrArg xs (tn (by omega))) ?_
  refine lv_aload_n hx hb dL_law_1579 rfl (lv_at hl 1 rfl) ?_
  refine lv_iload hx hb dL_law_1580 (lv_at hl 5 rfl) ?_
  refine lv_iconst (v := nI 2) hx hb dL_law_1582 (by decide) ?_
  refine lv_iadd hx hb dL_law_1583 ?_
  refine cb_topi (nI_add _ _) ?_
  refine va_sld hx hb hX hbl hbA hS (i := nI ((5 * j) + 2)) (vp_in_nI (show (5 * j) + 2 < L by omega) (by omega)) dL_law_1584 ?_
  refine cb_topi (z := xs ((5 * j) + 2)) (congrArg xs (tn (by omega))) ?_
  refine lv_aload_n hx hb dL_law_1585 rfl (lv_at hl 1 rfl) ?_
  refine lv_iload hx hb dL_law_1586 (lv_at hl 5 rfl) ?_
  refine lv_iconst (v := nI 3) hx hb dL_law_1588 (by decide) ?_
  refine lv_iadd hx hb dL_law_1589 ?_
  refine cb_topi (nI_add _ _) ?_
  refine va_sld hx hb hX hbl hbA hS (i := nI ((5 * j) + 3)) (vp_in_nI (show (5 * j) + 3 < L by omega) (by omega)) dL_law_1590 ?_
  refine cb_topi (z := xs ((5 * j) + 3)) (congrArg xs (tn (by omega))) ?_
  have hPc := hP.sub (ws' := (mb_w am km S th)) [20, 21, 22, 23, 24, 25, 26, 27, 28, 29, 30, 31, 32, 33, 34] rfl
  have hDc := hD.sub (ws' := (mb_w am km S th)) [20, 21, 22, 23, 24, 25, 26, 27, 28, 29, 30, 31, 32, 33, 34] (by decide) rfl
  have hKc := hK.sub (tys' := (mb_ty km)) [14, 15, 16, 17, 18, 19, 20, 21, 22, 23, 24, 25, 26, 27] rfl
  have hF : ∀ z, va_A (mb_w am km S th) H1.size z → s.heap.size ≤ z := va_free hD hS hA [20, 21, 22, 23, 24, 25, 26, 27, 28, 29, 30, 31, 32, 33, 34] rfl
  refine va_calli (va_runV (As := [.int (xs ((5 * j) + 1)), .int (xs ((5 * j) + 2)), .int (xs ((5 * j) + 3))]) (rest := []) ⟨hx, hb, hml, hown, hts⟩ (c_X6_want l dC dI am km S th H1.size (xs ((5 * j) + 1)) (xs ((5 * j) + 2)) (xs ((5 * j) + 3)) hI) (cwV 3 hts gL_law_X6_want rfl rfl rfl (by decide +kernel) ⟨(Nat.le_of_ble_eq_true rfl), (Nat.le_of_ble_eq_true rfl)⟩) ⟨cT_blind, va_recv hKc hPc (ci := 6) (q0 := 0) rfl rfl, fun U hU hW => ⟨rfl, cT_of hKc hPc hDc hU hW⟩⟩ rfl rfl hl.1 rfl (lv_room (Nat.le_of_ble_eq_true rfl)) dL_law_1591 ⟨(by show (cells + 8) + 0 ≤ room_1.cells; exact Nat.le_trans (by omega) rm_c), (by show (slots + 48) + 0 ≤ room_1.slots; exact Nat.le_trans (by omega) rm_s)⟩) hS (fun z _ h => hF z h) hF (fun r9 u9 t9 H2 L2 ht hvm hr9 hB hz1 hk1 hS => ?_)
  obtain ⟨hP9, -, hD9⟩ := hB
  rw [ht] at hP9
  obtain ⟨hP8, hD8⟩ := va_join (wc := (mb_w am km S th)) (wr := ((cb_w a k (kS (k_want S (xs ((5 * j) + 1)) (xs ((5 * j) + 2)) (xs ((5 * j) + 3))) (S_want S (xs ((5 * j) + 1)) (xs ((5 * j) + 2)) (xs ((5 * j) + 3))) S)) ++ [(q, .inl (kq, (1, .inr (.inl (f8)))))])) hP hD [20, 21, 22, 23, 24, 25, 26, 27, 28, 29, 30, 31, 32, 33, 34] [0, 1, 2, 3, 4, 5, 6, 7, 8, 9, 10, 11, 12, 13, 14, 15, 16, 17, 18, 19, 35] rfl rfl (by decide) (by decide) hk1 hF hP9 hD9
  have hP : va_P (dC, dI) vwCl (cb_w a k (kS (k_want S (xs ((5 * j) + 1)) (xs ((5 * j) + 2)) (xs ((5 * j) + 3))) (S_want S (xs ((5 * j) + 1)) (xs ((5 * j) + 2)) (xs ((5 * j) + 3))) S) ++ (mb_w am km (kS (k_want S (xs ((5 * j) + 1)) (xs ((5 * j) + 2)) (xs ((5 * j) + 3))) (S_want S (xs ((5 * j) + 1)) (xs ((5 * j) + 2)) (xs ((5 * j) + 3))) S) (k_want S (xs ((5 * j) + 1)) (xs ((5 * j) + 2)) (xs ((5 * j) + 3))) ++ [(q, .inl (kq, (1, .inr (.inl (f8)))))])) H2 := hP8.sub [0, 1, 2, 3, 4, 5, 6, 7, 8, 9, 10, 11, 12, 13, 14, 15, 16, 17, 18, 19, 21, 22, 23, 24, 25, 26, 27, 28, 29, 30, 31, 32, 33, 34, 35, 20] rfl
  have hD : va_D (fun z => s.heap.size ≤ z) (cb_w a k (kS (k_want S (xs ((5 * j) + 1)) (xs ((5 * j) + 2)) (xs ((5 * j) + 3))) (S_want S (xs ((5 * j) + 1)) (xs ((5 * j) + 2)) (xs ((5 * j) + 3))) S) ++ (mb_w am km (kS (k_want S (xs ((5 * j) + 1)) (xs ((5 * j) + 2)) (xs ((5 * j) + 3))) (S_want S (xs ((5 * j) + 1)) (xs ((5 * j) + 2)) (xs ((5 * j) + 3))) S) (k_want S (xs ((5 * j) + 1)) (xs ((5 * j) + 2)) (xs ((5 * j) + 3))) ++ [(q, .inl (kq, (1, .inr (.inl (f8)))))])) := hD8.sub [0, 1, 2, 3, 4, 5, 6, 7, 8, 9, 10, 11, 12, 13, 14, 15, 16, 17, 18, 19, 21, 22, 23, 24, 25, 26, 27, 28, 29, 30, 31, 32, 33, 34, 35, 20] (by decide) rfl
  refine lv_istore (lv' := [(6, .int r9), (5, .int (nI (k_want S (xs ((5 * j) + 1)) (xs ((5 * j) + 2)) (xs ((5 * j) + 3))))), (0, .ref b), (1, .ref (a 0)), (2, .ref (am 0)), (3, .ref q), (4, .int (nI (5 * j)))]) hx hb dL_law_1594 hl (by decide) rfl (fun ls hl => ?_)
  refine lv_aload_n hx hb dL_law_1596 rfl (lv_at hl 4 rfl) ?_
  have hPc := hP.sub (ws' := (mb_w am km (kS (k_want S (xs ((5 * j) + 1)) (xs ((5 * j) + 2)) (xs ((5 * j) + 3))) (S_want S (xs ((5 * j) + 1)) (xs ((5 * j) + 2)) (xs ((5 * j) + 3))) S) (k_want S (xs ((5 * j) + 1)) (xs ((5 * j) + 2)) (xs ((5 * j) + 3))))) [20, 21, 22, 23, 24, 25, 26, 27, 28, 29, 30, 31, 32, 33, 34] rfl
  have hDc := hD.sub (ws' := (mb_w am km (kS (k_want S (xs ((5 * j) + 1)) (xs ((5 * j) + 2)) (xs ((5 * j) + 3))) (S_want S (xs ((5 * j) + 1)) (xs ((5 * j) + 2)) (xs ((5 * j) + 3))) S) (k_want S (xs ((5 * j) + 1)) (xs ((5 * j) + 2)) (xs ((5 * j) + 3))))) [20, 21, 22, 23, 24, 25, 26, 27, 28, 29, 30, 31, 32, 33, 34] (by decide) rfl
  have hKc := hK.sub (tys' := (mb_ty km)) [14, 15, 16, 17, 18, 19, 20, 21, 22, 23, 24, 25, 26, 27] rfl
  refine vp_callSi (W.runV (As := []) (rest := []) ⟨hx, hb, hml, hown, hts⟩ (c_X6_thrown l dC dI am km (kS (k_want S (xs ((5 * j) + 1)) (xs ((5 * j) + 2)) (xs ((5 * j) + 3))) (S_want S (xs ((5 * j) + 1)) (xs ((5 * j) + 2)) (xs ((5 * j) + 3))) S) (k_want S (xs ((5 * j) + 1)) (xs ((5 * j) + 2)) (xs ((5 * j) + 3)))) (cwV 0 hts gL_law_X6_thrown rfl rfl rfl (by decide +kernel) ⟨(Nat.le_of_ble_eq_true rfl), (Nat.le_of_ble_eq_true rfl)⟩) ⟨cR_blind, va_recv hKc hPc (ci := 6) (q0 := 0) rfl rfl, fun U hU hW => ⟨rfl, cR_of hKc hPc hU hW⟩⟩ rfl rfl hl.1 rfl (lv_room (Nat.le_of_ble_eq_true rfl)) dL_law_1597 ⟨(by show ((cells + 8) + 0) + 0 ≤ room_1.cells; exact Nat.le_trans (by omega) rm_c), (by show ((slots + 48) + 0) + 0 ≤ room_1.slots; exact Nat.le_trans (by omega) rm_s)⟩) (fun r er => ?_)
  subst er
  refine lv_iload hx hb dL_law_1600 (lv_at hl 1 rfl) ?_
  refine lv_icmp_eq (tgt := 1607) hx hb dL_law_1602 (by decide) (fun c_1602 => ?_) (fun c_1602 => ?_)
  · skip
    refine lv_iload hx hb dL_law_1607 (lv_at hl 1 rfl) ?_
    refine lv_if_ne (tgt := 1624) hx hb dL_law_1609 (by decide) (fun c_1609 => ?_) (fun c_1609 => ?_)
    · skip
      refine lv_goto (tgt := 2067) hx hb dL_law_1624 (by decide) ?_
      refine W.widen (k := cells + 231) (n := slots + 1597) (by omega) (by omega) ?_
      exact kk (kS (k_want S (xs ((5 * j) + 1)) (xs ((5 * j) + 2)) (xs ((5 * j) + 3))) (S_want S (xs ((5 * j) + 1)) (xs ((5 * j) + 2)) (xs ((5 * j) + 3))) S) (k_want S (xs ((5 * j) + 1)) (xs ((5 * j) + 2)) (xs ((5 * j) + 3))) f8 H2 _ ls (inv_kS hI (fun h9 => inv_want hI)) hP hD hS (lv_sub hl [2, 3, 4, 5, 6] rfl)
    · skip
      have h0 := kz kb_want c_1609
      refine lv_aload_n hx hb dL_law_1612 rfl (lv_at hl 5 rfl) ?_
      refine lv_iconst (v := nI 0) hx hb dL_law_1613 (by decide) ?_
      refine cb_lald hx hb hK hP 35 28 (f := f8) rfl rfl (j := 0) (by omega) (Nat.le_of_ble_eq_true rfl) dL_law_1614 ?_
      refine lv_iload hx hb dL_law_1615 (lv_at hl 0 rfl) ?_
      refine lv_i2l hx hb dL_law_1617 rfl ?_
      refine W.lcmp hx hb dL_law_1618 ?_
      refine lv_if_eq (tgt := 1624) hx hb dL_law_1619 (by decide) (fun c_1619 => ?_) (fun c_1619 => ?_)
      · have c_1619 : (f8 0) = r9.toInt64 := lg_cmp_t c_1619
        refine lv_goto (tgt := 2067) hx hb dL_law_1624 (by decide) ?_
        refine W.widen (k := cells + 231) (n := slots + 1597) (by omega) (by omega) ?_
        exact kk (kS (k_want S (xs ((5 * j) + 1)) (xs ((5 * j) + 2)) (xs ((5 * j) + 3))) (S_want S (xs ((5 * j) + 1)) (xs ((5 * j) + 2)) (xs ((5 * j) + 3))) S) (k_want S (xs ((5 * j) + 1)) (xs ((5 * j) + 2)) (xs ((5 * j) + 3))) f8 H2 _ ls (inv_kS hI (fun h9 => inv_want hI)) hP hD hS (lv_sub hl [2, 3, 4, 5, 6] rfl)
      · have c_1619 : ¬ (f8 0) = r9.toInt64 := lg_cmp_f c_1619
        exact absurd (by rw [hf8 h0, hr9 h0]) c_1619
  · skip
    exact absurd rfl c_1602
end CBY2
