section CBY0
theorem kb_addPatrol {S : cs_S}  : k_addPatrol S < 4 := by unfold k_addPatrol; (repeat' split) <;> decide
set_option maxHeartbeats 4000000 in
set_option maxRecDepth 100000 in
theorem lc_addPatrol {p : Program} {l : Launch} {e : Env} {s : State} {m : MethodId} {below : List Frame} {meth : Method} {c : Code} {b L : Nat} {xs : Nat → Int32} {dC : Nat → ClassId} {dI : Nat → Nat → Nat} {a : Nat → Nat} {k : Nat → ClassId} {am : Nat → Nat} {km : Nat → ClassId} {q : Nat} {kq : ClassId} (hl9 : l.stackTraces = false) (C0 : LC p s m c b L xs dC dI k km kq) {S : cs_S} {th : Nat} {f : Nat → Int64} {H : Heap} {locs : List Loc} {j : Nat} {ls : Array Slot} {cells slots : Nat} {Q : State → Prop} (hI : Inv S) (hP : va_P (dC, dI) vwCl (cb_w a k S ++ (mb_w am km S th ++ [(q, .inl (kq, (1, .inr (.inl (f)))))])) H) (hD : va_D (fun z => s.heap.size ≤ z) (cb_w a k S ++ (mb_w am km S th ++ [(q, .inl (kq, (1, .inr (.inl (f)))))]))) (hS : va_S (fun z => s.heap.size ≤ z) s.heap H locs) (hj : 5 * j + 5 ≤ L) (hl : lv_has ls 9 [(0, .ref b), (1, .ref (a 0)), (2, .ref (am 0)), (3, .ref q), (4, .int (nI (5 * j)))]) (hc : cells + 231 ≤ 200000) (hs : slots + 1597 ≤ 2000000) (kk : KK p l e s m below meth c b dC dI a k am km q kq j cells slots Q) : W p l e room_1 s m #[Value.ref b] below meth c H locs cells slots Q (F0 m 180 ls []) := by
  obtain ⟨hx, hb, hml, hown, hts, hX, hbl, hL, hK, hE⟩ := C0
  have hbA : ¬ (fun z => s.heap.size ≤ z) b := Nat.not_le.mpr hbl
  have hA : ∀ z : Nat, s.heap.size ≤ z → (fun z => s.heap.size ≤ z) z := fun _ h => h
  refine lv_aload_n hx hb dL_law_180 rfl (lv_at hl 1 rfl) ?_
  refine lv_aload_n hx hb dL_law_181 rfl (lv_at hl 3 rfl) ?_
  have hPc := hP.sub (ws' := (cb_w a k S ++ [(q, .inl (kq, (1, .inr (.inl (f)))))])) [0, 1, 2, 3, 4, 5, 6, 7, 8, 9, 10, 11, 12, 13, 14, 15, 16, 17, 18, 19, 35] rfl
  have hDc := hD.sub (ws' := (cb_w a k S ++ [(q, .inl (kq, (1, .inr (.inl (f)))))])) [0, 1, 2, 3, 4, 5, 6, 7, 8, 9, 10, 11, 12, 13, 14, 15, 16, 17, 18, 19, 35] (by decide) rfl
  have hKc := hK.sub (tys' := (cb_ty k ++ [(kq, .long)])) [0, 1, 2, 3, 4, 5, 6, 7, 8, 9, 10, 11, 12, 13, 28] rfl
  have hF : ∀ z, va_A (cb_w a k S ++ [(q, .inl (kq, (1, .inr (.inl (f)))))]) H.size z → s.heap.size ≤ z := va_free hD hS hA [0, 1, 2, 3, 4, 5, 6, 7, 8, 9, 10, 11, 12, 13, 14, 15, 16, 17, 18, 19, 35] rfl
  refine va_calli (vx_runSW (As := [.ref (a 0), .ref q]) (rest := []) ⟨hx, hb, hml, hown, hts⟩ (c_L_addPatrol l hl9 dC dI a k S q kq f H.size  hI) (vx_cwSW 2 hts gL_law_L_addPatrol rfl rfl rfl (by decide +kernel) ⟨(Nat.le_of_ble_eq_true rfl), (Nat.le_of_ble_eq_true rfl)⟩) ⟨cV_blind, fun U hU hW => ⟨rfl, cV_of hKc hPc hDc hE hS hU hW hF⟩⟩ rfl rfl hl.1 rfl (lv_room (Nat.le_of_ble_eq_true rfl)) dL_law_182 ⟨(by show cells + 8 ≤ room_1.cells; exact Nat.le_trans (by omega) rm_c), (by show slots + 48 ≤ room_1.slots; exact Nat.le_trans (by omega) rm_s)⟩) hS (fun z _ h => hF z h) hF (fun r8 f8 t8 H1 L1 ht hvm hw hB hz1 hk1 hS => ?_)
  obtain ⟨hr8, hf8⟩ := hw
  subst hr8
  obtain ⟨hP9, -, hD9⟩ := hB
  rw [ht] at hP9
  obtain ⟨hP8, hD8⟩ := va_join (wc := (cb_w a k S ++ [(q, .inl (kq, (1, .inr (.inl (f)))))])) (wr := (mb_w am km S th)) hP hD [0, 1, 2, 3, 4, 5, 6, 7, 8, 9, 10, 11, 12, 13, 14, 15, 16, 17, 18, 19, 35] [20, 21, 22, 23, 24, 25, 26, 27, 28, 29, 30, 31, 32, 33, 34] rfl rfl (by decide) (by decide) hk1 hF hP9 hD9
  have hP : va_P (dC, dI) vwCl (cb_w a k (kS (k_addPatrol S) (S_addPatrol S) S) ++ (mb_w am km S th ++ [(q, .inl (kq, (1, .inr (.inl (f8)))))])) H1 := hP8.sub [15, 16, 17, 18, 19, 20, 21, 22, 23, 24, 25, 26, 27, 28, 29, 30, 31, 32, 33, 34, 0, 1, 2, 3, 4, 5, 6, 7, 8, 9, 10, 11, 12, 13, 14, 35] rfl
  have hD : va_D (fun z => s.heap.size ≤ z) (cb_w a k (kS (k_addPatrol S) (S_addPatrol S) S) ++ (mb_w am km S th ++ [(q, .inl (kq, (1, .inr (.inl (f8)))))])) := hD8.sub [15, 16, 17, 18, 19, 20, 21, 22, 23, 24, 25, 26, 27, 28, 29, 30, 31, 32, 33, 34, 0, 1, 2, 3, 4, 5, 6, 7, 8, 9, 10, 11, 12, 13, 14, 35] (by decide) rfl
  refine lv_istore (lv' := [(5, .int (nI (k_addPatrol S))), (0, .ref b), (1, .ref (a 0)), (2, .ref (am 0)), (3, .ref q), (4, .int (nI (5 * j)))]) hx hb dL_law_185 hl (by decide) rfl (fun ls hl => ?_)
  refine lv_aload_n hx hb dL_law_187 rfl (lv_at hl 3 rfl) ?_
  have hPc := hP.sub (ws' := (mb_w am km S th)) [20, 21, 22, 23, 24, 25, 26, 27, 28, 29, 30, 31, 32, 33, 34] rfl
  have hDc := hD.sub (ws' := (mb_w am km S th)) [20, 21, 22, 23, 24, 25, 26, 27, 28, 29, 30, 31, 32, 33, 34] (by decide) rfl
  have hKc := hK.sub (tys' := (mb_ty km)) [14, 15, 16, 17, 18, 19, 20, 21, 22, 23, 24, 25, 26, 27] rfl
  have hF : ∀ z, va_A (mb_w am km S th) H1.size z → s.heap.size ≤ z := va_free hD hS hA [20, 21, 22, 23, 24, 25, 26, 27, 28, 29, 30, 31, 32, 33, 34] rfl
  refine va_calli (va_runV (As := []) (rest := []) ⟨hx, hb, hml, hown, hts⟩ (c_X6_addPatrol l dC dI am km S th H1.size hI) (cwV 0 hts gL_law_X6_addPatrol rfl rfl rfl (by decide +kernel) ⟨(Nat.le_of_ble_eq_true rfl), (Nat.le_of_ble_eq_true rfl)⟩) ⟨cT_blind, va_recv hKc hPc (ci := 6) (q0 := 0) rfl rfl, fun U hU hW => ⟨rfl, cT_of hKc hPc hDc hU hW⟩⟩ rfl rfl hl.1 rfl (lv_room (Nat.le_of_ble_eq_true rfl)) dL_law_188 ⟨(by show (cells + 8) + 0 ≤ room_1.cells; exact Nat.le_trans (by omega) rm_c), (by show (slots + 48) + 0 ≤ room_1.slots; exact Nat.le_trans (by omega) rm_s)⟩) hS (fun z _ h => hF z h) hF (fun r9 u9 t9 H2 L2 ht hvm hr9 hB hz1 hk1 hS => ?_)
  obtain ⟨hP9, -, hD9⟩ := hB
  rw [ht] at hP9
  obtain ⟨hP8, hD8⟩ := va_join (wc := (mb_w am km S th)) (wr := ((cb_w a k (kS (k_addPatrol S) (S_addPatrol S) S)) ++ [(q, .inl (kq, (1, .inr (.inl (f8)))))])) hP hD [20, 21, 22, 23, 24, 25, 26, 27, 28, 29, 30, 31, 32, 33, 34] [0, 1, 2, 3, 4, 5, 6, 7, 8, 9, 10, 11, 12, 13, 14, 15, 16, 17, 18, 19, 35] rfl rfl (by decide) (by decide) hk1 hF hP9 hD9
  have hP : va_P (dC, dI) vwCl (cb_w a k (kS (k_addPatrol S) (S_addPatrol S) S) ++ (mb_w am km (kS (k_addPatrol S) (S_addPatrol S) S) (k_addPatrol S) ++ [(q, .inl (kq, (1, .inr (.inl (f8)))))])) H2 := hP8.sub [0, 1, 2, 3, 4, 5, 6, 7, 8, 9, 10, 11, 12, 13, 14, 15, 16, 17, 18, 19, 21, 22, 23, 24, 25, 26, 27, 28, 29, 30, 31, 32, 33, 34, 35, 20] rfl
  have hD : va_D (fun z => s.heap.size ≤ z) (cb_w a k (kS (k_addPatrol S) (S_addPatrol S) S) ++ (mb_w am km (kS (k_addPatrol S) (S_addPatrol S) S) (k_addPatrol S) ++ [(q, .inl (kq, (1, .inr (.inl (f8)))))])) := hD8.sub [0, 1, 2, 3, 4, 5, 6, 7, 8, 9, 10, 11, 12, 13, 14, 15, 16, 17, 18, 19, 21, 22, 23, 24, 25, 26, 27, 28, 29, 30, 31, 32, 33, 34, 35, 20] (by decide) rfl
  refine lv_istore (lv' := [(6, .int r9), (5, .int (nI (k_addPatrol S))), (0, .ref b), (1, .ref (a 0)), (2, .ref (am 0)), (3, .ref q), (4, .int (nI (5 * j)))]) hx hb dL_law_191 hl (by decide) rfl (fun ls hl => ?_)
  refine lv_aload_n hx hb dL_law_193 rfl (lv_at hl 4 rfl) ?_
  have hPc := hP.sub (ws' := (mb_w am km (kS (k_addPatrol S) (S_addPatrol S) S) (k_addPatrol S))) [20, 21, 22, 23, 24, 25, 26, 27, 28, 29, 30, 31, 32, 33, 34] rfl
  have hDc := hD.sub (ws' := (mb_w am km (kS (k_addPatrol S) (S_addPatrol S) S) (k_addPatrol S))) [20, 21, 22, 23, 24, 25, 26, 27, 28, 29, 30, 31, 32, 33, 34] (by decide) rfl
  have hKc := hK.sub (tys' := (mb_ty km)) [14, 15, 16, 17, 18, 19, 20, 21, 22, 23, 24, 25, 26, 27] rfl
  refine vp_callSi (W.runV (As := []) (rest := []) ⟨hx, hb, hml, hown, hts⟩ (c_X6_thrown l dC dI am km (kS (k_addPatrol S) (S_addPatrol S) S) (k_addPatrol S)) (cwV 0 hts gL_law_X6_thrown rfl rfl rfl (by decide +kernel) ⟨(Nat.le_of_ble_eq_true rfl), (Nat.le_of_ble_eq_true rfl)⟩) ⟨cR_blind, va_recv hKc hPc (ci := 6) (q0 := 0) rfl rfl, fun U hU hW => ⟨rfl, cR_of hKc hPc hU hW⟩⟩ rfl rfl hl.1 rfl (lv_room (Nat.le_of_ble_eq_true rfl)) dL_law_194 ⟨(by show ((cells + 8) + 0) + 0 ≤ room_1.cells; exact Nat.le_trans (by omega) rm_c), (by show ((slots + 48) + 0) + 0 ≤ room_1.slots; exact Nat.le_trans (by omega) rm_s)⟩) (fun r er => ?_)
  subst er
  refine lv_iload hx hb dL_law_197 (lv_at hl 1 rfl) ?_
  refine lv_icmp_eq (tgt := 204) hx hb dL_law_199 (by decide) (fun c_199 => ?_) (fun c_199 => ?_)
  · skip
    refine lv_iload hx hb dL_law_204 (lv_at hl 1 rfl) ?_
    refine lv_if_ne (tgt := 221) hx hb dL_law_206 (by decide) (fun c_206 => ?_) (fun c_206 => ?_)
    · skip
      refine lv_goto (tgt := 2067) hx hb dL_law_221 (by decide) ?_
      refine W.widen (k := cells + 231) (n := slots + 1597) (by omega) (by omega) ?_
      exact kk (kS (k_addPatrol S) (S_addPatrol S) S) (k_addPatrol S) f8 H2 _ ls (inv_kS hI (fun h9 => inv_addPatrol hI h9)) hP hD hS (lv_sub hl [2, 3, 4, 5, 6] rfl)
    · skip
      have h0 := kz kb_addPatrol c_206
      refine lv_aload_n hx hb dL_law_209 rfl (lv_at hl 5 rfl) ?_
      refine lv_iconst (v := nI 0) hx hb dL_law_210 (by decide) ?_
      refine cb_lald hx hb hK hP 35 28 (f := f8) rfl rfl (j := 0) (by omega) (Nat.le_of_ble_eq_true rfl) dL_law_211 ?_
      refine lv_iload hx hb dL_law_212 (lv_at hl 0 rfl) ?_
      refine lv_i2l hx hb dL_law_214 rfl ?_
      refine W.lcmp hx hb dL_law_215 ?_
      refine lv_if_eq (tgt := 221) hx hb dL_law_216 (by decide) (fun c_216 => ?_) (fun c_216 => ?_)
      · have c_216 : (f8 0) = r9.toInt64 := lg_cmp_t c_216
        refine lv_goto (tgt := 2067) hx hb dL_law_221 (by decide) ?_
        refine W.widen (k := cells + 231) (n := slots + 1597) (by omega) (by omega) ?_
        exact kk (kS (k_addPatrol S) (S_addPatrol S) S) (k_addPatrol S) f8 H2 _ ls (inv_kS hI (fun h9 => inv_addPatrol hI h9)) hP hD hS (lv_sub hl [2, 3, 4, 5, 6] rfl)
      · have c_216 : ¬ (f8 0) = r9.toInt64 := lg_cmp_f c_216
        exact absurd (by rw [hf8 h0, hr9 h0]) c_216
  · skip
    exact absurd rfl c_199
theorem kb_addScout {S : cs_S} {x0 : Int32} {x1 : Int32} {x2 : Int32} : k_addScout S x0 x1 x2 < 4 := by unfold k_addScout; (repeat' split) <;> decide
set_option maxHeartbeats 4000000 in
set_option maxRecDepth 100000 in
theorem lc_addScout {p : Program} {l : Launch} {e : Env} {s : State} {m : MethodId} {below : List Frame} {meth : Method} {c : Code} {b L : Nat} {xs : Nat → Int32} {dC : Nat → ClassId} {dI : Nat → Nat → Nat} {a : Nat → Nat} {k : Nat → ClassId} {am : Nat → Nat} {km : Nat → ClassId} {q : Nat} {kq : ClassId} (hl9 : l.stackTraces = false) (C0 : LC p s m c b L xs dC dI k km kq) {S : cs_S} {th : Nat} {f : Nat → Int64} {H : Heap} {locs : List Loc} {j : Nat} {ls : Array Slot} {cells slots : Nat} {Q : State → Prop} (hI : Inv S) (hP : va_P (dC, dI) vwCl (cb_w a k S ++ (mb_w am km S th ++ [(q, .inl (kq, (1, .inr (.inl (f)))))])) H) (hD : va_D (fun z => s.heap.size ≤ z) (cb_w a k S ++ (mb_w am km S th ++ [(q, .inl (kq, (1, .inr (.inl (f)))))]))) (hS : va_S (fun z => s.heap.size ≤ z) s.heap H locs) (hj : 5 * j + 5 ≤ L) (hl : lv_has ls 9 [(0, .ref b), (1, .ref (a 0)), (2, .ref (am 0)), (3, .ref q), (4, .int (nI (5 * j)))]) (hc : cells + 231 ≤ 200000) (hs : slots + 1597 ≤ 2000000) (kk : KK p l e s m below meth c b dC dI a k am km q kq j cells slots Q) : W p l e room_1 s m #[Value.ref b] below meth c H locs cells slots Q (F0 m 224 ls []) := by
  obtain ⟨hx, hb, hml, hown, hts, hX, hbl, hL, hK, hE⟩ := C0
  have hbA : ¬ (fun z => s.heap.size ≤ z) b := Nat.not_le.mpr hbl
  have hA : ∀ z : Nat, s.heap.size ≤ z → (fun z => s.heap.size ≤ z) z := fun _ h => h
  refine lv_aload_n hx hb dL_law_224 rfl (lv_at hl 1 rfl) ?_
  refine lv_aload_n hx hb dL_law_225 rfl (lv_at hl 0 rfl) ?_
  refine lv_iload hx hb dL_law_226 (lv_at hl 4 rfl) ?_
  refine lv_iconst (v := nI 1) hx hb dL_law_228 (by decide) ?_
  refine lv_iadd hx hb dL_law_229 ?_
  refine cb_topi (nI_add _ _) ?_
  refine va_sld hx hb hX hbl hbA hS (i := nI ((5 * j) + 1)) (vp_in_nI (show (5 * j) + 1 < L by omega) (by omega)) dL_law_230 ?_
  refine cb_topi (z := xs ((5 * j) + 1)) (congrArg xs (tn (by omega))) ?_
  refine lv_aload_n hx hb dL_law_231 rfl (lv_at hl 0 rfl) ?_
  refine lv_iload hx hb dL_law_232 (lv_at hl 4 rfl) ?_
  refine lv_iconst (v := nI 2) hx hb dL_law_234 (by decide) ?_
  refine lv_iadd hx hb dL_law_235 ?_
  refine cb_topi (nI_add _ _) ?_
  refine va_sld hx hb hX hbl hbA hS (i := nI ((5 * j) + 2)) (vp_in_nI (show (5 * j) + 2 < L by omega) (by omega)) dL_law_236 ?_
  refine cb_topi (z := xs ((5 * j) + 2)) (congrArg xs (tn (by omega))) ?_
  refine lv_aload_n hx hb dL_law_237 rfl (lv_at hl 0 rfl) ?_
  refine lv_iload hx hb dL_law_238 (lv_at hl 4 rfl) ?_
  refine lv_iconst (v := nI 3) hx hb dL_law_240 (by decide) ?_
  refine lv_iadd hx hb dL_law_241 ?_
  refine cb_topi (nI_add _ _) ?_
  refine va_sld hx hb hX hbl hbA hS (i := nI ((5 * j) + 3)) (vp_in_nI (show (5 * j) + 3 < L by omega) (by omega)) dL_law_242 ?_
  refine cb_topi (z := xs ((5 * j) + 3)) (congrArg xs (tn (by omega))) ?_
  refine lv_aload_n hx hb dL_law_243 rfl (lv_at hl 3 rfl) ?_
  have hPc := hP.sub (ws' := (cb_w a k S ++ [(q, .inl (kq, (1, .inr (.inl (f)))))])) [0, 1, 2, 3, 4, 5, 6, 7, 8, 9, 10, 11, 12, 13, 14, 15, 16, 17, 18, 19, 35] rfl
  have hDc := hD.sub (ws' := (cb_w a k S ++ [(q, .inl (kq, (1, .inr (.inl (f)))))])) [0, 1, 2, 3, 4, 5, 6, 7, 8, 9, 10, 11, 12, 13, 14, 15, 16, 17, 18, 19, 35] (by decide) rfl
  have hKc := hK.sub (tys' := (cb_ty k ++ [(kq, .long)])) [0, 1, 2, 3, 4, 5, 6, 7, 8, 9, 10, 11, 12, 13, 28] rfl
  have hF : ∀ z, va_A (cb_w a k S ++ [(q, .inl (kq, (1, .inr (.inl (f)))))]) H.size z → s.heap.size ≤ z := va_free hD hS hA [0, 1, 2, 3, 4, 5, 6, 7, 8, 9, 10, 11, 12, 13, 14, 15, 16, 17, 18, 19, 35] rfl
  refine va_calli (vx_runSW (As := [.ref (a 0), .int (xs ((5 * j) + 1)), .int (xs ((5 * j) + 2)), .int (xs ((5 * j) + 3)), .ref q]) (rest := []) ⟨hx, hb, hml, hown, hts⟩ (c_L_addScout l hl9 dC dI a k S q kq f H.size (xs ((5 * j) + 1)) (xs ((5 * j) + 2)) (xs ((5 * j) + 3)) hI) (vx_cwSW 5 hts gL_law_L_addScout rfl rfl rfl (by decide +kernel) ⟨(Nat.le_of_ble_eq_true rfl), (Nat.le_of_ble_eq_true rfl)⟩) ⟨cV_blind, fun U hU hW => ⟨rfl, cV_of hKc hPc hDc hE hS hU hW hF⟩⟩ rfl rfl hl.1 rfl (lv_room (Nat.le_of_ble_eq_true rfl)) dL_law_244 ⟨(by show cells + 8 ≤ room_1.cells; exact Nat.le_trans (by omega) rm_c), (by show slots + 48 ≤ room_1.slots; exact Nat.le_trans (by omega) rm_s)⟩) hS (fun z _ h => hF z h) hF (fun r8 f8 t8 H1 L1 ht hvm hw hB hz1 hk1 hS => ?_)
  obtain ⟨hr8, hf8⟩ := hw
  subst hr8
  obtain ⟨hP9, -, hD9⟩ := hB
  rw [ht] at hP9
  obtain ⟨hP8, hD8⟩ := va_join (wc := (cb_w a k S ++ [(q, .inl (kq, (1, .inr (.inl (f)))))])) (wr := (mb_w am km S th)) hP hD [0, 1, 2, 3, 4, 5, 6, 7, 8, 9, 10, 11, 12, 13, 14, 15, 16, 17, 18, 19, 35] [20, 21, 22, 23, 24, 25, 26, 27, 28, 29, 30, 31, 32, 33, 34] rfl rfl (by decide) (by decide) hk1 hF hP9 hD9
  have hP : va_P (dC, dI) vwCl (cb_w a k (kS (k_addScout S (xs ((5 * j) + 1)) (xs ((5 * j) + 2)) (xs ((5 * j) + 3))) (S_addScout S (xs ((5 * j) + 1)) (xs ((5 * j) + 2)) (xs ((5 * j) + 3))) S) ++ (mb_w am km S th ++ [(q, .inl (kq, (1, .inr (.inl (f8)))))])) H1 := hP8.sub [15, 16, 17, 18, 19, 20, 21, 22, 23, 24, 25, 26, 27, 28, 29, 30, 31, 32, 33, 34, 0, 1, 2, 3, 4, 5, 6, 7, 8, 9, 10, 11, 12, 13, 14, 35] rfl
  have hD : va_D (fun z => s.heap.size ≤ z) (cb_w a k (kS (k_addScout S (xs ((5 * j) + 1)) (xs ((5 * j) + 2)) (xs ((5 * j) + 3))) (S_addScout S (xs ((5 * j) + 1)) (xs ((5 * j) + 2)) (xs ((5 * j) + 3))) S) ++ (mb_w am km S th ++ [(q, .inl (kq, (1, .inr (.inl (f8)))))])) := hD8.sub [15, 16, 17, 18, 19, 20, 21, 22, 23, 24, 25, 26, 27, 28, 29, 30, 31, 32, 33, 34, 0, 1, 2, 3, 4, 5, 6, 7, 8, 9, 10, 11, 12, 13, 14, 35] (by decide) rfl
  refine lv_istore (lv' := [(5, .int (nI (k_addScout S (xs ((5 * j) + 1)) (xs ((5 * j) + 2)) (xs ((5 * j) + 3))))), (0, .ref b), (1, .ref (a 0)), (2, .ref (am 0)), (3, .ref q), (4, .int (nI (5 * j)))]) hx hb dL_law_247 hl (by decide) rfl (fun ls hl => ?_)
  refine lv_aload_n hx hb dL_law_249 rfl (lv_at hl 3 rfl) ?_
  refine lv_aload_n hx hb dL_law_250 rfl (lv_at hl 1 rfl) ?_
  refine lv_iload hx hb dL_law_251 (lv_at hl 5 rfl) ?_
  refine lv_iconst (v := nI 1) hx hb dL_law_253 (by decide) ?_
  refine lv_iadd hx hb dL_law_254 ?_
  refine cb_topi (nI_add _ _) ?_
  refine va_sld hx hb hX hbl hbA hS (i := nI ((5 * j) + 1)) (vp_in_nI (show (5 * j) + 1 < L by omega) (by omega)) dL_law_255 ?_
  refine cb_topi (z := xs ((5 * j) + 1)) (congrArg xs (tn (by omega))) ?_
  refine lv_aload_n hx hb dL_law_256 rfl (lv_at hl 1 rfl) ?_
  refine lv_iload hx hb dL_law_257 (lv_at hl 5 rfl) ?_
  refine lv_iconst (v := nI 2) hx hb dL_law_259 (by decide) ?_
  refine lv_iadd hx hb dL_law_260 ?_
  refine cb_topi (nI_add _ _) ?_
  refine va_sld hx hb hX hbl hbA hS (i := nI ((5 * j) + 2)) (vp_in_nI (show (5 * j) + 2 < L by omega) (by omega)) dL_law_261 ?_
  refine cb_topi (z := xs ((5 * j) + 2)) (congrArg xs (tn (by omega))) ?_
  refine lv_aload_n hx hb dL_law_262 rfl (lv_at hl 1 rfl) ?_
  refine lv_iload hx hb dL_law_263 (lv_at hl 5 rfl) ?_
  refine lv_iconst (v := nI 3) hx hb dL_law_265 (by decide) ?_
  refine lv_iadd hx hb dL_law_266 ?_
  refine cb_topi (nI_add _ _) ?_
  refine va_sld hx hb hX hbl hbA hS (i := nI ((5 * j) + 3)) (vp_in_nI (show (5 * j) + 3 < L by omega) (by omega)) dL_law_267 ?_
  refine cb_topi (z := xs ((5 * j) + 3)) (congrArg xs (tn (by omega))) ?_
  have hPc := hP.sub (ws' := (mb_w am km S th)) [20, 21, 22, 23, 24, 25, 26, 27, 28, 29, 30, 31, 32, 33, 34] rfl
  have hDc := hD.sub (ws' := (mb_w am km S th)) [20, 21, 22, 23, 24, 25, 26, 27, 28, 29, 30, 31, 32, 33, 34] (by decide) rfl
  have hKc := hK.sub (tys' := (mb_ty km)) [14, 15, 16, 17, 18, 19, 20, 21, 22, 23, 24, 25, 26, 27] rfl
  have hF : ∀ z, va_A (mb_w am km S th) H1.size z → s.heap.size ≤ z := va_free hD hS hA [20, 21, 22, 23, 24, 25, 26, 27, 28, 29, 30, 31, 32, 33, 34] rfl
  refine va_calli (va_runV (As := [.int (xs ((5 * j) + 1)), .int (xs ((5 * j) + 2)), .int (xs ((5 * j) + 3))]) (rest := []) ⟨hx, hb, hml, hown, hts⟩ (c_X6_addScout l dC dI am km S th H1.size (xs ((5 * j) + 1)) (xs ((5 * j) + 2)) (xs ((5 * j) + 3)) hI) (cwV 3 hts gL_law_X6_addScout rfl rfl rfl (by decide +kernel) ⟨(Nat.le_of_ble_eq_true rfl), (Nat.le_of_ble_eq_true rfl)⟩) ⟨cT_blind, va_recv hKc hPc (ci := 6) (q0 := 0) rfl rfl, fun U hU hW => ⟨rfl, cT_of hKc hPc hDc hU hW⟩⟩ rfl rfl hl.1 rfl (lv_room (Nat.le_of_ble_eq_true rfl)) dL_law_268 ⟨(by show (cells + 8) + 0 ≤ room_1.cells; exact Nat.le_trans (by omega) rm_c), (by show (slots + 48) + 0 ≤ room_1.slots; exact Nat.le_trans (by omega) rm_s)⟩) hS (fun z _ h => hF z h) hF (fun r9 u9 t9 H2 L2 ht hvm hr9 hB hz1 hk1 hS => ?_)
  obtain ⟨hP9, -, hD9⟩ := hB
  rw [ht] at hP9
  obtain ⟨hP8, hD8⟩ := va_join (wc := (mb_w am km S th)) (wr := ((cb_w a k (kS (k_addScout S (xs ((5 * j) + 1)) (xs ((5 * j) + 2)) (xs ((5 * j) + 3))) (S_addScout S (xs ((5 * j) + 1)) (xs ((5 * j) + 2)) (xs ((5 * j) + 3))) S)) ++ [(q, .inl (kq, (1, .inr (.inl (f8)))))])) hP hD [20, 21, 22, 23, 24, 25, 26, 27, 28, 29, 30, 31, 32, 33, 34] [0, 1, 2, 3, 4, 5, 6, 7, 8, 9, 10, 11, 12, 13, 14, 15, 16, 17, 18, 19, 35] rfl rfl (by decide) (by decide) hk1 hF hP9 hD9
  have hP : va_P (dC, dI) vwCl (cb_w a k (kS (k_addScout S (xs ((5 * j) + 1)) (xs ((5 * j) + 2)) (xs ((5 * j) + 3))) (S_addScout S (xs ((5 * j) + 1)) (xs ((5 * j) + 2)) (xs ((5 * j) + 3))) S) ++ (mb_w am km (kS (k_addScout S (xs ((5 * j) + 1)) (xs ((5 * j) + 2)) (xs ((5 * j) + 3))) (S_addScout S (xs ((5 * j) + 1)) (xs ((5 * j) + 2)) (xs ((5 * j) + 3))) S) (k_addScout S (xs ((5 * j) + 1)) (xs ((5 * j) + 2)) (xs ((5 * j) + 3))) ++ [(q, .inl (kq, (1, .inr (.inl (f8)))))])) H2 := hP8.sub [0, 1, 2, 3, 4, 5, 6, 7, 8, 9, 10, 11, 12, 13, 14, 15, 16, 17, 18, 19, 21, 22, 23, 24, 25, 26, 27, 28, 29, 30, 31, 32, 33, 34, 35, 20] rfl
  have hD : va_D (fun z => s.heap.size ≤ z) (cb_w a k (kS (k_addScout S (xs ((5 * j) + 1)) (xs ((5 * j) + 2)) (xs ((5 * j) + 3))) (S_addScout S (xs ((5 * j) + 1)) (xs ((5 * j) + 2)) (xs ((5 * j) + 3))) S) ++ (mb_w am km (kS (k_addScout S (xs ((5 * j) + 1)) (xs ((5 * j) + 2)) (xs ((5 * j) + 3))) (S_addScout S (xs ((5 * j) + 1)) (xs ((5 * j) + 2)) (xs ((5 * j) + 3))) S) (k_addScout S (xs ((5 * j) + 1)) (xs ((5 * j) + 2)) (xs ((5 * j) + 3))) ++ [(q, .inl (kq, (1, .inr (.inl (f8)))))])) := hD8.sub [0, 1, 2, 3, 4, 5, 6, 7, 8, 9, 10, 11, 12, 13, 14, 15, 16, 17, 18, 19, 21, 22, 23, 24, 25, 26, 27, 28, 29, 30, 31, 32, 33, 34, 35, 20] (by decide) rfl
  refine lv_istore (lv' := [(6, .int r9), (5, .int (nI (k_addScout S (xs ((5 * j) + 1)) (xs ((5 * j) + 2)) (xs ((5 * j) + 3))))), (0, .ref b), (1, .ref (a 0)), (2, .ref (am 0)), (3, .ref q), (4, .int (nI (5 * j)))]) hx hb dL_law_271 hl (by decide) rfl (fun ls hl => ?_)
  refine lv_aload_n hx hb dL_law_273 rfl (lv_at hl 4 rfl) ?_
  have hPc := hP.sub (ws' := (mb_w am km (kS (k_addScout S (xs ((5 * j) + 1)) (xs ((5 * j) + 2)) (xs ((5 * j) + 3))) (S_addScout S (xs ((5 * j) + 1)) (xs ((5 * j) + 2)) (xs ((5 * j) + 3))) S) (k_addScout S (xs ((5 * j) + 1)) (xs ((5 * j) + 2)) (xs ((5 * j) + 3))))) [20, 21, 22, 23, 24, 25, 26, 27, 28, 29, 30, 31, 32, 33, 34] rfl
  have hDc := hD.sub (ws' := (mb_w am km (kS (k_addScout S (xs ((5 * j) + 1)) (xs ((5 * j) + 2)) (xs ((5 * j) + 3))) (S_addScout S (xs ((5 * j) + 1)) (xs ((5 * j) + 2)) (xs ((5 * j) + 3))) S) (k_addScout S (xs ((5 * j) + 1)) (xs ((5 * j) + 2)) (xs ((5 * j) + 3))))) [20, 21, 22, 23, 24, 25, 26, 27, 28, 29, 30, 31, 32, 33, 34] (by decide) rfl
  have hKc := hK.sub (tys' := (mb_ty km)) [14, 15, 16, 17, 18, 19, 20, 21, 22, 23, 24, 25, 26, 27] rfl
  refine vp_callSi (W.runV (As := []) (rest := []) ⟨hx, hb, hml, hown, hts⟩ (c_X6_thrown l dC dI am km (kS (k_addScout S (xs ((5 * j) + 1)) (xs ((5 * j) + 2)) (xs ((5 * j) + 3))) (S_addScout S (xs ((5 * j) + 1)) (xs ((5 * j) + 2)) (xs ((5 * j) + 3))) S) (k_addScout S (xs ((5 * j) + 1)) (xs ((5 * j) + 2)) (xs ((5 * j) + 3)))) (cwV 0 hts gL_law_X6_thrown rfl rfl rfl (by decide +kernel) ⟨(Nat.le_of_ble_eq_true rfl), (Nat.le_of_ble_eq_true rfl)⟩) ⟨cR_blind, va_recv hKc hPc (ci := 6) (q0 := 0) rfl rfl, fun U hU hW => ⟨rfl, cR_of hKc hPc hU hW⟩⟩ rfl rfl hl.1 rfl (lv_room (Nat.le_of_ble_eq_true rfl)) dL_law_274 ⟨(by show ((cells + 8) + 0) + 0 ≤ room_1.cells; exact Nat.le_trans (by omega) rm_c), (by show ((slots + 48) + 0) + 0 ≤ room_1.slots; exact Nat.le_trans (by omega) rm_s)⟩) (fun r er => ?_)
  subst er
  refine lv_iload hx hb dL_law_277 (lv_at hl 1 rfl) ?_
  refine lv_icmp_eq (tgt := 284) hx hb dL_law_279 (by decide) (fun c_279 => ?_) (fun c_279 => ?_)
  · skip
    refine lv_iload hx hb dL_law_284 (lv_at hl 1 rfl) ?_
    refine lv_if_ne (tgt := 301) hx hb dL_law_286 (by decide) (fun c_286 => ?_) (fun c_286 => ?_)
    · skip
      refine lv_goto (tgt := 2067) hx hb dL_law_301 (by decide) ?_
      refine W.widen (k := cells + 231) (n := slots + 1597) (by omega) (by omega) ?_
      exact kk (kS (k_addScout S (xs ((5 * j) + 1)) (xs ((5 * j) + 2)) (xs ((5 * j) + 3))) (S_addScout S (xs ((5 * j) + 1)) (xs ((5 * j) + 2)) (xs ((5 * j) + 3))) S) (k_addScout S (xs ((5 * j) + 1)) (xs ((5 * j) + 2)) (xs ((5 * j) + 3))) f8 H2 _ ls (inv_kS hI (fun h9 => inv_addScout hI h9)) hP hD hS (lv_sub hl [2, 3, 4, 5, 6] rfl)
    · skip
      have h0 := kz kb_addScout c_286
      refine lv_aload_n hx hb dL_law_289 rfl (lv_at hl 5 rfl) ?_
      refine lv_iconst (v := nI 0) hx hb dL_law_290 (by decide) ?_
      refine cb_lald hx hb hK hP 35 28 (f := f8) rfl rfl (j := 0) (by omega) (Nat.le_of_ble_eq_true rfl) dL_law_291 ?_
      refine lv_iload hx hb dL_law_292 (lv_at hl 0 rfl) ?_
      refine lv_i2l hx hb dL_law_294 rfl ?_
      refine W.lcmp hx hb dL_law_295 ?_
      refine lv_if_eq (tgt := 301) hx hb dL_law_296 (by decide) (fun c_296 => ?_) (fun c_296 => ?_)
      · have c_296 : (f8 0) = r9.toInt64 := lg_cmp_t c_296
        refine lv_goto (tgt := 2067) hx hb dL_law_301 (by decide) ?_
        refine W.widen (k := cells + 231) (n := slots + 1597) (by omega) (by omega) ?_
        exact kk (kS (k_addScout S (xs ((5 * j) + 1)) (xs ((5 * j) + 2)) (xs ((5 * j) + 3))) (S_addScout S (xs ((5 * j) + 1)) (xs ((5 * j) + 2)) (xs ((5 * j) + 3))) S) (k_addScout S (xs ((5 * j) + 1)) (xs ((5 * j) + 2)) (xs ((5 * j) + 3))) f8 H2 _ ls (inv_kS hI (fun h9 => inv_addScout hI h9)) hP hD hS (lv_sub hl [2, 3, 4, 5, 6] rfl)
      · have c_296 : ¬ (f8 0) = r9.toInt64 := lg_cmp_f c_296
        exact absurd (by rw [hf8 h0, hr9 h0]) c_296
  · skip
    exact absurd rfl c_279
theorem kb_scout {S : cs_S} {x0 : Int32} {x1 : Int32} : k_scout S x0 x1 < 4 := by unfold k_scout; (repeat' split) <;> decide
set_option maxHeartbeats 4000000 in
set_option maxRecDepth 100000 in
theorem lc_scout {p : Program} {l : Launch} {e : Env} {s : State} {m : MethodId} {below : List Frame} {meth : Method} {c : Code} {b L : Nat} {xs : Nat → Int32} {dC : Nat → ClassId} {dI : Nat → Nat → Nat} {a : Nat → Nat} {k : Nat → ClassId} {am : Nat → Nat} {km : Nat → ClassId} {q : Nat} {kq : ClassId} (hl9 : l.stackTraces = false) (C0 : LC p s m c b L xs dC dI k km kq) {S : cs_S} {th : Nat} {f : Nat → Int64} {H : Heap} {locs : List Loc} {j : Nat} {ls : Array Slot} {cells slots : Nat} {Q : State → Prop} (hI : Inv S) (hP : va_P (dC, dI) vwCl (cb_w a k S ++ (mb_w am km S th ++ [(q, .inl (kq, (1, .inr (.inl (f)))))])) H) (hD : va_D (fun z => s.heap.size ≤ z) (cb_w a k S ++ (mb_w am km S th ++ [(q, .inl (kq, (1, .inr (.inl (f)))))]))) (hS : va_S (fun z => s.heap.size ≤ z) s.heap H locs) (hj : 5 * j + 5 ≤ L) (hl : lv_has ls 9 [(0, .ref b), (1, .ref (a 0)), (2, .ref (am 0)), (3, .ref q), (4, .int (nI (5 * j)))]) (hc : cells + 231 ≤ 200000) (hs : slots + 1597 ≤ 2000000) (kk : KK p l e s m below meth c b dC dI a k am km q kq j cells slots Q) : W p l e room_1 s m #[Value.ref b] below meth c H locs cells slots Q (F0 m 304 ls []) := by
  obtain ⟨hx, hb, hml, hown, hts, hX, hbl, hL, hK, hE⟩ := C0
  have hbA : ¬ (fun z => s.heap.size ≤ z) b := Nat.not_le.mpr hbl
  have hA : ∀ z : Nat, s.heap.size ≤ z → (fun z => s.heap.size ≤ z) z := fun _ h => h
  refine lv_aload_n hx hb dL_law_304 rfl (lv_at hl 1 rfl) ?_
  refine lv_aload_n hx hb dL_law_305 rfl (lv_at hl 0 rfl) ?_
  refine lv_iload hx hb dL_law_306 (lv_at hl 4 rfl) ?_
  refine lv_iconst (v := nI 1) hx hb dL_law_308 (by decide) ?_
  refine lv_iadd hx hb dL_law_309 ?_
  refine cb_topi (nI_add _ _) ?_
  refine va_sld hx hb hX hbl hbA hS (i := nI ((5 * j) + 1)) (vp_in_nI (show (5 * j) + 1 < L by omega) (by omega)) dL_law_310 ?_
  refine cb_topi (z := xs ((5 * j) + 1)) (congrArg xs (tn (by omega))) ?_
  refine lv_aload_n hx hb dL_law_311 rfl (lv_at hl 0 rfl) ?_
  refine lv_iload hx hb dL_law_312 (lv_at hl 4 rfl) ?_
  refine lv_iconst (v := nI 2) hx hb dL_law_314 (by decide) ?_
  refine lv_iadd hx hb dL_law_315 ?_
  refine cb_topi (nI_add _ _) ?_
  refine va_sld hx hb hX hbl hbA hS (i := nI ((5 * j) + 2)) (vp_in_nI (show (5 * j) + 2 < L by omega) (by omega)) dL_law_316 ?_
  refine cb_topi (z := xs ((5 * j) + 2)) (congrArg xs (tn (by omega))) ?_
  refine lv_aload_n hx hb dL_law_317 rfl (lv_at hl 3 rfl) ?_
  have hPc := hP.sub (ws' := (cb_w a k S ++ [(q, .inl (kq, (1, .inr (.inl (f)))))])) [0, 1, 2, 3, 4, 5, 6, 7, 8, 9, 10, 11, 12, 13, 14, 15, 16, 17, 18, 19, 35] rfl
  have hDc := hD.sub (ws' := (cb_w a k S ++ [(q, .inl (kq, (1, .inr (.inl (f)))))])) [0, 1, 2, 3, 4, 5, 6, 7, 8, 9, 10, 11, 12, 13, 14, 15, 16, 17, 18, 19, 35] (by decide) rfl
  have hKc := hK.sub (tys' := (cb_ty k ++ [(kq, .long)])) [0, 1, 2, 3, 4, 5, 6, 7, 8, 9, 10, 11, 12, 13, 28] rfl
  have hF : ∀ z, va_A (cb_w a k S ++ [(q, .inl (kq, (1, .inr (.inl (f)))))]) H.size z → s.heap.size ≤ z := va_free hD hS hA [0, 1, 2, 3, 4, 5, 6, 7, 8, 9, 10, 11, 12, 13, 14, 15, 16, 17, 18, 19, 35] rfl
  refine va_calli (vx_runSW (As := [.ref (a 0), .int (xs ((5 * j) + 1)), .int (xs ((5 * j) + 2)), .ref q]) (rest := []) ⟨hx, hb, hml, hown, hts⟩ (c_L_scout l hl9 dC dI a k S q kq f H.size (xs ((5 * j) + 1)) (xs ((5 * j) + 2)) hI) (vx_cwSW 4 hts gL_law_L_scout rfl rfl rfl (by decide +kernel) ⟨(Nat.le_of_ble_eq_true rfl), (Nat.le_of_ble_eq_true rfl)⟩) ⟨cV_blind, fun U hU hW => ⟨rfl, cV_of hKc hPc hDc hE hS hU hW hF⟩⟩ rfl rfl hl.1 rfl (lv_room (Nat.le_of_ble_eq_true rfl)) dL_law_318 ⟨(by show cells + 8 ≤ room_1.cells; exact Nat.le_trans (by omega) rm_c), (by show slots + 48 ≤ room_1.slots; exact Nat.le_trans (by omega) rm_s)⟩) hS (fun z _ h => hF z h) hF (fun r8 f8 t8 H1 L1 ht hvm hw hB hz1 hk1 hS => ?_)
  obtain ⟨hr8, hf8⟩ := hw
  subst hr8
  obtain ⟨hP9, -, hD9⟩ := hB
  rw [ht] at hP9
  obtain ⟨hP8, hD8⟩ := va_join (wc := (cb_w a k S ++ [(q, .inl (kq, (1, .inr (.inl (f)))))])) (wr := (mb_w am km S th)) hP hD [0, 1, 2, 3, 4, 5, 6, 7, 8, 9, 10, 11, 12, 13, 14, 15, 16, 17, 18, 19, 35] [20, 21, 22, 23, 24, 25, 26, 27, 28, 29, 30, 31, 32, 33, 34] rfl rfl (by decide) (by decide) hk1 hF hP9 hD9
  have hP : va_P (dC, dI) vwCl (cb_w a k S ++ (mb_w am km S th ++ [(q, .inl (kq, (1, .inr (.inl (f8)))))])) H1 := hP8.sub [15, 16, 17, 18, 19, 20, 21, 22, 23, 24, 25, 26, 27, 28, 29, 30, 31, 32, 33, 34, 0, 1, 2, 3, 4, 5, 6, 7, 8, 9, 10, 11, 12, 13, 14, 35] rfl
  have hD : va_D (fun z => s.heap.size ≤ z) (cb_w a k S ++ (mb_w am km S th ++ [(q, .inl (kq, (1, .inr (.inl (f8)))))])) := hD8.sub [15, 16, 17, 18, 19, 20, 21, 22, 23, 24, 25, 26, 27, 28, 29, 30, 31, 32, 33, 34, 0, 1, 2, 3, 4, 5, 6, 7, 8, 9, 10, 11, 12, 13, 14, 35] (by decide) rfl
  refine lv_istore (lv' := [(5, .int (nI (k_scout S (xs ((5 * j) + 1)) (xs ((5 * j) + 2))))), (0, .ref b), (1, .ref (a 0)), (2, .ref (am 0)), (3, .ref q), (4, .int (nI (5 * j)))]) hx hb dL_law_321 hl (by decide) rfl (fun ls hl => ?_)
  refine lv_aload_n hx hb dL_law_323 rfl (lv_at hl 3 rfl) ?_
  refine lv_aload_n hx hb dL_law_324 rfl (lv_at hl 1 rfl) ?_
  refine lv_iload hx hb dL_law_325 (lv_at hl 5 rfl) ?_
  refine lv_iconst (v := nI 1) hx hb dL_law_327 (by decide) ?_
  refine lv_iadd hx hb dL_law_328 ?_
  refine cb_topi (nI_add _ _) ?_
  refine va_sld hx hb hX hbl hbA hS (i := nI ((5 * j) + 1)) (vp_in_nI (show (5 * j) + 1 < L by omega) (by omega)) dL_law_329 ?_
  refine cb_topi (z := xs ((5 * j) + 1)) (congrArg xs (tn (by omega))) ?_
  refine lv_aload_n hx hb dL_law_330 rfl (lv_at hl 1 rfl) ?_
  refine lv_iload hx hb dL_law_331 (lv_at hl 5 rfl) ?_
  refine lv_iconst (v := nI 2) hx hb dL_law_333 (by decide) ?_
  refine lv_iadd hx hb dL_law_334 ?_
  refine cb_topi (nI_add _ _) ?_
  refine va_sld hx hb hX hbl hbA hS (i := nI ((5 * j) + 2)) (vp_in_nI (show (5 * j) + 2 < L by omega) (by omega)) dL_law_335 ?_
  refine cb_topi (z := xs ((5 * j) + 2)) (congrArg xs (tn (by omega))) ?_
  have hPc := hP.sub (ws' := (mb_w am km S th)) [20, 21, 22, 23, 24, 25, 26, 27, 28, 29, 30, 31, 32, 33, 34] rfl
  have hDc := hD.sub (ws' := (mb_w am km S th)) [20, 21, 22, 23, 24, 25, 26, 27, 28, 29, 30, 31, 32, 33, 34] (by decide) rfl
  have hKc := hK.sub (tys' := (mb_ty km)) [14, 15, 16, 17, 18, 19, 20, 21, 22, 23, 24, 25, 26, 27] rfl
  have hF : ∀ z, va_A (mb_w am km S th) H1.size z → s.heap.size ≤ z := va_free hD hS hA [20, 21, 22, 23, 24, 25, 26, 27, 28, 29, 30, 31, 32, 33, 34] rfl
  refine va_calli (va_runV (As := [.int (xs ((5 * j) + 1)), .int (xs ((5 * j) + 2))]) (rest := []) ⟨hx, hb, hml, hown, hts⟩ (c_X6_scout l dC dI am km S th H1.size (xs ((5 * j) + 1)) (xs ((5 * j) + 2)) hI) (cwV 2 hts gL_law_X6_scout rfl rfl rfl (by decide +kernel) ⟨(Nat.le_of_ble_eq_true rfl), (Nat.le_of_ble_eq_true rfl)⟩) ⟨cT_blind, va_recv hKc hPc (ci := 6) (q0 := 0) rfl rfl, fun U hU hW => ⟨rfl, cT_of hKc hPc hDc hU hW⟩⟩ rfl rfl hl.1 rfl (lv_room (Nat.le_of_ble_eq_true rfl)) dL_law_336 ⟨(by show (cells + 8) + 1 ≤ room_1.cells; exact Nat.le_trans (by omega) rm_c), (by show (slots + 48) + 7 ≤ room_1.slots; exact Nat.le_trans (by omega) rm_s)⟩) hS (fun z _ h => hF z h) hF (fun r9 u9 t9 H2 L2 ht hvm hr9 hB hz1 hk1 hS => ?_)
  obtain ⟨hP9, -, hD9⟩ := hB
  rw [ht] at hP9
  obtain ⟨hP8, hD8⟩ := va_join (wc := (mb_w am km S th)) (wr := ((cb_w a k S) ++ [(q, .inl (kq, (1, .inr (.inl (f8)))))])) hP hD [20, 21, 22, 23, 24, 25, 26, 27, 28, 29, 30, 31, 32, 33, 34] [0, 1, 2, 3, 4, 5, 6, 7, 8, 9, 10, 11, 12, 13, 14, 15, 16, 17, 18, 19, 35] rfl rfl (by decide) (by decide) hk1 hF hP9 hD9
  have hP : va_P (dC, dI) vwCl (cb_w a k S ++ (mb_w am km S (k_scout S (xs ((5 * j) + 1)) (xs ((5 * j) + 2))) ++ [(q, .inl (kq, (1, .inr (.inl (f8)))))])) H2 := hP8.sub [0, 1, 2, 3, 4, 5, 6, 7, 8, 9, 10, 11, 12, 13, 14, 15, 16, 17, 18, 19, 21, 22, 23, 24, 25, 26, 27, 28, 29, 30, 31, 32, 33, 34, 35, 20] rfl
  have hD : va_D (fun z => s.heap.size ≤ z) (cb_w a k S ++ (mb_w am km S (k_scout S (xs ((5 * j) + 1)) (xs ((5 * j) + 2))) ++ [(q, .inl (kq, (1, .inr (.inl (f8)))))])) := hD8.sub [0, 1, 2, 3, 4, 5, 6, 7, 8, 9, 10, 11, 12, 13, 14, 15, 16, 17, 18, 19, 21, 22, 23, 24, 25, 26, 27, 28, 29, 30, 31, 32, 33, 34, 35, 20] (by decide) rfl
  refine lv_istore (lv' := [(6, .int r9), (5, .int (nI (k_scout S (xs ((5 * j) + 1)) (xs ((5 * j) + 2))))), (0, .ref b), (1, .ref (a 0)), (2, .ref (am 0)), (3, .ref q), (4, .int (nI (5 * j)))]) hx hb dL_law_339 hl (by decide) rfl (fun ls hl => ?_)
  refine lv_aload_n hx hb dL_law_341 rfl (lv_at hl 4 rfl) ?_
  have hPc := hP.sub (ws' := (mb_w am km S (k_scout S (xs ((5 * j) + 1)) (xs ((5 * j) + 2))))) [20, 21, 22, 23, 24, 25, 26, 27, 28, 29, 30, 31, 32, 33, 34] rfl
  have hDc := hD.sub (ws' := (mb_w am km S (k_scout S (xs ((5 * j) + 1)) (xs ((5 * j) + 2))))) [20, 21, 22, 23, 24, 25, 26, 27, 28, 29, 30, 31, 32, 33, 34] (by decide) rfl
  have hKc := hK.sub (tys' := (mb_ty km)) [14, 15, 16, 17, 18, 19, 20, 21, 22, 23, 24, 25, 26, 27] rfl
  refine vp_callSi (W.runV (As := []) (rest := []) ⟨hx, hb, hml, hown, hts⟩ (c_X6_thrown l dC dI am km S (k_scout S (xs ((5 * j) + 1)) (xs ((5 * j) + 2)))) (cwV 0 hts gL_law_X6_thrown rfl rfl rfl (by decide +kernel) ⟨(Nat.le_of_ble_eq_true rfl), (Nat.le_of_ble_eq_true rfl)⟩) ⟨cR_blind, va_recv hKc hPc (ci := 6) (q0 := 0) rfl rfl, fun U hU hW => ⟨rfl, cR_of hKc hPc hU hW⟩⟩ rfl rfl hl.1 rfl (lv_room (Nat.le_of_ble_eq_true rfl)) dL_law_342 ⟨(by show ((cells + 8) + 1) + 0 ≤ room_1.cells; exact Nat.le_trans (by omega) rm_c), (by show ((slots + 48) + 7) + 0 ≤ room_1.slots; exact Nat.le_trans (by omega) rm_s)⟩) (fun r er => ?_)
  subst er
  refine lv_iload hx hb dL_law_345 (lv_at hl 1 rfl) ?_
  refine lv_icmp_eq (tgt := 352) hx hb dL_law_347 (by decide) (fun c_347 => ?_) (fun c_347 => ?_)
  · skip
    refine lv_iload hx hb dL_law_352 (lv_at hl 1 rfl) ?_
    refine lv_if_ne (tgt := 369) hx hb dL_law_354 (by decide) (fun c_354 => ?_) (fun c_354 => ?_)
    · skip
      refine lv_goto (tgt := 2067) hx hb dL_law_369 (by decide) ?_
      refine W.widen (k := cells + 231) (n := slots + 1597) (by omega) (by omega) ?_
      exact kk S (k_scout S (xs ((5 * j) + 1)) (xs ((5 * j) + 2))) f8 H2 _ ls hI hP hD hS (lv_sub hl [2, 3, 4, 5, 6] rfl)
    · skip
      have h0 := kz kb_scout c_354
      refine lv_aload_n hx hb dL_law_357 rfl (lv_at hl 5 rfl) ?_
      refine lv_iconst (v := nI 0) hx hb dL_law_358 (by decide) ?_
      refine cb_lald hx hb hK hP 35 28 (f := f8) rfl rfl (j := 0) (by omega) (Nat.le_of_ble_eq_true rfl) dL_law_359 ?_
      refine lv_iload hx hb dL_law_360 (lv_at hl 0 rfl) ?_
      refine lv_i2l hx hb dL_law_362 rfl ?_
      refine W.lcmp hx hb dL_law_363 ?_
      refine lv_if_eq (tgt := 369) hx hb dL_law_364 (by decide) (fun c_364 => ?_) (fun c_364 => ?_)
      · have c_364 : (f8 0) = r9.toInt64 := lg_cmp_t c_364
        refine lv_goto (tgt := 2067) hx hb dL_law_369 (by decide) ?_
        refine W.widen (k := cells + 231) (n := slots + 1597) (by omega) (by omega) ?_
        exact kk S (k_scout S (xs ((5 * j) + 1)) (xs ((5 * j) + 2))) f8 H2 _ ls hI hP hD hS (lv_sub hl [2, 3, 4, 5, 6] rfl)
      · have c_364 : ¬ (f8 0) = r9.toInt64 := lg_cmp_f c_364
        exact absurd (by rw [hf8 h0, hr9 h0]) c_364
  · skip
    exact absurd rfl c_347
theorem kb_addTent {S : cs_S} {x0 : Int32} : k_addTent S x0 < 4 := by unfold k_addTent; (repeat' split) <;> decide
set_option maxHeartbeats 4000000 in
set_option maxRecDepth 100000 in
theorem lc_addTent {p : Program} {l : Launch} {e : Env} {s : State} {m : MethodId} {below : List Frame} {meth : Method} {c : Code} {b L : Nat} {xs : Nat → Int32} {dC : Nat → ClassId} {dI : Nat → Nat → Nat} {a : Nat → Nat} {k : Nat → ClassId} {am : Nat → Nat} {km : Nat → ClassId} {q : Nat} {kq : ClassId} (hl9 : l.stackTraces = false) (C0 : LC p s m c b L xs dC dI k km kq) {S : cs_S} {th : Nat} {f : Nat → Int64} {H : Heap} {locs : List Loc} {j : Nat} {ls : Array Slot} {cells slots : Nat} {Q : State → Prop} (hI : Inv S) (hP : va_P (dC, dI) vwCl (cb_w a k S ++ (mb_w am km S th ++ [(q, .inl (kq, (1, .inr (.inl (f)))))])) H) (hD : va_D (fun z => s.heap.size ≤ z) (cb_w a k S ++ (mb_w am km S th ++ [(q, .inl (kq, (1, .inr (.inl (f)))))]))) (hS : va_S (fun z => s.heap.size ≤ z) s.heap H locs) (hj : 5 * j + 5 ≤ L) (hl : lv_has ls 9 [(0, .ref b), (1, .ref (a 0)), (2, .ref (am 0)), (3, .ref q), (4, .int (nI (5 * j)))]) (hc : cells + 231 ≤ 200000) (hs : slots + 1597 ≤ 2000000) (kk : KK p l e s m below meth c b dC dI a k am km q kq j cells slots Q) : W p l e room_1 s m #[Value.ref b] below meth c H locs cells slots Q (F0 m 372 ls []) := by
  obtain ⟨hx, hb, hml, hown, hts, hX, hbl, hL, hK, hE⟩ := C0
  have hbA : ¬ (fun z => s.heap.size ≤ z) b := Nat.not_le.mpr hbl
  have hA : ∀ z : Nat, s.heap.size ≤ z → (fun z => s.heap.size ≤ z) z := fun _ h => h
  refine lv_aload_n hx hb dL_law_372 rfl (lv_at hl 1 rfl) ?_
  refine lv_aload_n hx hb dL_law_373 rfl (lv_at hl 0 rfl) ?_
  refine lv_iload hx hb dL_law_374 (lv_at hl 4 rfl) ?_
  refine lv_iconst (v := nI 1) hx hb dL_law_376 (by decide) ?_
  refine lv_iadd hx hb dL_law_377 ?_
  refine cb_topi (nI_add _ _) ?_
  refine va_sld hx hb hX hbl hbA hS (i := nI ((5 * j) + 1)) (vp_in_nI (show (5 * j) + 1 < L by omega) (by omega)) dL_law_378 ?_
  refine cb_topi (z := xs ((5 * j) + 1)) (congrArg xs (tn (by omega))) ?_
  refine lv_aload_n hx hb dL_law_379 rfl (lv_at hl 3 rfl) ?_
  have hPc := hP.sub (ws' := (cb_w a k S ++ [(q, .inl (kq, (1, .inr (.inl (f)))))])) [0, 1, 2, 3, 4, 5, 6, 7, 8, 9, 10, 11, 12, 13, 14, 15, 16, 17, 18, 19, 35] rfl
  have hDc := hD.sub (ws' := (cb_w a k S ++ [(q, .inl (kq, (1, .inr (.inl (f)))))])) [0, 1, 2, 3, 4, 5, 6, 7, 8, 9, 10, 11, 12, 13, 14, 15, 16, 17, 18, 19, 35] (by decide) rfl
  have hKc := hK.sub (tys' := (cb_ty k ++ [(kq, .long)])) [0, 1, 2, 3, 4, 5, 6, 7, 8, 9, 10, 11, 12, 13, 28] rfl
  have hF : ∀ z, va_A (cb_w a k S ++ [(q, .inl (kq, (1, .inr (.inl (f)))))]) H.size z → s.heap.size ≤ z := va_free hD hS hA [0, 1, 2, 3, 4, 5, 6, 7, 8, 9, 10, 11, 12, 13, 14, 15, 16, 17, 18, 19, 35] rfl
  refine va_calli (vx_runSW (As := [.ref (a 0), .int (xs ((5 * j) + 1)), .ref q]) (rest := []) ⟨hx, hb, hml, hown, hts⟩ (c_L_addTent l hl9 dC dI a k S q kq f H.size (xs ((5 * j) + 1)) hI) (vx_cwSW 3 hts gL_law_L_addTent rfl rfl rfl (by decide +kernel) ⟨(Nat.le_of_ble_eq_true rfl), (Nat.le_of_ble_eq_true rfl)⟩) ⟨cV_blind, fun U hU hW => ⟨rfl, cV_of hKc hPc hDc hE hS hU hW hF⟩⟩ rfl rfl hl.1 rfl (lv_room (Nat.le_of_ble_eq_true rfl)) dL_law_380 ⟨(by show cells + 8 ≤ room_1.cells; exact Nat.le_trans (by omega) rm_c), (by show slots + 48 ≤ room_1.slots; exact Nat.le_trans (by omega) rm_s)⟩) hS (fun z _ h => hF z h) hF (fun r8 f8 t8 H1 L1 ht hvm hw hB hz1 hk1 hS => ?_)
  obtain ⟨hr8, hf8⟩ := hw
  subst hr8
  obtain ⟨hP9, -, hD9⟩ := hB
  rw [ht] at hP9
  obtain ⟨hP8, hD8⟩ := va_join (wc := (cb_w a k S ++ [(q, .inl (kq, (1, .inr (.inl (f)))))])) (wr := (mb_w am km S th)) hP hD [0, 1, 2, 3, 4, 5, 6, 7, 8, 9, 10, 11, 12, 13, 14, 15, 16, 17, 18, 19, 35] [20, 21, 22, 23, 24, 25, 26, 27, 28, 29, 30, 31, 32, 33, 34] rfl rfl (by decide) (by decide) hk1 hF hP9 hD9
  have hP : va_P (dC, dI) vwCl (cb_w a k (kS (k_addTent S (xs ((5 * j) + 1))) (S_addTent S (xs ((5 * j) + 1))) S) ++ (mb_w am km S th ++ [(q, .inl (kq, (1, .inr (.inl (f8)))))])) H1 := hP8.sub [15, 16, 17, 18, 19, 20, 21, 22, 23, 24, 25, 26, 27, 28, 29, 30, 31, 32, 33, 34, 0, 1, 2, 3, 4, 5, 6, 7, 8, 9, 10, 11, 12, 13, 14, 35] rfl
  have hD : va_D (fun z => s.heap.size ≤ z) (cb_w a k (kS (k_addTent S (xs ((5 * j) + 1))) (S_addTent S (xs ((5 * j) + 1))) S) ++ (mb_w am km S th ++ [(q, .inl (kq, (1, .inr (.inl (f8)))))])) := hD8.sub [15, 16, 17, 18, 19, 20, 21, 22, 23, 24, 25, 26, 27, 28, 29, 30, 31, 32, 33, 34, 0, 1, 2, 3, 4, 5, 6, 7, 8, 9, 10, 11, 12, 13, 14, 35] (by decide) rfl
  refine lv_istore (lv' := [(5, .int (nI (k_addTent S (xs ((5 * j) + 1))))), (0, .ref b), (1, .ref (a 0)), (2, .ref (am 0)), (3, .ref q), (4, .int (nI (5 * j)))]) hx hb dL_law_383 hl (by decide) rfl (fun ls hl => ?_)
  refine lv_aload_n hx hb dL_law_385 rfl (lv_at hl 3 rfl) ?_
  refine lv_aload_n hx hb dL_law_386 rfl (lv_at hl 1 rfl) ?_
  refine lv_iload hx hb dL_law_387 (lv_at hl 5 rfl) ?_
  refine lv_iconst (v := nI 1) hx hb dL_law_389 (by decide) ?_
  refine lv_iadd hx hb dL_law_390 ?_
  refine cb_topi (nI_add _ _) ?_
  refine va_sld hx hb hX hbl hbA hS (i := nI ((5 * j) + 1)) (vp_in_nI (show (5 * j) + 1 < L by omega) (by omega)) dL_law_391 ?_
  refine cb_topi (z := xs ((5 * j) + 1)) (congrArg xs (tn (by omega))) ?_
  have hPc := hP.sub (ws' := (mb_w am km S th)) [20, 21, 22, 23, 24, 25, 26, 27, 28, 29, 30, 31, 32, 33, 34] rfl
  have hDc := hD.sub (ws' := (mb_w am km S th)) [20, 21, 22, 23, 24, 25, 26, 27, 28, 29, 30, 31, 32, 33, 34] (by decide) rfl
  have hKc := hK.sub (tys' := (mb_ty km)) [14, 15, 16, 17, 18, 19, 20, 21, 22, 23, 24, 25, 26, 27] rfl
  have hF : ∀ z, va_A (mb_w am km S th) H1.size z → s.heap.size ≤ z := va_free hD hS hA [20, 21, 22, 23, 24, 25, 26, 27, 28, 29, 30, 31, 32, 33, 34] rfl
  refine va_calli (va_runV (As := [.int (xs ((5 * j) + 1))]) (rest := []) ⟨hx, hb, hml, hown, hts⟩ (c_X6_addTent l dC dI am km S th H1.size (xs ((5 * j) + 1)) hI) (cwV 1 hts gL_law_X6_addTent rfl rfl rfl (by decide +kernel) ⟨(Nat.le_of_ble_eq_true rfl), (Nat.le_of_ble_eq_true rfl)⟩) ⟨cT_blind, va_recv hKc hPc (ci := 6) (q0 := 0) rfl rfl, fun U hU hW => ⟨rfl, cT_of hKc hPc hDc hU hW⟩⟩ rfl rfl hl.1 rfl (lv_room (Nat.le_of_ble_eq_true rfl)) dL_law_392 ⟨(by show (cells + 8) + 0 ≤ room_1.cells; exact Nat.le_trans (by omega) rm_c), (by show (slots + 48) + 0 ≤ room_1.slots; exact Nat.le_trans (by omega) rm_s)⟩) hS (fun z _ h => hF z h) hF (fun r9 u9 t9 H2 L2 ht hvm hr9 hB hz1 hk1 hS => ?_)
  obtain ⟨hP9, -, hD9⟩ := hB
  rw [ht] at hP9
  obtain ⟨hP8, hD8⟩ := va_join (wc := (mb_w am km S th)) (wr := ((cb_w a k (kS (k_addTent S (xs ((5 * j) + 1))) (S_addTent S (xs ((5 * j) + 1))) S)) ++ [(q, .inl (kq, (1, .inr (.inl (f8)))))])) hP hD [20, 21, 22, 23, 24, 25, 26, 27, 28, 29, 30, 31, 32, 33, 34] [0, 1, 2, 3, 4, 5, 6, 7, 8, 9, 10, 11, 12, 13, 14, 15, 16, 17, 18, 19, 35] rfl rfl (by decide) (by decide) hk1 hF hP9 hD9
  have hP : va_P (dC, dI) vwCl (cb_w a k (kS (k_addTent S (xs ((5 * j) + 1))) (S_addTent S (xs ((5 * j) + 1))) S) ++ (mb_w am km (kS (k_addTent S (xs ((5 * j) + 1))) (S_addTent S (xs ((5 * j) + 1))) S) (k_addTent S (xs ((5 * j) + 1))) ++ [(q, .inl (kq, (1, .inr (.inl (f8)))))])) H2 := hP8.sub [0, 1, 2, 3, 4, 5, 6, 7, 8, 9, 10, 11, 12, 13, 14, 15, 16, 17, 18, 19, 21, 22, 23, 24, 25, 26, 27, 28, 29, 30, 31, 32, 33, 34, 35, 20] rfl
  have hD : va_D (fun z => s.heap.size ≤ z) (cb_w a k (kS (k_addTent S (xs ((5 * j) + 1))) (S_addTent S (xs ((5 * j) + 1))) S) ++ (mb_w am km (kS (k_addTent S (xs ((5 * j) + 1))) (S_addTent S (xs ((5 * j) + 1))) S) (k_addTent S (xs ((5 * j) + 1))) ++ [(q, .inl (kq, (1, .inr (.inl (f8)))))])) := hD8.sub [0, 1, 2, 3, 4, 5, 6, 7, 8, 9, 10, 11, 12, 13, 14, 15, 16, 17, 18, 19, 21, 22, 23, 24, 25, 26, 27, 28, 29, 30, 31, 32, 33, 34, 35, 20] (by decide) rfl
  refine lv_istore (lv' := [(6, .int r9), (5, .int (nI (k_addTent S (xs ((5 * j) + 1))))), (0, .ref b), (1, .ref (a 0)), (2, .ref (am 0)), (3, .ref q), (4, .int (nI (5 * j)))]) hx hb dL_law_395 hl (by decide) rfl (fun ls hl => ?_)
  refine lv_aload_n hx hb dL_law_397 rfl (lv_at hl 4 rfl) ?_
  have hPc := hP.sub (ws' := (mb_w am km (kS (k_addTent S (xs ((5 * j) + 1))) (S_addTent S (xs ((5 * j) + 1))) S) (k_addTent S (xs ((5 * j) + 1))))) [20, 21, 22, 23, 24, 25, 26, 27, 28, 29, 30, 31, 32, 33, 34] rfl
  have hDc := hD.sub (ws' := (mb_w am km (kS (k_addTent S (xs ((5 * j) + 1))) (S_addTent S (xs ((5 * j) + 1))) S) (k_addTent S (xs ((5 * j) + 1))))) [20, 21, 22, 23, 24, 25, 26, 27, 28, 29, 30, 31, 32, 33, 34] (by decide) rfl
  have hKc := hK.sub (tys' := (mb_ty km)) [14, 15, 16, 17, 18, 19, 20, 21, 22, 23, 24, 25, 26, 27] rfl
  refine vp_callSi (W.runV (As := []) (rest := []) ⟨hx, hb, hml, hown, hts⟩ (c_X6_thrown l dC dI am km (kS (k_addTent S (xs ((5 * j) + 1))) (S_addTent S (xs ((5 * j) + 1))) S) (k_addTent S (xs ((5 * j) + 1)))) (cwV 0 hts gL_law_X6_thrown rfl rfl rfl (by decide +kernel) ⟨(Nat.le_of_ble_eq_true rfl), (Nat.le_of_ble_eq_true rfl)⟩) ⟨cR_blind, va_recv hKc hPc (ci := 6) (q0 := 0) rfl rfl, fun U hU hW => ⟨rfl, cR_of hKc hPc hU hW⟩⟩ rfl rfl hl.1 rfl (lv_room (Nat.le_of_ble_eq_true rfl)) dL_law_398 ⟨(by show ((cells + 8) + 0) + 0 ≤ room_1.cells; exact Nat.le_trans (by omega) rm_c), (by show ((slots + 48) + 0) + 0 ≤ room_1.slots; exact Nat.le_trans (by omega) rm_s)⟩) (fun r er => ?_)
  subst er
  refine lv_iload hx hb dL_law_401 (lv_at hl 1 rfl) ?_
  refine lv_icmp_eq (tgt := 408) hx hb dL_law_403 (by decide) (fun c_403 => ?_) (fun c_403 => ?_)
  · skip
    refine lv_iload hx hb dL_law_408 (lv_at hl 1 rfl) ?_
    refine lv_if_ne (tgt := 425) hx hb dL_law_410 (by decide) (fun c_410 => ?_) (fun c_410 => ?_)
    · skip
      refine lv_goto (tgt := 2067) hx hb dL_law_425 (by decide) ?_
      refine W.widen (k := cells + 231) (n := slots + 1597) (by omega) (by omega) ?_
      exact kk (kS (k_addTent S (xs ((5 * j) + 1))) (S_addTent S (xs ((5 * j) + 1))) S) (k_addTent S (xs ((5 * j) + 1))) f8 H2 _ ls (inv_kS hI (fun h9 => inv_addTent hI h9)) hP hD hS (lv_sub hl [2, 3, 4, 5, 6] rfl)
    · skip
      have h0 := kz kb_addTent c_410
      refine lv_aload_n hx hb dL_law_413 rfl (lv_at hl 5 rfl) ?_
      refine lv_iconst (v := nI 0) hx hb dL_law_414 (by decide) ?_
      refine cb_lald hx hb hK hP 35 28 (f := f8) rfl rfl (j := 0) (by omega) (Nat.le_of_ble_eq_true rfl) dL_law_415 ?_
      refine lv_iload hx hb dL_law_416 (lv_at hl 0 rfl) ?_
      refine lv_i2l hx hb dL_law_418 rfl ?_
      refine W.lcmp hx hb dL_law_419 ?_
      refine lv_if_eq (tgt := 425) hx hb dL_law_420 (by decide) (fun c_420 => ?_) (fun c_420 => ?_)
      · have c_420 : (f8 0) = r9.toInt64 := lg_cmp_t c_420
        refine lv_goto (tgt := 2067) hx hb dL_law_425 (by decide) ?_
        refine W.widen (k := cells + 231) (n := slots + 1597) (by omega) (by omega) ?_
        exact kk (kS (k_addTent S (xs ((5 * j) + 1))) (S_addTent S (xs ((5 * j) + 1))) S) (k_addTent S (xs ((5 * j) + 1))) f8 H2 _ ls (inv_kS hI (fun h9 => inv_addTent hI h9)) hP hD hS (lv_sub hl [2, 3, 4, 5, 6] rfl)
      · have c_420 : ¬ (f8 0) = r9.toInt64 := lg_cmp_f c_420
        exact absurd (by rw [hf8 h0, hr9 h0]) c_420
  · skip
    exact absurd rfl c_403
theorem kb_sleep {S : cs_S} {x0 : Int32} {x1 : Int32} : k_sleep S x0 x1 < 4 := by unfold k_sleep; (repeat' split) <;> decide
set_option maxHeartbeats 4000000 in
set_option maxRecDepth 100000 in
theorem lc_sleep {p : Program} {l : Launch} {e : Env} {s : State} {m : MethodId} {below : List Frame} {meth : Method} {c : Code} {b L : Nat} {xs : Nat → Int32} {dC : Nat → ClassId} {dI : Nat → Nat → Nat} {a : Nat → Nat} {k : Nat → ClassId} {am : Nat → Nat} {km : Nat → ClassId} {q : Nat} {kq : ClassId} (hl9 : l.stackTraces = false) (C0 : LC p s m c b L xs dC dI k km kq) {S : cs_S} {th : Nat} {f : Nat → Int64} {H : Heap} {locs : List Loc} {j : Nat} {ls : Array Slot} {cells slots : Nat} {Q : State → Prop} (hI : Inv S) (hP : va_P (dC, dI) vwCl (cb_w a k S ++ (mb_w am km S th ++ [(q, .inl (kq, (1, .inr (.inl (f)))))])) H) (hD : va_D (fun z => s.heap.size ≤ z) (cb_w a k S ++ (mb_w am km S th ++ [(q, .inl (kq, (1, .inr (.inl (f)))))]))) (hS : va_S (fun z => s.heap.size ≤ z) s.heap H locs) (hj : 5 * j + 5 ≤ L) (hl : lv_has ls 9 [(0, .ref b), (1, .ref (a 0)), (2, .ref (am 0)), (3, .ref q), (4, .int (nI (5 * j)))]) (hc : cells + 231 ≤ 200000) (hs : slots + 1597 ≤ 2000000) (kk : KK p l e s m below meth c b dC dI a k am km q kq j cells slots Q) : W p l e room_1 s m #[Value.ref b] below meth c H locs cells slots Q (F0 m 428 ls []) := by
  obtain ⟨hx, hb, hml, hown, hts, hX, hbl, hL, hK, hE⟩ := C0
  have hbA : ¬ (fun z => s.heap.size ≤ z) b := Nat.not_le.mpr hbl
  have hA : ∀ z : Nat, s.heap.size ≤ z → (fun z => s.heap.size ≤ z) z := fun _ h => h
  refine lv_aload_n hx hb dL_law_428 rfl (lv_at hl 1 rfl) ?_
  refine lv_aload_n hx hb dL_law_429 rfl (lv_at hl 0 rfl) ?_
  refine lv_iload hx hb dL_law_430 (lv_at hl 4 rfl) ?_
  refine lv_iconst (v := nI 1) hx hb dL_law_432 (by decide) ?_
  refine lv_iadd hx hb dL_law_433 ?_
  refine cb_topi (nI_add _ _) ?_
  refine va_sld hx hb hX hbl hbA hS (i := nI ((5 * j) + 1)) (vp_in_nI (show (5 * j) + 1 < L by omega) (by omega)) dL_law_434 ?_
  refine cb_topi (z := xs ((5 * j) + 1)) (congrArg xs (tn (by omega))) ?_
  refine lv_aload_n hx hb dL_law_435 rfl (lv_at hl 0 rfl) ?_
  refine lv_iload hx hb dL_law_436 (lv_at hl 4 rfl) ?_
  refine lv_iconst (v := nI 2) hx hb dL_law_438 (by decide) ?_
  refine lv_iadd hx hb dL_law_439 ?_
  refine cb_topi (nI_add _ _) ?_
  refine va_sld hx hb hX hbl hbA hS (i := nI ((5 * j) + 2)) (vp_in_nI (show (5 * j) + 2 < L by omega) (by omega)) dL_law_440 ?_
  refine cb_topi (z := xs ((5 * j) + 2)) (congrArg xs (tn (by omega))) ?_
  refine lv_aload_n hx hb dL_law_441 rfl (lv_at hl 3 rfl) ?_
  have hPc := hP.sub (ws' := (cb_w a k S ++ [(q, .inl (kq, (1, .inr (.inl (f)))))])) [0, 1, 2, 3, 4, 5, 6, 7, 8, 9, 10, 11, 12, 13, 14, 15, 16, 17, 18, 19, 35] rfl
  have hDc := hD.sub (ws' := (cb_w a k S ++ [(q, .inl (kq, (1, .inr (.inl (f)))))])) [0, 1, 2, 3, 4, 5, 6, 7, 8, 9, 10, 11, 12, 13, 14, 15, 16, 17, 18, 19, 35] (by decide) rfl
  have hKc := hK.sub (tys' := (cb_ty k ++ [(kq, .long)])) [0, 1, 2, 3, 4, 5, 6, 7, 8, 9, 10, 11, 12, 13, 28] rfl
  have hF : ∀ z, va_A (cb_w a k S ++ [(q, .inl (kq, (1, .inr (.inl (f)))))]) H.size z → s.heap.size ≤ z := va_free hD hS hA [0, 1, 2, 3, 4, 5, 6, 7, 8, 9, 10, 11, 12, 13, 14, 15, 16, 17, 18, 19, 35] rfl
  refine va_calli (vx_runSW (As := [.ref (a 0), .int (xs ((5 * j) + 1)), .int (xs ((5 * j) + 2)), .ref q]) (rest := []) ⟨hx, hb, hml, hown, hts⟩ (c_L_sleep l hl9 dC dI a k S q kq f H.size (xs ((5 * j) + 1)) (xs ((5 * j) + 2)) hI) (vx_cwSW 4 hts gL_law_L_sleep rfl rfl rfl (by decide +kernel) ⟨(Nat.le_of_ble_eq_true rfl), (Nat.le_of_ble_eq_true rfl)⟩) ⟨cV_blind, fun U hU hW => ⟨rfl, cV_of hKc hPc hDc hE hS hU hW hF⟩⟩ rfl rfl hl.1 rfl (lv_room (Nat.le_of_ble_eq_true rfl)) dL_law_442 ⟨(by show cells + 8 ≤ room_1.cells; exact Nat.le_trans (by omega) rm_c), (by show slots + 48 ≤ room_1.slots; exact Nat.le_trans (by omega) rm_s)⟩) hS (fun z _ h => hF z h) hF (fun r8 f8 t8 H1 L1 ht hvm hw hB hz1 hk1 hS => ?_)
  obtain ⟨hr8, hf8⟩ := hw
  subst hr8
  obtain ⟨hP9, -, hD9⟩ := hB
  rw [ht] at hP9
  obtain ⟨hP8, hD8⟩ := va_join (wc := (cb_w a k S ++ [(q, .inl (kq, (1, .inr (.inl (f)))))])) (wr := (mb_w am km S th)) hP hD [0, 1, 2, 3, 4, 5, 6, 7, 8, 9, 10, 11, 12, 13, 14, 15, 16, 17, 18, 19, 35] [20, 21, 22, 23, 24, 25, 26, 27, 28, 29, 30, 31, 32, 33, 34] rfl rfl (by decide) (by decide) hk1 hF hP9 hD9
  have hP : va_P (dC, dI) vwCl (cb_w a k (kS (k_sleep S (xs ((5 * j) + 1)) (xs ((5 * j) + 2))) (S_sleep S (xs ((5 * j) + 1)) (xs ((5 * j) + 2))) S) ++ (mb_w am km S th ++ [(q, .inl (kq, (1, .inr (.inl (f8)))))])) H1 := hP8.sub [15, 16, 17, 18, 19, 20, 21, 22, 23, 24, 25, 26, 27, 28, 29, 30, 31, 32, 33, 34, 0, 1, 2, 3, 4, 5, 6, 7, 8, 9, 10, 11, 12, 13, 14, 35] rfl
  have hD : va_D (fun z => s.heap.size ≤ z) (cb_w a k (kS (k_sleep S (xs ((5 * j) + 1)) (xs ((5 * j) + 2))) (S_sleep S (xs ((5 * j) + 1)) (xs ((5 * j) + 2))) S) ++ (mb_w am km S th ++ [(q, .inl (kq, (1, .inr (.inl (f8)))))])) := hD8.sub [15, 16, 17, 18, 19, 20, 21, 22, 23, 24, 25, 26, 27, 28, 29, 30, 31, 32, 33, 34, 0, 1, 2, 3, 4, 5, 6, 7, 8, 9, 10, 11, 12, 13, 14, 35] (by decide) rfl
  refine lv_istore (lv' := [(5, .int (nI (k_sleep S (xs ((5 * j) + 1)) (xs ((5 * j) + 2))))), (0, .ref b), (1, .ref (a 0)), (2, .ref (am 0)), (3, .ref q), (4, .int (nI (5 * j)))]) hx hb dL_law_445 hl (by decide) rfl (fun ls hl => ?_)
  refine lv_aload_n hx hb dL_law_447 rfl (lv_at hl 3 rfl) ?_
  refine lv_aload_n hx hb dL_law_448 rfl (lv_at hl 1 rfl) ?_
  refine lv_iload hx hb dL_law_449 (lv_at hl 5 rfl) ?_
  refine lv_iconst (v := nI 1) hx hb dL_law_451 (by decide) ?_
  refine lv_iadd hx hb dL_law_452 ?_
  refine cb_topi (nI_add _ _) ?_
  refine va_sld hx hb hX hbl hbA hS (i := nI ((5 * j) + 1)) (vp_in_nI (show (5 * j) + 1 < L by omega) (by omega)) dL_law_453 ?_
  refine cb_topi (z := xs ((5 * j) + 1)) (congrArg xs (tn (by omega))) ?_
  refine lv_aload_n hx hb dL_law_454 rfl (lv_at hl 1 rfl) ?_
  refine lv_iload hx hb dL_law_455 (lv_at hl 5 rfl) ?_
  refine lv_iconst (v := nI 2) hx hb dL_law_457 (by decide) ?_
  refine lv_iadd hx hb dL_law_458 ?_
  refine cb_topi (nI_add _ _) ?_
  refine va_sld hx hb hX hbl hbA hS (i := nI ((5 * j) + 2)) (vp_in_nI (show (5 * j) + 2 < L by omega) (by omega)) dL_law_459 ?_
  refine cb_topi (z := xs ((5 * j) + 2)) (congrArg xs (tn (by omega))) ?_
  have hPc := hP.sub (ws' := (mb_w am km S th)) [20, 21, 22, 23, 24, 25, 26, 27, 28, 29, 30, 31, 32, 33, 34] rfl
  have hDc := hD.sub (ws' := (mb_w am km S th)) [20, 21, 22, 23, 24, 25, 26, 27, 28, 29, 30, 31, 32, 33, 34] (by decide) rfl
  have hKc := hK.sub (tys' := (mb_ty km)) [14, 15, 16, 17, 18, 19, 20, 21, 22, 23, 24, 25, 26, 27] rfl
  have hF : ∀ z, va_A (mb_w am km S th) H1.size z → s.heap.size ≤ z := va_free hD hS hA [20, 21, 22, 23, 24, 25, 26, 27, 28, 29, 30, 31, 32, 33, 34] rfl
  refine va_calli (va_runV (As := [.int (xs ((5 * j) + 1)), .int (xs ((5 * j) + 2))]) (rest := []) ⟨hx, hb, hml, hown, hts⟩ (c_X6_sleep l dC dI am km S th H1.size (xs ((5 * j) + 1)) (xs ((5 * j) + 2)) hI) (cwV 2 hts gL_law_X6_sleep rfl rfl rfl (by decide +kernel) ⟨(Nat.le_of_ble_eq_true rfl), (Nat.le_of_ble_eq_true rfl)⟩) ⟨cT_blind, va_recv hKc hPc (ci := 6) (q0 := 0) rfl rfl, fun U hU hW => ⟨rfl, cT_of hKc hPc hDc hU hW⟩⟩ rfl rfl hl.1 rfl (lv_room (Nat.le_of_ble_eq_true rfl)) dL_law_460 ⟨(by show (cells + 8) + 0 ≤ room_1.cells; exact Nat.le_trans (by omega) rm_c), (by show (slots + 48) + 0 ≤ room_1.slots; exact Nat.le_trans (by omega) rm_s)⟩) hS (fun z _ h => hF z h) hF (fun r9 u9 t9 H2 L2 ht hvm hr9 hB hz1 hk1 hS => ?_)
  obtain ⟨hP9, -, hD9⟩ := hB
  rw [ht] at hP9
  obtain ⟨hP8, hD8⟩ := va_join (wc := (mb_w am km S th)) (wr := ((cb_w a k (kS (k_sleep S (xs ((5 * j) + 1)) (xs ((5 * j) + 2))) (S_sleep S (xs ((5 * j) + 1)) (xs ((5 * j) + 2))) S)) ++ [(q, .inl (kq, (1, .inr (.inl (f8)))))])) hP hD [20, 21, 22, 23, 24, 25, 26, 27, 28, 29, 30, 31, 32, 33, 34] [0, 1, 2, 3, 4, 5, 6, 7, 8, 9, 10, 11, 12, 13, 14, 15, 16, 17, 18, 19, 35] rfl rfl (by decide) (by decide) hk1 hF hP9 hD9
  have hP : va_P (dC, dI) vwCl (cb_w a k (kS (k_sleep S (xs ((5 * j) + 1)) (xs ((5 * j) + 2))) (S_sleep S (xs ((5 * j) + 1)) (xs ((5 * j) + 2))) S) ++ (mb_w am km (kS (k_sleep S (xs ((5 * j) + 1)) (xs ((5 * j) + 2))) (S_sleep S (xs ((5 * j) + 1)) (xs ((5 * j) + 2))) S) (k_sleep S (xs ((5 * j) + 1)) (xs ((5 * j) + 2))) ++ [(q, .inl (kq, (1, .inr (.inl (f8)))))])) H2 := hP8.sub [0, 1, 2, 3, 4, 5, 6, 7, 8, 9, 10, 11, 12, 13, 14, 15, 16, 17, 18, 19, 21, 22, 23, 24, 25, 26, 27, 28, 29, 30, 31, 32, 33, 34, 35, 20] rfl
  have hD : va_D (fun z => s.heap.size ≤ z) (cb_w a k (kS (k_sleep S (xs ((5 * j) + 1)) (xs ((5 * j) + 2))) (S_sleep S (xs ((5 * j) + 1)) (xs ((5 * j) + 2))) S) ++ (mb_w am km (kS (k_sleep S (xs ((5 * j) + 1)) (xs ((5 * j) + 2))) (S_sleep S (xs ((5 * j) + 1)) (xs ((5 * j) + 2))) S) (k_sleep S (xs ((5 * j) + 1)) (xs ((5 * j) + 2))) ++ [(q, .inl (kq, (1, .inr (.inl (f8)))))])) := hD8.sub [0, 1, 2, 3, 4, 5, 6, 7, 8, 9, 10, 11, 12, 13, 14, 15, 16, 17, 18, 19, 21, 22, 23, 24, 25, 26, 27, 28, 29, 30, 31, 32, 33, 34, 35, 20] (by decide) rfl
  refine lv_istore (lv' := [(6, .int r9), (5, .int (nI (k_sleep S (xs ((5 * j) + 1)) (xs ((5 * j) + 2))))), (0, .ref b), (1, .ref (a 0)), (2, .ref (am 0)), (3, .ref q), (4, .int (nI (5 * j)))]) hx hb dL_law_463 hl (by decide) rfl (fun ls hl => ?_)
  refine lv_aload_n hx hb dL_law_465 rfl (lv_at hl 4 rfl) ?_
  have hPc := hP.sub (ws' := (mb_w am km (kS (k_sleep S (xs ((5 * j) + 1)) (xs ((5 * j) + 2))) (S_sleep S (xs ((5 * j) + 1)) (xs ((5 * j) + 2))) S) (k_sleep S (xs ((5 * j) + 1)) (xs ((5 * j) + 2))))) [20, 21, 22, 23, 24, 25, 26, 27, 28, 29, 30, 31, 32, 33, 34] rfl
  have hDc := hD.sub (ws' := (mb_w am km (kS (k_sleep S (xs ((5 * j) + 1)) (xs ((5 * j) + 2))) (S_sleep S (xs ((5 * j) + 1)) (xs ((5 * j) + 2))) S) (k_sleep S (xs ((5 * j) + 1)) (xs ((5 * j) + 2))))) [20, 21, 22, 23, 24, 25, 26, 27, 28, 29, 30, 31, 32, 33, 34] (by decide) rfl
  have hKc := hK.sub (tys' := (mb_ty km)) [14, 15, 16, 17, 18, 19, 20, 21, 22, 23, 24, 25, 26, 27] rfl
  refine vp_callSi (W.runV (As := []) (rest := []) ⟨hx, hb, hml, hown, hts⟩ (c_X6_thrown l dC dI am km (kS (k_sleep S (xs ((5 * j) + 1)) (xs ((5 * j) + 2))) (S_sleep S (xs ((5 * j) + 1)) (xs ((5 * j) + 2))) S) (k_sleep S (xs ((5 * j) + 1)) (xs ((5 * j) + 2)))) (cwV 0 hts gL_law_X6_thrown rfl rfl rfl (by decide +kernel) ⟨(Nat.le_of_ble_eq_true rfl), (Nat.le_of_ble_eq_true rfl)⟩) ⟨cR_blind, va_recv hKc hPc (ci := 6) (q0 := 0) rfl rfl, fun U hU hW => ⟨rfl, cR_of hKc hPc hU hW⟩⟩ rfl rfl hl.1 rfl (lv_room (Nat.le_of_ble_eq_true rfl)) dL_law_466 ⟨(by show ((cells + 8) + 0) + 0 ≤ room_1.cells; exact Nat.le_trans (by omega) rm_c), (by show ((slots + 48) + 0) + 0 ≤ room_1.slots; exact Nat.le_trans (by omega) rm_s)⟩) (fun r er => ?_)
  subst er
  refine lv_iload hx hb dL_law_469 (lv_at hl 1 rfl) ?_
  refine lv_icmp_eq (tgt := 476) hx hb dL_law_471 (by decide) (fun c_471 => ?_) (fun c_471 => ?_)
  · skip
    refine lv_iload hx hb dL_law_476 (lv_at hl 1 rfl) ?_
    refine lv_if_ne (tgt := 493) hx hb dL_law_478 (by decide) (fun c_478 => ?_) (fun c_478 => ?_)
    · skip
      refine lv_goto (tgt := 2067) hx hb dL_law_493 (by decide) ?_
      refine W.widen (k := cells + 231) (n := slots + 1597) (by omega) (by omega) ?_
      exact kk (kS (k_sleep S (xs ((5 * j) + 1)) (xs ((5 * j) + 2))) (S_sleep S (xs ((5 * j) + 1)) (xs ((5 * j) + 2))) S) (k_sleep S (xs ((5 * j) + 1)) (xs ((5 * j) + 2))) f8 H2 _ ls (inv_kS hI (fun h9 => inv_sleep hI h9)) hP hD hS (lv_sub hl [2, 3, 4, 5, 6] rfl)
    · skip
      have h0 := kz kb_sleep c_478
      refine lv_aload_n hx hb dL_law_481 rfl (lv_at hl 5 rfl) ?_
      refine lv_iconst (v := nI 0) hx hb dL_law_482 (by decide) ?_
      refine cb_lald hx hb hK hP 35 28 (f := f8) rfl rfl (j := 0) (by omega) (Nat.le_of_ble_eq_true rfl) dL_law_483 ?_
      refine lv_iload hx hb dL_law_484 (lv_at hl 0 rfl) ?_
      refine lv_i2l hx hb dL_law_486 rfl ?_
      refine W.lcmp hx hb dL_law_487 ?_
      refine lv_if_eq (tgt := 493) hx hb dL_law_488 (by decide) (fun c_488 => ?_) (fun c_488 => ?_)
      · have c_488 : (f8 0) = r9.toInt64 := lg_cmp_t c_488
        refine lv_goto (tgt := 2067) hx hb dL_law_493 (by decide) ?_
        refine W.widen (k := cells + 231) (n := slots + 1597) (by omega) (by omega) ?_
        exact kk (kS (k_sleep S (xs ((5 * j) + 1)) (xs ((5 * j) + 2))) (S_sleep S (xs ((5 * j) + 1)) (xs ((5 * j) + 2))) S) (k_sleep S (xs ((5 * j) + 1)) (xs ((5 * j) + 2))) f8 H2 _ ls (inv_kS hI (fun h9 => inv_sleep hI h9)) hP hD hS (lv_sub hl [2, 3, 4, 5, 6] rfl)
      · have c_488 : ¬ (f8 0) = r9.toInt64 := lg_cmp_f c_488
        exact absurd (by rw [hf8 h0, hr9 h0]) c_488
  · skip
    exact absurd rfl c_471
theorem kb_inTent {S : cs_S} {x0 : Int32} : k_inTent S x0 < 4 := by unfold k_inTent; (repeat' split) <;> decide
set_option maxHeartbeats 4000000 in
set_option maxRecDepth 100000 in
theorem lc_inTent {p : Program} {l : Launch} {e : Env} {s : State} {m : MethodId} {below : List Frame} {meth : Method} {c : Code} {b L : Nat} {xs : Nat → Int32} {dC : Nat → ClassId} {dI : Nat → Nat → Nat} {a : Nat → Nat} {k : Nat → ClassId} {am : Nat → Nat} {km : Nat → ClassId} {q : Nat} {kq : ClassId} (hl9 : l.stackTraces = false) (C0 : LC p s m c b L xs dC dI k km kq) {S : cs_S} {th : Nat} {f : Nat → Int64} {H : Heap} {locs : List Loc} {j : Nat} {ls : Array Slot} {cells slots : Nat} {Q : State → Prop} (hI : Inv S) (hP : va_P (dC, dI) vwCl (cb_w a k S ++ (mb_w am km S th ++ [(q, .inl (kq, (1, .inr (.inl (f)))))])) H) (hD : va_D (fun z => s.heap.size ≤ z) (cb_w a k S ++ (mb_w am km S th ++ [(q, .inl (kq, (1, .inr (.inl (f)))))]))) (hS : va_S (fun z => s.heap.size ≤ z) s.heap H locs) (hj : 5 * j + 5 ≤ L) (hl : lv_has ls 9 [(0, .ref b), (1, .ref (a 0)), (2, .ref (am 0)), (3, .ref q), (4, .int (nI (5 * j)))]) (hc : cells + 231 ≤ 200000) (hs : slots + 1597 ≤ 2000000) (kk : KK p l e s m below meth c b dC dI a k am km q kq j cells slots Q) : W p l e room_1 s m #[Value.ref b] below meth c H locs cells slots Q (F0 m 496 ls []) := by
  obtain ⟨hx, hb, hml, hown, hts, hX, hbl, hL, hK, hE⟩ := C0
  have hbA : ¬ (fun z => s.heap.size ≤ z) b := Nat.not_le.mpr hbl
  have hA : ∀ z : Nat, s.heap.size ≤ z → (fun z => s.heap.size ≤ z) z := fun _ h => h
  refine lv_aload_n hx hb dL_law_496 rfl (lv_at hl 1 rfl) ?_
  refine lv_aload_n hx hb dL_law_497 rfl (lv_at hl 0 rfl) ?_
  refine lv_iload hx hb dL_law_498 (lv_at hl 4 rfl) ?_
  refine lv_iconst (v := nI 1) hx hb dL_law_500 (by decide) ?_
  refine lv_iadd hx hb dL_law_501 ?_
  refine cb_topi (nI_add _ _) ?_
  refine va_sld hx hb hX hbl hbA hS (i := nI ((5 * j) + 1)) (vp_in_nI (show (5 * j) + 1 < L by omega) (by omega)) dL_law_502 ?_
  refine cb_topi (z := xs ((5 * j) + 1)) (congrArg xs (tn (by omega))) ?_
  refine lv_aload_n hx hb dL_law_503 rfl (lv_at hl 3 rfl) ?_
  have hPc := hP.sub (ws' := (cb_w a k S ++ [(q, .inl (kq, (1, .inr (.inl (f)))))])) [0, 1, 2, 3, 4, 5, 6, 7, 8, 9, 10, 11, 12, 13, 14, 15, 16, 17, 18, 19, 35] rfl
  have hDc := hD.sub (ws' := (cb_w a k S ++ [(q, .inl (kq, (1, .inr (.inl (f)))))])) [0, 1, 2, 3, 4, 5, 6, 7, 8, 9, 10, 11, 12, 13, 14, 15, 16, 17, 18, 19, 35] (by decide) rfl
  have hKc := hK.sub (tys' := (cb_ty k ++ [(kq, .long)])) [0, 1, 2, 3, 4, 5, 6, 7, 8, 9, 10, 11, 12, 13, 28] rfl
  have hF : ∀ z, va_A (cb_w a k S ++ [(q, .inl (kq, (1, .inr (.inl (f)))))]) H.size z → s.heap.size ≤ z := va_free hD hS hA [0, 1, 2, 3, 4, 5, 6, 7, 8, 9, 10, 11, 12, 13, 14, 15, 16, 17, 18, 19, 35] rfl
  refine va_calli (vx_runSW (As := [.ref (a 0), .int (xs ((5 * j) + 1)), .ref q]) (rest := []) ⟨hx, hb, hml, hown, hts⟩ (c_L_inTent l hl9 dC dI a k S q kq f H.size (xs ((5 * j) + 1)) hI) (vx_cwSW 3 hts gL_law_L_inTent rfl rfl rfl (by decide +kernel) ⟨(Nat.le_of_ble_eq_true rfl), (Nat.le_of_ble_eq_true rfl)⟩) ⟨cV_blind, fun U hU hW => ⟨rfl, cV_of hKc hPc hDc hE hS hU hW hF⟩⟩ rfl rfl hl.1 rfl (lv_room (Nat.le_of_ble_eq_true rfl)) dL_law_504 ⟨(by show cells + 8 ≤ room_1.cells; exact Nat.le_trans (by omega) rm_c), (by show slots + 48 ≤ room_1.slots; exact Nat.le_trans (by omega) rm_s)⟩) hS (fun z _ h => hF z h) hF (fun r8 f8 t8 H1 L1 ht hvm hw hB hz1 hk1 hS => ?_)
  obtain ⟨hr8, hf8⟩ := hw
  subst hr8
  obtain ⟨hP9, -, hD9⟩ := hB
  rw [ht] at hP9
  obtain ⟨hP8, hD8⟩ := va_join (wc := (cb_w a k S ++ [(q, .inl (kq, (1, .inr (.inl (f)))))])) (wr := (mb_w am km S th)) hP hD [0, 1, 2, 3, 4, 5, 6, 7, 8, 9, 10, 11, 12, 13, 14, 15, 16, 17, 18, 19, 35] [20, 21, 22, 23, 24, 25, 26, 27, 28, 29, 30, 31, 32, 33, 34] rfl rfl (by decide) (by decide) hk1 hF hP9 hD9
  have hP : va_P (dC, dI) vwCl (cb_w a k S ++ (mb_w am km S th ++ [(q, .inl (kq, (1, .inr (.inl (f8)))))])) H1 := hP8.sub [15, 16, 17, 18, 19, 20, 21, 22, 23, 24, 25, 26, 27, 28, 29, 30, 31, 32, 33, 34, 0, 1, 2, 3, 4, 5, 6, 7, 8, 9, 10, 11, 12, 13, 14, 35] rfl
  have hD : va_D (fun z => s.heap.size ≤ z) (cb_w a k S ++ (mb_w am km S th ++ [(q, .inl (kq, (1, .inr (.inl (f8)))))])) := hD8.sub [15, 16, 17, 18, 19, 20, 21, 22, 23, 24, 25, 26, 27, 28, 29, 30, 31, 32, 33, 34, 0, 1, 2, 3, 4, 5, 6, 7, 8, 9, 10, 11, 12, 13, 14, 35] (by decide) rfl
  refine lv_istore (lv' := [(5, .int (nI (k_inTent S (xs ((5 * j) + 1))))), (0, .ref b), (1, .ref (a 0)), (2, .ref (am 0)), (3, .ref q), (4, .int (nI (5 * j)))]) hx hb dL_law_507 hl (by decide) rfl (fun ls hl => ?_)
  refine lv_aload_n hx hb dL_law_509 rfl (lv_at hl 3 rfl) ?_
  refine lv_aload_n hx hb dL_law_510 rfl (lv_at hl 1 rfl) ?_
  refine lv_iload hx hb dL_law_511 (lv_at hl 5 rfl) ?_
  refine lv_iconst (v := nI 1) hx hb dL_law_513 (by decide) ?_
  refine lv_iadd hx hb dL_law_514 ?_
  refine cb_topi (nI_add _ _) ?_
  refine va_sld hx hb hX hbl hbA hS (i := nI ((5 * j) + 1)) (vp_in_nI (show (5 * j) + 1 < L by omega) (by omega)) dL_law_515 ?_
  refine cb_topi (z := xs ((5 * j) + 1)) (congrArg xs (tn (by omega))) ?_
  have hPc := hP.sub (ws' := (mb_w am km S th)) [20, 21, 22, 23, 24, 25, 26, 27, 28, 29, 30, 31, 32, 33, 34] rfl
  have hDc := hD.sub (ws' := (mb_w am km S th)) [20, 21, 22, 23, 24, 25, 26, 27, 28, 29, 30, 31, 32, 33, 34] (by decide) rfl
  have hKc := hK.sub (tys' := (mb_ty km)) [14, 15, 16, 17, 18, 19, 20, 21, 22, 23, 24, 25, 26, 27] rfl
  have hF : ∀ z, va_A (mb_w am km S th) H1.size z → s.heap.size ≤ z := va_free hD hS hA [20, 21, 22, 23, 24, 25, 26, 27, 28, 29, 30, 31, 32, 33, 34] rfl
  refine va_calll (va_runV (As := [.int (xs ((5 * j) + 1))]) (rest := []) ⟨hx, hb, hml, hown, hts⟩ (c_X6_inTent l dC dI am km S th H1.size (xs ((5 * j) + 1)) hI) (cwV 1 hts gL_law_X6_inTent rfl rfl rfl (by decide +kernel) ⟨(Nat.le_of_ble_eq_true rfl), (Nat.le_of_ble_eq_true rfl)⟩) ⟨cT_blind, va_recv hKc hPc (ci := 6) (q0 := 0) rfl rfl, fun U hU hW => ⟨rfl, cT_of hKc hPc hDc hU hW⟩⟩ rfl rfl hl.1 rfl (lv_room (Nat.le_of_ble_eq_true rfl)) dL_law_516 ⟨(by show (cells + 8) + 0 ≤ room_1.cells; exact Nat.le_trans (by omega) rm_c), (by show (slots + 48) + 0 ≤ room_1.slots; exact Nat.le_trans (by omega) rm_s)⟩) hS (fun z _ h => hF z h) hF (fun r9 u9 t9 H2 L2 ht hvm hr9 hB hz1 hk1 hS => ?_)
  obtain ⟨hP9, -, hD9⟩ := hB
  rw [ht] at hP9
  obtain ⟨hP8, hD8⟩ := va_join (wc := (mb_w am km S th)) (wr := ((cb_w a k S) ++ [(q, .inl (kq, (1, .inr (.inl (f8)))))])) hP hD [20, 21, 22, 23, 24, 25, 26, 27, 28, 29, 30, 31, 32, 33, 34] [0, 1, 2, 3, 4, 5, 6, 7, 8, 9, 10, 11, 12, 13, 14, 15, 16, 17, 18, 19, 35] rfl rfl (by decide) (by decide) hk1 hF hP9 hD9
  have hP : va_P (dC, dI) vwCl (cb_w a k S ++ (mb_w am km S (k_inTent S (xs ((5 * j) + 1))) ++ [(q, .inl (kq, (1, .inr (.inl (f8)))))])) H2 := hP8.sub [0, 1, 2, 3, 4, 5, 6, 7, 8, 9, 10, 11, 12, 13, 14, 15, 16, 17, 18, 19, 21, 22, 23, 24, 25, 26, 27, 28, 29, 30, 31, 32, 33, 34, 35, 20] rfl
  have hD : va_D (fun z => s.heap.size ≤ z) (cb_w a k S ++ (mb_w am km S (k_inTent S (xs ((5 * j) + 1))) ++ [(q, .inl (kq, (1, .inr (.inl (f8)))))])) := hD8.sub [0, 1, 2, 3, 4, 5, 6, 7, 8, 9, 10, 11, 12, 13, 14, 15, 16, 17, 18, 19, 21, 22, 23, 24, 25, 26, 27, 28, 29, 30, 31, 32, 33, 34, 35, 20] (by decide) rfl
  refine lv_lstore (lv' := [(6, .long r9), (5, .int (nI (k_inTent S (xs ((5 * j) + 1))))), (0, .ref b), (1, .ref (a 0)), (2, .ref (am 0)), (3, .ref q), (4, .int (nI (5 * j)))]) hx hb dL_law_519 hl (by decide) rfl (fun ls hl => ?_)
  refine lv_aload_n hx hb dL_law_521 rfl (lv_at hl 4 rfl) ?_
  have hPc := hP.sub (ws' := (mb_w am km S (k_inTent S (xs ((5 * j) + 1))))) [20, 21, 22, 23, 24, 25, 26, 27, 28, 29, 30, 31, 32, 33, 34] rfl
  have hDc := hD.sub (ws' := (mb_w am km S (k_inTent S (xs ((5 * j) + 1))))) [20, 21, 22, 23, 24, 25, 26, 27, 28, 29, 30, 31, 32, 33, 34] (by decide) rfl
  have hKc := hK.sub (tys' := (mb_ty km)) [14, 15, 16, 17, 18, 19, 20, 21, 22, 23, 24, 25, 26, 27] rfl
  refine vp_callSi (W.runV (As := []) (rest := []) ⟨hx, hb, hml, hown, hts⟩ (c_X6_thrown l dC dI am km S (k_inTent S (xs ((5 * j) + 1)))) (cwV 0 hts gL_law_X6_thrown rfl rfl rfl (by decide +kernel) ⟨(Nat.le_of_ble_eq_true rfl), (Nat.le_of_ble_eq_true rfl)⟩) ⟨cR_blind, va_recv hKc hPc (ci := 6) (q0 := 0) rfl rfl, fun U hU hW => ⟨rfl, cR_of hKc hPc hU hW⟩⟩ rfl rfl hl.1 rfl (lv_room (Nat.le_of_ble_eq_true rfl)) dL_law_522 ⟨(by show ((cells + 8) + 0) + 0 ≤ room_1.cells; exact Nat.le_trans (by omega) rm_c), (by show ((slots + 48) + 0) + 0 ≤ room_1.slots; exact Nat.le_trans (by omega) rm_s)⟩) (fun r er => ?_)
  subst er
  refine lv_iload hx hb dL_law_525 (lv_at hl 1 rfl) ?_
  refine lv_icmp_eq (tgt := 532) hx hb dL_law_527 (by decide) (fun c_527 => ?_) (fun c_527 => ?_)
  · skip
    refine lv_iload hx hb dL_law_532 (lv_at hl 1 rfl) ?_
    refine lv_if_ne (tgt := 548) hx hb dL_law_534 (by decide) (fun c_534 => ?_) (fun c_534 => ?_)
    · skip
      refine lv_goto (tgt := 2067) hx hb dL_law_548 (by decide) ?_
      refine W.widen (k := cells + 231) (n := slots + 1597) (by omega) (by omega) ?_
      exact kk S (k_inTent S (xs ((5 * j) + 1))) f8 H2 _ ls hI hP hD hS (lv_sub hl [2, 3, 4, 5, 6] rfl)
    · skip
      have h0 := kz kb_inTent c_534
      refine lv_aload_n hx hb dL_law_537 rfl (lv_at hl 5 rfl) ?_
      refine lv_iconst (v := nI 0) hx hb dL_law_538 (by decide) ?_
      refine cb_lald hx hb hK hP 35 28 (f := f8) rfl rfl (j := 0) (by omega) (Nat.le_of_ble_eq_true rfl) dL_law_539 ?_
      refine lv_lload hx hb dL_law_540 (lv_at hl 0 rfl) ?_
      refine W.lcmp hx hb dL_law_542 ?_
      refine lv_if_eq (tgt := 548) hx hb dL_law_543 (by decide) (fun c_543 => ?_) (fun c_543 => ?_)
      · have c_543 : (f8 0) = r9 := lg_cmp_t c_543
        refine lv_goto (tgt := 2067) hx hb dL_law_548 (by decide) ?_
        refine W.widen (k := cells + 231) (n := slots + 1597) (by omega) (by omega) ?_
        exact kk S (k_inTent S (xs ((5 * j) + 1))) f8 H2 _ ls hI hP hD hS (lv_sub hl [2, 3, 4, 5, 6] rfl)
      · have c_543 : ¬ (f8 0) = r9 := lg_cmp_f c_543
        exact absurd (by rw [hf8 h0, hr9 h0]) c_543
  · skip
    exact absurd rfl c_527
set_option maxHeartbeats 4000000 in
set_option maxRecDepth 100000 in
theorem lc_findTents {p : Program} {l : Launch} {e : Env} {s : State} {m : MethodId} {below : List Frame} {meth : Method} {c : Code} {b L : Nat} {xs : Nat → Int32} {dC : Nat → ClassId} {dI : Nat → Nat → Nat} {a : Nat → Nat} {k : Nat → ClassId} {am : Nat → Nat} {km : Nat → ClassId} {q : Nat} {kq : ClassId} (hl9 : l.stackTraces = false) (C0 : LC p s m c b L xs dC dI k km kq) {S : cs_S} {th : Nat} {f : Nat → Int64} {H : Heap} {locs : List Loc} {j : Nat} {ls : Array Slot} {cells slots : Nat} {Q : State → Prop} (hI : Inv S) (hP : va_P (dC, dI) vwCl (cb_w a k S ++ (mb_w am km S th ++ [(q, .inl (kq, (1, .inr (.inl (f)))))])) H) (hD : va_D (fun z => s.heap.size ≤ z) (cb_w a k S ++ (mb_w am km S th ++ [(q, .inl (kq, (1, .inr (.inl (f)))))]))) (hS : va_S (fun z => s.heap.size ≤ z) s.heap H locs) (hj : 5 * j + 5 ≤ L) (hl : lv_has ls 9 [(0, .ref b), (1, .ref (a 0)), (2, .ref (am 0)), (3, .ref q), (4, .int (nI (5 * j)))]) (hc : cells + 231 ≤ 200000) (hs : slots + 1597 ≤ 2000000) (kk : KK p l e s m below meth c b dC dI a k am km q kq j cells slots Q) : W p l e room_1 s m #[Value.ref b] below meth c H locs cells slots Q (F0 m 551 ls []) := by
  obtain ⟨hx, hb, hml, hown, hts, hX, hbl, hL, hK, hE⟩ := C0
  have hbA : ¬ (fun z => s.heap.size ≤ z) b := Nat.not_le.mpr hbl
  have hA : ∀ z : Nat, s.heap.size ≤ z → (fun z => s.heap.size ≤ z) z := fun _ h => h
  refine lv_aload_n hx hb dL_law_551 rfl (lv_at hl 1 rfl) ?_
  have hPc := hP.sub (ws' := (cb_w a k S)) [0, 1, 2, 3, 4, 5, 6, 7, 8, 9, 10, 11, 12, 13, 14, 15, 16, 17, 18, 19] rfl
  have hDc := hD.sub (ws' := (cb_w a k S)) [0, 1, 2, 3, 4, 5, 6, 7, 8, 9, 10, 11, 12, 13, 14, 15, 16, 17, 18, 19] (by decide) rfl
  have hKc := hK.sub (tys' := (cb_ty k)) [0, 1, 2, 3, 4, 5, 6, 7, 8, 9, 10, 11, 12, 13] rfl
  have hF : ∀ z, va_A (cb_w a k S) H.size z → s.heap.size ≤ z := va_free hD hS hA [0, 1, 2, 3, 4, 5, 6, 7, 8, 9, 10, 11, 12, 13, 14, 15, 16, 17, 18, 19] rfl
  refine va_calli (va_runV (As := []) (rest := []) ⟨hx, hb, hml, hown, hts⟩ (c_X5_findTents l dC dI a k S H.size hI) (cwV 0 hts gL_law_X5_findTents rfl rfl rfl (by decide +kernel) ⟨(Nat.le_of_ble_eq_true rfl), (Nat.le_of_ble_eq_true rfl)⟩) ⟨cT_blind, va_recv hKc hPc (ci := 5) (q0 := 0) rfl rfl, fun U hU hW => ⟨rfl, cT_of hKc hPc hDc hU hW⟩⟩ rfl rfl hl.1 rfl (lv_room (Nat.le_of_ble_eq_true rfl)) dL_law_552 ⟨(by show cells + 0 ≤ room_1.cells; exact Nat.le_trans (by omega) rm_c), (by show slots + 0 ≤ room_1.slots; exact Nat.le_trans (by omega) rm_s)⟩) hS (fun z _ h => hF z h) hF (fun r8 u8 t8 H1 L1 ht hvm hw hB hz1 hk1 hS => ?_)
  subst hw
  obtain ⟨hP9, -, hD9⟩ := hB
  rw [ht] at hP9
  obtain ⟨hP8, hD8⟩ := va_join (wc := (cb_w a k S)) (wr := ((mb_w am km S th) ++ [(q, .inl (kq, (1, .inr (.inl (f)))))])) hP hD [0, 1, 2, 3, 4, 5, 6, 7, 8, 9, 10, 11, 12, 13, 14, 15, 16, 17, 18, 19] [20, 21, 22, 23, 24, 25, 26, 27, 28, 29, 30, 31, 32, 33, 34, 35] rfl rfl (by decide) (by decide) hk1 hF hP9 hD9
  have hP : va_P (dC, dI) vwCl (cb_w a k (S_findTents S) ++ (mb_w am km S th ++ [(q, .inl (kq, (1, .inr (.inl (f)))))])) H1 := hP8.sub [16, 17, 18, 19, 20, 21, 22, 23, 24, 25, 26, 27, 28, 29, 30, 31, 32, 33, 34, 35, 0, 1, 2, 3, 4, 5, 6, 7, 8, 9, 10, 11, 12, 13, 14, 15] rfl
  have hD : va_D (fun z => s.heap.size ≤ z) (cb_w a k (S_findTents S) ++ (mb_w am km S th ++ [(q, .inl (kq, (1, .inr (.inl (f)))))])) := hD8.sub [16, 17, 18, 19, 20, 21, 22, 23, 24, 25, 26, 27, 28, 29, 30, 31, 32, 33, 34, 35, 0, 1, 2, 3, 4, 5, 6, 7, 8, 9, 10, 11, 12, 13, 14, 15] (by decide) rfl
  refine lv_aload_n hx hb dL_law_555 rfl (lv_at hl 2 rfl) ?_
  have hPc := hP.sub (ws' := (mb_w am km S th)) [20, 21, 22, 23, 24, 25, 26, 27, 28, 29, 30, 31, 32, 33, 34] rfl
  have hDc := hD.sub (ws' := (mb_w am km S th)) [20, 21, 22, 23, 24, 25, 26, 27, 28, 29, 30, 31, 32, 33, 34] (by decide) rfl
  have hKc := hK.sub (tys' := (mb_ty km)) [14, 15, 16, 17, 18, 19, 20, 21, 22, 23, 24, 25, 26, 27] rfl
  have hF : ∀ z, va_A (mb_w am km S th) H1.size z → s.heap.size ≤ z := va_free hD hS hA [20, 21, 22, 23, 24, 25, 26, 27, 28, 29, 30, 31, 32, 33, 34] rfl
  refine va_calli (va_runV (As := []) (rest := [.int (nI (c_out (S_findTents S)))]) ⟨hx, hb, hml, hown, hts⟩ (c_X6_findTents l dC dI am km S th H1.size hI) (cwV 0 hts gL_law_X6_findTents rfl rfl rfl (by decide +kernel) ⟨(Nat.le_of_ble_eq_true rfl), (Nat.le_of_ble_eq_true rfl)⟩) ⟨cT_blind, va_recv hKc hPc (ci := 6) (q0 := 0) rfl rfl, fun U hU hW => ⟨rfl, cT_of hKc hPc hDc hU hW⟩⟩ rfl rfl hl.1 rfl (lv_room (Nat.le_of_ble_eq_true rfl)) dL_law_556 ⟨(by show cells + 0 ≤ room_1.cells; exact Nat.le_trans (by omega) rm_c), (by show slots + 0 ≤ room_1.slots; exact Nat.le_trans (by omega) rm_s)⟩) hS (fun z _ h => hF z h) hF (fun r9 u9 t9 H2 L2 ht hvm hr9 hB hz1 hk1 hS => ?_)
  obtain ⟨hP9, -, hD9⟩ := hB
  rw [ht] at hP9
  obtain ⟨hP8, hD8⟩ := va_join (wc := (mb_w am km S th)) (wr := ((cb_w a k (S_findTents S)) ++ [(q, .inl (kq, (1, .inr (.inl (f)))))])) hP hD [20, 21, 22, 23, 24, 25, 26, 27, 28, 29, 30, 31, 32, 33, 34] [0, 1, 2, 3, 4, 5, 6, 7, 8, 9, 10, 11, 12, 13, 14, 15, 16, 17, 18, 19, 35] rfl rfl (by decide) (by decide) hk1 hF hP9 hD9
  have hP : va_P (dC, dI) vwCl (cb_w a k (S_findTents S) ++ (mb_w am km (S_findTents S) 0 ++ [(q, .inl (kq, (1, .inr (.inl (f)))))])) H2 := hP8.sub [0, 1, 2, 3, 4, 5, 6, 7, 8, 9, 10, 11, 12, 13, 14, 15, 16, 17, 18, 19, 21, 22, 23, 24, 25, 26, 27, 28, 29, 30, 31, 32, 33, 34, 35, 20] rfl
  have hD : va_D (fun z => s.heap.size ≤ z) (cb_w a k (S_findTents S) ++ (mb_w am km (S_findTents S) 0 ++ [(q, .inl (kq, (1, .inr (.inl (f)))))])) := hD8.sub [0, 1, 2, 3, 4, 5, 6, 7, 8, 9, 10, 11, 12, 13, 14, 15, 16, 17, 18, 19, 21, 22, 23, 24, 25, 26, 27, 28, 29, 30, 31, 32, 33, 34, 35, 20] (by decide) rfl
  subst hr9
  refine lv_icmp_eq (tgt := 2067) hx hb dL_law_559 (by decide) (fun c_559 => ?_) (fun c_559 => ?_)
  · skip
    refine W.widen (k := cells + 231) (n := slots + 1597) (by omega) (by omega) ?_
    exact kk (S_findTents S) 0 f H2 _ ls (inv_findTents hI) hP hD hS (lv_sub hl [0, 1, 2, 3, 4] rfl)
  · skip
    exact absurd rfl c_559
theorem kb_count {x0 : Int32} : k_count x0 < 4 := by unfold k_count; (repeat' split) <;> decide
set_option maxHeartbeats 4000000 in
set_option maxRecDepth 100000 in
theorem lc_count {p : Program} {l : Launch} {e : Env} {s : State} {m : MethodId} {below : List Frame} {meth : Method} {c : Code} {b L : Nat} {xs : Nat → Int32} {dC : Nat → ClassId} {dI : Nat → Nat → Nat} {a : Nat → Nat} {k : Nat → ClassId} {am : Nat → Nat} {km : Nat → ClassId} {q : Nat} {kq : ClassId} (hl9 : l.stackTraces = false) (C0 : LC p s m c b L xs dC dI k km kq) {S : cs_S} {th : Nat} {f : Nat → Int64} {H : Heap} {locs : List Loc} {j : Nat} {ls : Array Slot} {cells slots : Nat} {Q : State → Prop} (hI : Inv S) (hP : va_P (dC, dI) vwCl (cb_w a k S ++ (mb_w am km S th ++ [(q, .inl (kq, (1, .inr (.inl (f)))))])) H) (hD : va_D (fun z => s.heap.size ≤ z) (cb_w a k S ++ (mb_w am km S th ++ [(q, .inl (kq, (1, .inr (.inl (f)))))]))) (hS : va_S (fun z => s.heap.size ≤ z) s.heap H locs) (hj : 5 * j + 5 ≤ L) (hl : lv_has ls 9 [(0, .ref b), (1, .ref (a 0)), (2, .ref (am 0)), (3, .ref q), (4, .int (nI (5 * j)))]) (hc : cells + 231 ≤ 200000) (hs : slots + 1597 ≤ 2000000) (kk : KK p l e s m below meth c b dC dI a k am km q kq j cells slots Q) : W p l e room_1 s m #[Value.ref b] below meth c H locs cells slots Q (F0 m 564 ls []) := by
  obtain ⟨hx, hb, hml, hown, hts, hX, hbl, hL, hK, hE⟩ := C0
  have hbA : ¬ (fun z => s.heap.size ≤ z) b := Nat.not_le.mpr hbl
  have hA : ∀ z : Nat, s.heap.size ≤ z → (fun z => s.heap.size ≤ z) z := fun _ h => h
  refine lv_aload_n hx hb dL_law_564 rfl (lv_at hl 1 rfl) ?_
  refine lv_aload_n hx hb dL_law_565 rfl (lv_at hl 0 rfl) ?_
  refine lv_iload hx hb dL_law_566 (lv_at hl 4 rfl) ?_
  refine lv_iconst (v := nI 1) hx hb dL_law_568 (by decide) ?_
  refine lv_iadd hx hb dL_law_569 ?_
  refine cb_topi (nI_add _ _) ?_
  refine va_sld hx hb hX hbl hbA hS (i := nI ((5 * j) + 1)) (vp_in_nI (show (5 * j) + 1 < L by omega) (by omega)) dL_law_570 ?_
  refine cb_topi (z := xs ((5 * j) + 1)) (congrArg xs (tn (by omega))) ?_
  refine lv_aload_n hx hb dL_law_571 rfl (lv_at hl 3 rfl) ?_
  have hPc := hP.sub (ws' := (cb_w a k S ++ [(q, .inl (kq, (1, .inr (.inl (f)))))])) [0, 1, 2, 3, 4, 5, 6, 7, 8, 9, 10, 11, 12, 13, 14, 15, 16, 17, 18, 19, 35] rfl
  have hDc := hD.sub (ws' := (cb_w a k S ++ [(q, .inl (kq, (1, .inr (.inl (f)))))])) [0, 1, 2, 3, 4, 5, 6, 7, 8, 9, 10, 11, 12, 13, 14, 15, 16, 17, 18, 19, 35] (by decide) rfl
  have hKc := hK.sub (tys' := (cb_ty k ++ [(kq, .long)])) [0, 1, 2, 3, 4, 5, 6, 7, 8, 9, 10, 11, 12, 13, 28] rfl
  have hF : ∀ z, va_A (cb_w a k S ++ [(q, .inl (kq, (1, .inr (.inl (f)))))]) H.size z → s.heap.size ≤ z := va_free hD hS hA [0, 1, 2, 3, 4, 5, 6, 7, 8, 9, 10, 11, 12, 13, 14, 15, 16, 17, 18, 19, 35] rfl
  refine va_calli (vx_runSW (As := [.ref (a 0), .int (xs ((5 * j) + 1)), .ref q]) (rest := []) ⟨hx, hb, hml, hown, hts⟩ (c_L_count l hl9 dC dI a k S q kq f H.size (xs ((5 * j) + 1)) hI) (vx_cwSW 3 hts gL_law_L_count rfl rfl rfl (by decide +kernel) ⟨(Nat.le_of_ble_eq_true rfl), (Nat.le_of_ble_eq_true rfl)⟩) ⟨cV_blind, fun U hU hW => ⟨rfl, cV_of hKc hPc hDc hE hS hU hW hF⟩⟩ rfl rfl hl.1 rfl (lv_room (Nat.le_of_ble_eq_true rfl)) dL_law_572 ⟨(by show cells + 8 ≤ room_1.cells; exact Nat.le_trans (by omega) rm_c), (by show slots + 48 ≤ room_1.slots; exact Nat.le_trans (by omega) rm_s)⟩) hS (fun z _ h => hF z h) hF (fun r8 f8 t8 H1 L1 ht hvm hw hB hz1 hk1 hS => ?_)
  obtain ⟨hr8, hf8⟩ := hw
  subst hr8
  obtain ⟨hP9, -, hD9⟩ := hB
  rw [ht] at hP9
  obtain ⟨hP8, hD8⟩ := va_join (wc := (cb_w a k S ++ [(q, .inl (kq, (1, .inr (.inl (f)))))])) (wr := (mb_w am km S th)) hP hD [0, 1, 2, 3, 4, 5, 6, 7, 8, 9, 10, 11, 12, 13, 14, 15, 16, 17, 18, 19, 35] [20, 21, 22, 23, 24, 25, 26, 27, 28, 29, 30, 31, 32, 33, 34] rfl rfl (by decide) (by decide) hk1 hF hP9 hD9
  have hP : va_P (dC, dI) vwCl (cb_w a k S ++ (mb_w am km S th ++ [(q, .inl (kq, (1, .inr (.inl (f8)))))])) H1 := hP8.sub [15, 16, 17, 18, 19, 20, 21, 22, 23, 24, 25, 26, 27, 28, 29, 30, 31, 32, 33, 34, 0, 1, 2, 3, 4, 5, 6, 7, 8, 9, 10, 11, 12, 13, 14, 35] rfl
  have hD : va_D (fun z => s.heap.size ≤ z) (cb_w a k S ++ (mb_w am km S th ++ [(q, .inl (kq, (1, .inr (.inl (f8)))))])) := hD8.sub [15, 16, 17, 18, 19, 20, 21, 22, 23, 24, 25, 26, 27, 28, 29, 30, 31, 32, 33, 34, 0, 1, 2, 3, 4, 5, 6, 7, 8, 9, 10, 11, 12, 13, 14, 35] (by decide) rfl
  refine lv_istore (lv' := [(5, .int (nI (k_count (xs ((5 * j) + 1))))), (0, .ref b), (1, .ref (a 0)), (2, .ref (am 0)), (3, .ref q), (4, .int (nI (5 * j)))]) hx hb dL_law_575 hl (by decide) rfl (fun ls hl => ?_)
  refine lv_aload_n hx hb dL_law_577 rfl (lv_at hl 3 rfl) ?_
  refine lv_aload_n hx hb dL_law_578 rfl (lv_at hl 1 rfl) ?_
  refine lv_iload hx hb dL_law_579 (lv_at hl 5 rfl) ?_
  refine lv_iconst (v := nI 1) hx hb dL_law_581 (by decide) ?_
  refine lv_iadd hx hb dL_law_582 ?_
  refine cb_topi (nI_add _ _) ?_
  refine va_sld hx hb hX hbl hbA hS (i := nI ((5 * j) + 1)) (vp_in_nI (show (5 * j) + 1 < L by omega) (by omega)) dL_law_583 ?_
  refine cb_topi (z := xs ((5 * j) + 1)) (congrArg xs (tn (by omega))) ?_
  have hPc := hP.sub (ws' := (mb_w am km S th)) [20, 21, 22, 23, 24, 25, 26, 27, 28, 29, 30, 31, 32, 33, 34] rfl
  have hDc := hD.sub (ws' := (mb_w am km S th)) [20, 21, 22, 23, 24, 25, 26, 27, 28, 29, 30, 31, 32, 33, 34] (by decide) rfl
  have hKc := hK.sub (tys' := (mb_ty km)) [14, 15, 16, 17, 18, 19, 20, 21, 22, 23, 24, 25, 26, 27] rfl
  have hF : ∀ z, va_A (mb_w am km S th) H1.size z → s.heap.size ≤ z := va_free hD hS hA [20, 21, 22, 23, 24, 25, 26, 27, 28, 29, 30, 31, 32, 33, 34] rfl
  refine va_calli (va_runV (As := [.int (xs ((5 * j) + 1))]) (rest := []) ⟨hx, hb, hml, hown, hts⟩ (c_X6_count l dC dI am km S th H1.size (xs ((5 * j) + 1)) hI) (cwV 1 hts gL_law_X6_count rfl rfl rfl (by decide +kernel) ⟨(Nat.le_of_ble_eq_true rfl), (Nat.le_of_ble_eq_true rfl)⟩) ⟨cT_blind, va_recv hKc hPc (ci := 6) (q0 := 0) rfl rfl, fun U hU hW => ⟨rfl, cT_of hKc hPc hDc hU hW⟩⟩ rfl rfl hl.1 rfl (lv_room (Nat.le_of_ble_eq_true rfl)) dL_law_584 ⟨(by show (cells + 8) + 1 ≤ room_1.cells; exact Nat.le_trans (by omega) rm_c), (by show (slots + 48) + 7 ≤ room_1.slots; exact Nat.le_trans (by omega) rm_s)⟩) hS (fun z _ h => hF z h) hF (fun r9 u9 t9 H2 L2 ht hvm hr9 hB hz1 hk1 hS => ?_)
  obtain ⟨hP9, -, hD9⟩ := hB
  rw [ht] at hP9
  obtain ⟨hP8, hD8⟩ := va_join (wc := (mb_w am km S th)) (wr := ((cb_w a k S) ++ [(q, .inl (kq, (1, .inr (.inl (f8)))))])) hP hD [20, 21, 22, 23, 24, 25, 26, 27, 28, 29, 30, 31, 32, 33, 34] [0, 1, 2, 3, 4, 5, 6, 7, 8, 9, 10, 11, 12, 13, 14, 15, 16, 17, 18, 19, 35] rfl rfl (by decide) (by decide) hk1 hF hP9 hD9
  have hP : va_P (dC, dI) vwCl (cb_w a k S ++ (mb_w am km S (k_count (xs ((5 * j) + 1))) ++ [(q, .inl (kq, (1, .inr (.inl (f8)))))])) H2 := hP8.sub [0, 1, 2, 3, 4, 5, 6, 7, 8, 9, 10, 11, 12, 13, 14, 15, 16, 17, 18, 19, 21, 22, 23, 24, 25, 26, 27, 28, 29, 30, 31, 32, 33, 34, 35, 20] rfl
  have hD : va_D (fun z => s.heap.size ≤ z) (cb_w a k S ++ (mb_w am km S (k_count (xs ((5 * j) + 1))) ++ [(q, .inl (kq, (1, .inr (.inl (f8)))))])) := hD8.sub [0, 1, 2, 3, 4, 5, 6, 7, 8, 9, 10, 11, 12, 13, 14, 15, 16, 17, 18, 19, 21, 22, 23, 24, 25, 26, 27, 28, 29, 30, 31, 32, 33, 34, 35, 20] (by decide) rfl
  refine lv_istore (lv' := [(6, .int r9), (5, .int (nI (k_count (xs ((5 * j) + 1))))), (0, .ref b), (1, .ref (a 0)), (2, .ref (am 0)), (3, .ref q), (4, .int (nI (5 * j)))]) hx hb dL_law_587 hl (by decide) rfl (fun ls hl => ?_)
  refine lv_aload_n hx hb dL_law_589 rfl (lv_at hl 4 rfl) ?_
  have hPc := hP.sub (ws' := (mb_w am km S (k_count (xs ((5 * j) + 1))))) [20, 21, 22, 23, 24, 25, 26, 27, 28, 29, 30, 31, 32, 33, 34] rfl
  have hDc := hD.sub (ws' := (mb_w am km S (k_count (xs ((5 * j) + 1))))) [20, 21, 22, 23, 24, 25, 26, 27, 28, 29, 30, 31, 32, 33, 34] (by decide) rfl
  have hKc := hK.sub (tys' := (mb_ty km)) [14, 15, 16, 17, 18, 19, 20, 21, 22, 23, 24, 25, 26, 27] rfl
  refine vp_callSi (W.runV (As := []) (rest := []) ⟨hx, hb, hml, hown, hts⟩ (c_X6_thrown l dC dI am km S (k_count (xs ((5 * j) + 1)))) (cwV 0 hts gL_law_X6_thrown rfl rfl rfl (by decide +kernel) ⟨(Nat.le_of_ble_eq_true rfl), (Nat.le_of_ble_eq_true rfl)⟩) ⟨cR_blind, va_recv hKc hPc (ci := 6) (q0 := 0) rfl rfl, fun U hU hW => ⟨rfl, cR_of hKc hPc hU hW⟩⟩ rfl rfl hl.1 rfl (lv_room (Nat.le_of_ble_eq_true rfl)) dL_law_590 ⟨(by show ((cells + 8) + 1) + 0 ≤ room_1.cells; exact Nat.le_trans (by omega) rm_c), (by show ((slots + 48) + 7) + 0 ≤ room_1.slots; exact Nat.le_trans (by omega) rm_s)⟩) (fun r er => ?_)
  subst er
  refine lv_iload hx hb dL_law_593 (lv_at hl 1 rfl) ?_
  refine lv_icmp_eq (tgt := 600) hx hb dL_law_595 (by decide) (fun c_595 => ?_) (fun c_595 => ?_)
  · skip
    refine lv_iload hx hb dL_law_600 (lv_at hl 1 rfl) ?_
    refine lv_if_ne (tgt := 617) hx hb dL_law_602 (by decide) (fun c_602 => ?_) (fun c_602 => ?_)
    · skip
      refine lv_goto (tgt := 2067) hx hb dL_law_617 (by decide) ?_
      refine W.widen (k := cells + 231) (n := slots + 1597) (by omega) (by omega) ?_
      exact kk S (k_count (xs ((5 * j) + 1))) f8 H2 _ ls hI hP hD hS (lv_sub hl [2, 3, 4, 5, 6] rfl)
    · skip
      have h0 := kz kb_count c_602
      refine lv_aload_n hx hb dL_law_605 rfl (lv_at hl 5 rfl) ?_
      refine lv_iconst (v := nI 0) hx hb dL_law_606 (by decide) ?_
      refine cb_lald hx hb hK hP 35 28 (f := f8) rfl rfl (j := 0) (by omega) (Nat.le_of_ble_eq_true rfl) dL_law_607 ?_
      refine lv_iload hx hb dL_law_608 (lv_at hl 0 rfl) ?_
      refine lv_i2l hx hb dL_law_610 rfl ?_
      refine W.lcmp hx hb dL_law_611 ?_
      refine lv_if_eq (tgt := 617) hx hb dL_law_612 (by decide) (fun c_612 => ?_) (fun c_612 => ?_)
      · have c_612 : (f8 0) = r9.toInt64 := lg_cmp_t c_612
        refine lv_goto (tgt := 2067) hx hb dL_law_617 (by decide) ?_
        refine W.widen (k := cells + 231) (n := slots + 1597) (by omega) (by omega) ?_
        exact kk S (k_count (xs ((5 * j) + 1))) f8 H2 _ ls hI hP hD hS (lv_sub hl [2, 3, 4, 5, 6] rfl)
      · have c_612 : ¬ (f8 0) = r9.toInt64 := lg_cmp_f c_612
        exact absurd (by rw [hf8 h0, hr9 h0]) c_612
  · skip
    exact absurd rfl c_595
end CBY0
