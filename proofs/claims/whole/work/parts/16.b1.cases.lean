section CBY1
theorem kb_giveDuty {S : cs_S} {x0 : Int32} {x1 : Int32} {x2 : Int32} : k_giveDuty S x0 x1 x2 < 4 := by unfold k_giveDuty; (repeat' split) <;> decide
set_option maxHeartbeats 4000000 in
set_option maxRecDepth 100000 in
theorem lc_giveDuty {p : Program} {l : Launch} {e : Env} {s : State} {m : MethodId} {below : List Frame} {meth : Method} {c : Code} {b L : Nat} {xs : Nat → Int32} {dC : Nat → ClassId} {dI : Nat → Nat → Nat} {a : Nat → Nat} {k : Nat → ClassId} {am : Nat → Nat} {km : Nat → ClassId} {q : Nat} {kq : ClassId} (hl9 : l.stackTraces = false) (C0 : LC p s m c b L xs dC dI k km kq) {S : cs_S} {th : Nat} {f : Nat → Int64} {H : Heap} {locs : List Loc} {j : Nat} {ls : Array Slot} {cells slots : Nat} {Q : State → Prop} (hI : Inv S) (hP : va_P (dC, dI) vwCl (cb_w a k S ++ (mb_w am km S th ++ [(q, .inl (kq, (1, .inr (.inl (f)))))])) H) (hD : va_D (fun z => s.heap.size ≤ z) (cb_w a k S ++ (mb_w am km S th ++ [(q, .inl (kq, (1, .inr (.inl (f)))))]))) (hS : va_S (fun z => s.heap.size ≤ z) s.heap H locs) (hj : 5 * j + 5 ≤ L) (hl : lv_has ls 9 [(0, .ref b), (1, .ref (a 0)), (2, .ref (am 0)), (3, .ref q), (4, .int (nI (5 * j)))]) (hc : cells + 231 ≤ 200000) (hs : slots + 1597 ≤ 2000000) (kk : KK p l e s m below meth c b dC dI a k am km q kq j cells slots Q) : W p l e room_1 s m #[Value.ref b] below meth c H locs cells slots Q (F0 m 620 ls []) := by
  obtain ⟨hx, hb, hml, hown, hts, hX, hbl, hL, hK, hE⟩ := C0
  have hbA : ¬ (fun z => s.heap.size ≤ z) b := Nat.not_le.mpr hbl
  have hA : ∀ z : Nat, s.heap.size ≤ z → (fun z => s.heap.size ≤ z) z := fun _ h => h
  refine lv_aload_n hx hb dL_law_620 rfl (lv_at hl 1 rfl) ?_
  refine lv_aload_n hx hb dL_law_621 rfl (lv_at hl 0 rfl) ?_
  refine lv_iload hx hb dL_law_622 (lv_at hl 4 rfl) ?_
  refine lv_iconst (v := nI 1) hx hb dL_law_624 (by decide) ?_
  refine lv_iadd hx hb dL_law_625 ?_
  refine cb_topi (nI_add _ _) ?_
  refine va_sld hx hb hX hbl hbA hS (i := nI ((5 * j) + 1)) (vp_in_nI (show (5 * j) + 1 < L by omega) (by omega)) dL_law_626 ?_
  refine cb_topi (z := xs ((5 * j) + 1)) (congrArg xs (tn (by omega))) ?_
  refine lv_aload_n hx hb dL_law_627 rfl (lv_at hl 0 rfl) ?_
  refine lv_iload hx hb dL_law_628 (lv_at hl 4 rfl) ?_
  refine lv_iconst (v := nI 2) hx hb dL_law_630 (by decide) ?_
  refine lv_iadd hx hb dL_law_631 ?_
  refine cb_topi (nI_add _ _) ?_
  refine va_sld hx hb hX hbl hbA hS (i := nI ((5 * j) + 2)) (vp_in_nI (show (5 * j) + 2 < L by omega) (by omega)) dL_law_632 ?_
  refine cb_topi (z := xs ((5 * j) + 2)) (congrArg xs (tn (by omega))) ?_
  refine lv_aload_n hx hb dL_law_633 rfl (lv_at hl 0 rfl) ?_
  refine lv_iload hx hb dL_law_634 (lv_at hl 4 rfl) ?_
  refine lv_iconst (v := nI 3) hx hb dL_law_636 (by decide) ?_
  refine lv_iadd hx hb dL_law_637 ?_
  refine cb_topi (nI_add _ _) ?_
  refine va_sld hx hb hX hbl hbA hS (i := nI ((5 * j) + 3)) (vp_in_nI (show (5 * j) + 3 < L by omega) (by omega)) dL_law_638 ?_
  refine cb_topi (z := xs ((5 * j) + 3)) (congrArg xs (tn (by omega))) ?_
  refine lv_aload_n hx hb dL_law_639 rfl (lv_at hl 3 rfl) ?_
  have hPc := hP.sub (ws' := (cb_w a k S ++ [(q, .inl (kq, (1, .inr (.inl (f)))))])) [0, 1, 2, 3, 4, 5, 6, 7, 8, 9, 10, 11, 12, 13, 14, 15, 16, 17, 18, 19, 35] rfl
  have hDc := hD.sub (ws' := (cb_w a k S ++ [(q, .inl (kq, (1, .inr (.inl (f)))))])) [0, 1, 2, 3, 4, 5, 6, 7, 8, 9, 10, 11, 12, 13, 14, 15, 16, 17, 18, 19, 35] (by decide) rfl
  have hKc := hK.sub (tys' := (cb_ty k ++ [(kq, .long)])) [0, 1, 2, 3, 4, 5, 6, 7, 8, 9, 10, 11, 12, 13, 28] rfl
  have hF : ∀ z, va_A (cb_w a k S ++ [(q, .inl (kq, (1, .inr (.inl (f)))))]) H.size z → s.heap.size ≤ z := va_free hD hS hA [0, 1, 2, 3, 4, 5, 6, 7, 8, 9, 10, 11, 12, 13, 14, 15, 16, 17, 18, 19, 35] rfl
  refine va_calli (vx_runSW (As := [.ref (a 0), .int (xs ((5 * j) + 1)), .int (xs ((5 * j) + 2)), .int (xs ((5 * j) + 3)), .ref q]) (rest := []) ⟨hx, hb, hml, hown, hts⟩ (c_L_giveDuty l hl9 dC dI a k S q kq f H.size (xs ((5 * j) + 1)) (xs ((5 * j) + 2)) (xs ((5 * j) + 3)) hI) (vx_cwSW 5 hts gL_law_L_giveDuty rfl rfl rfl (by decide +kernel) ⟨(Nat.le_of_ble_eq_true rfl), (Nat.le_of_ble_eq_true rfl)⟩) ⟨cV_blind, fun U hU hW => ⟨rfl, cV_of hKc hPc hDc hE hS hU hW hF⟩⟩ rfl rfl hl.1 rfl (lv_room (Nat.le_of_ble_eq_true rfl)) dL_law_640 ⟨(by show cells + 8 ≤ room_1.cells; exact Nat.le_trans (by omega) rm_c), (by show slots + 48 ≤ room_1.slots; exact Nat.le_trans (by omega) rm_s)⟩) hS (fun z _ h => hF z h) hF (fun r8 f8 t8 H1 L1 ht hvm hw hB hz1 hk1 hS => ?_)
  obtain ⟨hr8, hf8⟩ := hw
  subst hr8
  obtain ⟨hP9, -, hD9⟩ := hB
  rw [ht] at hP9
  obtain ⟨hP8, hD8⟩ := va_join (wc := (cb_w a k S ++ [(q, .inl (kq, (1, .inr (.inl (f)))))])) (wr := (mb_w am km S th)) hP hD [0, 1, 2, 3, 4, 5, 6, 7, 8, 9, 10, 11, 12, 13, 14, 15, 16, 17, 18, 19, 35] [20, 21, 22, 23, 24, 25, 26, 27, 28, 29, 30, 31, 32, 33, 34] rfl rfl (by decide) (by decide) hk1 hF hP9 hD9
  have hP : va_P (dC, dI) vwCl (cb_w a k (kS (k_giveDuty S (xs ((5 * j) + 1)) (xs ((5 * j) + 2)) (xs ((5 * j) + 3))) (S_giveDuty S (xs ((5 * j) + 1)) (xs ((5 * j) + 2)) (xs ((5 * j) + 3))) S) ++ (mb_w am km S th ++ [(q, .inl (kq, (1, .inr (.inl (f8)))))])) H1 := hP8.sub [15, 16, 17, 18, 19, 20, 21, 22, 23, 24, 25, 26, 27, 28, 29, 30, 31, 32, 33, 34, 0, 1, 2, 3, 4, 5, 6, 7, 8, 9, 10, 11, 12, 13, 14, 35] rfl
  have hD : va_D (fun z => s.heap.size ≤ z) (cb_w a k (kS (k_giveDuty S (xs ((5 * j) + 1)) (xs ((5 * j) + 2)) (xs ((5 * j) + 3))) (S_giveDuty S (xs ((5 * j) + 1)) (xs ((5 * j) + 2)) (xs ((5 * j) + 3))) S) ++ (mb_w am km S th ++ [(q, .inl (kq, (1, .inr (.inl (f8)))))])) := hD8.sub [15, 16, 17, 18, 19, 20, 21, 22, 23, 24, 25, 26, 27, 28, 29, 30, 31, 32, 33, 34, 0, 1, 2, 3, 4, 5, 6, 7, 8, 9, 10, 11, 12, 13, 14, 35] (by decide) rfl
  refine lv_istore (lv' := [(5, .int (nI (k_giveDuty S (xs ((5 * j) + 1)) (xs ((5 * j) + 2)) (xs ((5 * j) + 3))))), (0, .ref b), (1, .ref (a 0)), (2, .ref (am 0)), (3, .ref q), (4, .int (nI (5 * j)))]) hx hb dL_law_643 hl (by decide) rfl (fun ls hl => ?_)
  refine lv_aload_n hx hb dL_law_645 rfl (lv_at hl 3 rfl) ?_
  refine lv_aload_n hx hb dL_law_646 rfl (lv_at hl 1 rfl) ?_
  refine lv_iload hx hb dL_law_647 (lv_at hl 5 rfl) ?_
  refine lv_iconst (v := nI 1) hx hb dL_law_649 (by decide) ?_
  refine lv_iadd hx hb dL_law_650 ?_
  refine cb_topi (nI_add _ _) ?_
  refine va_sld hx hb hX hbl hbA hS (i := nI ((5 * j) + 1)) (vp_in_nI (show (5 * j) + 1 < L by omega) (by omega)) dL_law_651 ?_
  refine cb_topi (z := xs ((5 * j) + 1)) (congrArg xs (tn (by omega))) ?_
  refine lv_aload_n hx hb dL_law_652 rfl (lv_at hl 1 rfl) ?_
  refine lv_iload hx hb dL_law_653 (lv_at hl 5 rfl) ?_
  refine lv_iconst (v := nI 2) hx hb dL_law_655 (by decide) ?_
  refine lv_iadd hx hb dL_law_656 ?_
  refine cb_topi (nI_add _ _) ?_
  refine va_sld hx hb hX hbl hbA hS (i := nI ((5 * j) + 2)) (vp_in_nI (show (5 * j) + 2 < L by omega) (by omega)) dL_law_657 ?_
  refine cb_topi (z := xs ((5 * j) + 2)) (congrArg xs (tn (by omega))) ?_
  refine lv_aload_n hx hb dL_law_658 rfl (lv_at hl 1 rfl) ?_
  refine lv_iload hx hb dL_law_659 (lv_at hl 5 rfl) ?_
  refine lv_iconst (v := nI 3) hx hb dL_law_661 (by decide) ?_
  refine lv_iadd hx hb dL_law_662 ?_
  refine cb_topi (nI_add _ _) ?_
  refine va_sld hx hb hX hbl hbA hS (i := nI ((5 * j) + 3)) (vp_in_nI (show (5 * j) + 3 < L by omega) (by omega)) dL_law_663 ?_
  refine cb_topi (z := xs ((5 * j) + 3)) (congrArg xs (tn (by omega))) ?_
  have hPc := hP.sub (ws' := (mb_w am km S th)) [20, 21, 22, 23, 24, 25, 26, 27, 28, 29, 30, 31, 32, 33, 34] rfl
  have hDc := hD.sub (ws' := (mb_w am km S th)) [20, 21, 22, 23, 24, 25, 26, 27, 28, 29, 30, 31, 32, 33, 34] (by decide) rfl
  have hKc := hK.sub (tys' := (mb_ty km)) [14, 15, 16, 17, 18, 19, 20, 21, 22, 23, 24, 25, 26, 27] rfl
  have hF : ∀ z, va_A (mb_w am km S th) H1.size z → s.heap.size ≤ z := va_free hD hS hA [20, 21, 22, 23, 24, 25, 26, 27, 28, 29, 30, 31, 32, 33, 34] rfl
  refine va_calli (va_runV (As := [.int (xs ((5 * j) + 1)), .int (xs ((5 * j) + 2)), .int (xs ((5 * j) + 3))]) (rest := []) ⟨hx, hb, hml, hown, hts⟩ (c_X6_giveDuty l dC dI am km S th H1.size (xs ((5 * j) + 1)) (xs ((5 * j) + 2)) (xs ((5 * j) + 3)) hI) (cwV 3 hts gL_law_X6_giveDuty rfl rfl rfl (by decide +kernel) ⟨(Nat.le_of_ble_eq_true rfl), (Nat.le_of_ble_eq_true rfl)⟩) ⟨cT_blind, va_recv hKc hPc (ci := 6) (q0 := 0) rfl rfl, fun U hU hW => ⟨rfl, cT_of hKc hPc hDc hU hW⟩⟩ rfl rfl hl.1 rfl (lv_room (Nat.le_of_ble_eq_true rfl)) dL_law_664 ⟨(by show (cells + 8) + 0 ≤ room_1.cells; exact Nat.le_trans (by omega) rm_c), (by show (slots + 48) + 0 ≤ room_1.slots; exact Nat.le_trans (by omega) rm_s)⟩) hS (fun z _ h => hF z h) hF (fun r9 u9 t9 H2 L2 ht hvm hr9 hB hz1 hk1 hS => ?_)
  obtain ⟨hP9, -, hD9⟩ := hB
  rw [ht] at hP9
  obtain ⟨hP8, hD8⟩ := va_join (wc := (mb_w am km S th)) (wr := ((cb_w a k (kS (k_giveDuty S (xs ((5 * j) + 1)) (xs ((5 * j) + 2)) (xs ((5 * j) + 3))) (S_giveDuty S (xs ((5 * j) + 1)) (xs ((5 * j) + 2)) (xs ((5 * j) + 3))) S)) ++ [(q, .inl (kq, (1, .inr (.inl (f8)))))])) hP hD [20, 21, 22, 23, 24, 25, 26, 27, 28, 29, 30, 31, 32, 33, 34] [0, 1, 2, 3, 4, 5, 6, 7, 8, 9, 10, 11, 12, 13, 14, 15, 16, 17, 18, 19, 35] rfl rfl (by decide) (by decide) hk1 hF hP9 hD9
  have hP : va_P (dC, dI) vwCl (cb_w a k (kS (k_giveDuty S (xs ((5 * j) + 1)) (xs ((5 * j) + 2)) (xs ((5 * j) + 3))) (S_giveDuty S (xs ((5 * j) + 1)) (xs ((5 * j) + 2)) (xs ((5 * j) + 3))) S) ++ (mb_w am km (kS (k_giveDuty S (xs ((5 * j) + 1)) (xs ((5 * j) + 2)) (xs ((5 * j) + 3))) (S_giveDuty S (xs ((5 * j) + 1)) (xs ((5 * j) + 2)) (xs ((5 * j) + 3))) S) (k_giveDuty S (xs ((5 * j) + 1)) (xs ((5 * j) + 2)) (xs ((5 * j) + 3))) ++ [(q, .inl (kq, (1, .inr (.inl (f8)))))])) H2 := hP8.sub [0, 1, 2, 3, 4, 5, 6, 7, 8, 9, 10, 11, 12, 13, 14, 15, 16, 17, 18, 19, 21, 22, 23, 24, 25, 26, 27, 28, 29, 30, 31, 32, 33, 34, 35, 20] rfl
  have hD : va_D (fun z => s.heap.size ≤ z) (cb_w a k (kS (k_giveDuty S (xs ((5 * j) + 1)) (xs ((5 * j) + 2)) (xs ((5 * j) + 3))) (S_giveDuty S (xs ((5 * j) + 1)) (xs ((5 * j) + 2)) (xs ((5 * j) + 3))) S) ++ (mb_w am km (kS (k_giveDuty S (xs ((5 * j) + 1)) (xs ((5 * j) + 2)) (xs ((5 * j) + 3))) (S_giveDuty S (xs ((5 * j) + 1)) (xs ((5 * j) + 2)) (xs ((5 * j) + 3))) S) (k_giveDuty S (xs ((5 * j) + 1)) (xs ((5 * j) + 2)) (xs ((5 * j) + 3))) ++ [(q, .inl (kq, (1, .inr (.inl (f8)))))])) := hD8.sub [0, 1, 2, 3, 4, 5, 6, 7, 8, 9, 10, 11, 12, 13, 14, 15, 16, 17, 18, 19, 21, 22, 23, 24, 25, 26, 27, 28, 29, 30, 31, 32, 33, 34, 35, 20] (by decide) rfl
  refine lv_istore (lv' := [(6, .int r9), (5, .int (nI (k_giveDuty S (xs ((5 * j) + 1)) (xs ((5 * j) + 2)) (xs ((5 * j) + 3))))), (0, .ref b), (1, .ref (a 0)), (2, .ref (am 0)), (3, .ref q), (4, .int (nI (5 * j)))]) hx hb dL_law_667 hl (by decide) rfl (fun ls hl => ?_)
  refine lv_aload_n hx hb dL_law_669 rfl (lv_at hl 4 rfl) ?_
  have hPc := hP.sub (ws' := (mb_w am km (kS (k_giveDuty S (xs ((5 * j) + 1)) (xs ((5 * j) + 2)) (xs ((5 * j) + 3))) (S_giveDuty S (xs ((5 * j) + 1)) (xs ((5 * j) + 2)) (xs ((5 * j) + 3))) S) (k_giveDuty S (xs ((5 * j) + 1)) (xs ((5 * j) + 2)) (xs ((5 * j) + 3))))) [20, 21, 22, 23, 24, 25, 26, 27, 28, 29, 30, 31, 32, 33, 34] rfl
  have hDc := hD.sub (ws' := (mb_w am km (kS (k_giveDuty S (xs ((5 * j) + 1)) (xs ((5 * j) + 2)) (xs ((5 * j) + 3))) (S_giveDuty S (xs ((5 * j) + 1)) (xs ((5 * j) + 2)) (xs ((5 * j) + 3))) S) (k_giveDuty S (xs ((5 * j) + 1)) (xs ((5 * j) + 2)) (xs ((5 * j) + 3))))) [20, 21, 22, 23, 24, 25, 26, 27, 28, 29, 30, 31, 32, 33, 34] (by decide) rfl
  have hKc := hK.sub (tys' := (mb_ty km)) [14, 15, 16, 17, 18, 19, 20, 21, 22, 23, 24, 25, 26, 27] rfl
  refine vp_callSi (W.runV (As := []) (rest := []) ⟨hx, hb, hml, hown, hts⟩ (c_X6_thrown l dC dI am km (kS (k_giveDuty S (xs ((5 * j) + 1)) (xs ((5 * j) + 2)) (xs ((5 * j) + 3))) (S_giveDuty S (xs ((5 * j) + 1)) (xs ((5 * j) + 2)) (xs ((5 * j) + 3))) S) (k_giveDuty S (xs ((5 * j) + 1)) (xs ((5 * j) + 2)) (xs ((5 * j) + 3)))) (cwV 0 hts gL_law_X6_thrown rfl rfl rfl (by decide +kernel) ⟨(Nat.le_of_ble_eq_true rfl), (Nat.le_of_ble_eq_true rfl)⟩) ⟨cR_blind, va_recv hKc hPc (ci := 6) (q0 := 0) rfl rfl, fun U hU hW => ⟨rfl, cR_of hKc hPc hU hW⟩⟩ rfl rfl hl.1 rfl (lv_room (Nat.le_of_ble_eq_true rfl)) dL_law_670 ⟨(by show ((cells + 8) + 0) + 0 ≤ room_1.cells; exact Nat.le_trans (by omega) rm_c), (by show ((slots + 48) + 0) + 0 ≤ room_1.slots; exact Nat.le_trans (by omega) rm_s)⟩) (fun r er => ?_)
  subst er
  refine lv_iload hx hb dL_law_673 (lv_at hl 1 rfl) ?_
  refine lv_icmp_eq (tgt := 680) hx hb dL_law_675 (by decide) (fun c_675 => ?_) (fun c_675 => ?_)
  · skip
    refine lv_iload hx hb dL_law_680 (lv_at hl 1 rfl) ?_
    refine lv_if_ne (tgt := 697) hx hb dL_law_682 (by decide) (fun c_682 => ?_) (fun c_682 => ?_)
    · skip
      refine lv_goto (tgt := 2067) hx hb dL_law_697 (by decide) ?_
      refine W.widen (k := cells + 231) (n := slots + 1597) (by omega) (by omega) ?_
      exact kk (kS (k_giveDuty S (xs ((5 * j) + 1)) (xs ((5 * j) + 2)) (xs ((5 * j) + 3))) (S_giveDuty S (xs ((5 * j) + 1)) (xs ((5 * j) + 2)) (xs ((5 * j) + 3))) S) (k_giveDuty S (xs ((5 * j) + 1)) (xs ((5 * j) + 2)) (xs ((5 * j) + 3))) f8 H2 _ ls (inv_kS hI (fun h9 => inv_giveDuty hI h9)) hP hD hS (lv_sub hl [2, 3, 4, 5, 6] rfl)
    · skip
      have h0 := kz kb_giveDuty c_682
      refine lv_aload_n hx hb dL_law_685 rfl (lv_at hl 5 rfl) ?_
      refine lv_iconst (v := nI 0) hx hb dL_law_686 (by decide) ?_
      refine cb_lald hx hb hK hP 35 28 (f := f8) rfl rfl (j := 0) (by omega) (Nat.le_of_ble_eq_true rfl) dL_law_687 ?_
      refine lv_iload hx hb dL_law_688 (lv_at hl 0 rfl) ?_
      refine lv_i2l hx hb dL_law_690 rfl ?_
      refine W.lcmp hx hb dL_law_691 ?_
      refine lv_if_eq (tgt := 697) hx hb dL_law_692 (by decide) (fun c_692 => ?_) (fun c_692 => ?_)
      · have c_692 : (f8 0) = r9.toInt64 := lg_cmp_t c_692
        refine lv_goto (tgt := 2067) hx hb dL_law_697 (by decide) ?_
        refine W.widen (k := cells + 231) (n := slots + 1597) (by omega) (by omega) ?_
        exact kk (kS (k_giveDuty S (xs ((5 * j) + 1)) (xs ((5 * j) + 2)) (xs ((5 * j) + 3))) (S_giveDuty S (xs ((5 * j) + 1)) (xs ((5 * j) + 2)) (xs ((5 * j) + 3))) S) (k_giveDuty S (xs ((5 * j) + 1)) (xs ((5 * j) + 2)) (xs ((5 * j) + 3))) f8 H2 _ ls (inv_kS hI (fun h9 => inv_giveDuty hI h9)) hP hD hS (lv_sub hl [2, 3, 4, 5, 6] rfl)
      · have c_692 : ¬ (f8 0) = r9.toInt64 := lg_cmp_f c_692
        exact absurd (by rw [hf8 h0, hr9 h0]) c_692
  · skip
    exact absurd rfl c_675
theorem kb_duty {x0 : Int32} {x1 : Int32} : k_duty x0 x1 < 4 := by unfold k_duty; (repeat' split) <;> decide
set_option maxHeartbeats 4000000 in
set_option maxRecDepth 100000 in
theorem lc_duty {p : Program} {l : Launch} {e : Env} {s : State} {m : MethodId} {below : List Frame} {meth : Method} {c : Code} {b L : Nat} {xs : Nat → Int32} {dC : Nat → ClassId} {dI : Nat → Nat → Nat} {a : Nat → Nat} {k : Nat → ClassId} {am : Nat → Nat} {km : Nat → ClassId} {q : Nat} {kq : ClassId} (hl9 : l.stackTraces = false) (C0 : LC p s m c b L xs dC dI k km kq) {S : cs_S} {th : Nat} {f : Nat → Int64} {H : Heap} {locs : List Loc} {j : Nat} {ls : Array Slot} {cells slots : Nat} {Q : State → Prop} (hI : Inv S) (hP : va_P (dC, dI) vwCl (cb_w a k S ++ (mb_w am km S th ++ [(q, .inl (kq, (1, .inr (.inl (f)))))])) H) (hD : va_D (fun z => s.heap.size ≤ z) (cb_w a k S ++ (mb_w am km S th ++ [(q, .inl (kq, (1, .inr (.inl (f)))))]))) (hS : va_S (fun z => s.heap.size ≤ z) s.heap H locs) (hj : 5 * j + 5 ≤ L) (hl : lv_has ls 9 [(0, .ref b), (1, .ref (a 0)), (2, .ref (am 0)), (3, .ref q), (4, .int (nI (5 * j)))]) (hc : cells + 231 ≤ 200000) (hs : slots + 1597 ≤ 2000000) (kk : KK p l e s m below meth c b dC dI a k am km q kq j cells slots Q) : W p l e room_1 s m #[Value.ref b] below meth c H locs cells slots Q (F0 m 700 ls []) := by
  obtain ⟨hx, hb, hml, hown, hts, hX, hbl, hL, hK, hE⟩ := C0
  have hbA : ¬ (fun z => s.heap.size ≤ z) b := Nat.not_le.mpr hbl
  have hA : ∀ z : Nat, s.heap.size ≤ z → (fun z => s.heap.size ≤ z) z := fun _ h => h
  refine lv_aload_n hx hb dL_law_700 rfl (lv_at hl 1 rfl) ?_
  refine lv_aload_n hx hb dL_law_701 rfl (lv_at hl 0 rfl) ?_
  refine lv_iload hx hb dL_law_702 (lv_at hl 4 rfl) ?_
  refine lv_iconst (v := nI 1) hx hb dL_law_704 (by decide) ?_
  refine lv_iadd hx hb dL_law_705 ?_
  refine cb_topi (nI_add _ _) ?_
  refine va_sld hx hb hX hbl hbA hS (i := nI ((5 * j) + 1)) (vp_in_nI (show (5 * j) + 1 < L by omega) (by omega)) dL_law_706 ?_
  refine cb_topi (z := xs ((5 * j) + 1)) (congrArg xs (tn (by omega))) ?_
  refine lv_aload_n hx hb dL_law_707 rfl (lv_at hl 0 rfl) ?_
  refine lv_iload hx hb dL_law_708 (lv_at hl 4 rfl) ?_
  refine lv_iconst (v := nI 2) hx hb dL_law_710 (by decide) ?_
  refine lv_iadd hx hb dL_law_711 ?_
  refine cb_topi (nI_add _ _) ?_
  refine va_sld hx hb hX hbl hbA hS (i := nI ((5 * j) + 2)) (vp_in_nI (show (5 * j) + 2 < L by omega) (by omega)) dL_law_712 ?_
  refine cb_topi (z := xs ((5 * j) + 2)) (congrArg xs (tn (by omega))) ?_
  refine lv_aload_n hx hb dL_law_713 rfl (lv_at hl 3 rfl) ?_
  have hPc := hP.sub (ws' := (cb_w a k S ++ [(q, .inl (kq, (1, .inr (.inl (f)))))])) [0, 1, 2, 3, 4, 5, 6, 7, 8, 9, 10, 11, 12, 13, 14, 15, 16, 17, 18, 19, 35] rfl
  have hDc := hD.sub (ws' := (cb_w a k S ++ [(q, .inl (kq, (1, .inr (.inl (f)))))])) [0, 1, 2, 3, 4, 5, 6, 7, 8, 9, 10, 11, 12, 13, 14, 15, 16, 17, 18, 19, 35] (by decide) rfl
  have hKc := hK.sub (tys' := (cb_ty k ++ [(kq, .long)])) [0, 1, 2, 3, 4, 5, 6, 7, 8, 9, 10, 11, 12, 13, 28] rfl
  have hF : ∀ z, va_A (cb_w a k S ++ [(q, .inl (kq, (1, .inr (.inl (f)))))]) H.size z → s.heap.size ≤ z := va_free hD hS hA [0, 1, 2, 3, 4, 5, 6, 7, 8, 9, 10, 11, 12, 13, 14, 15, 16, 17, 18, 19, 35] rfl
  refine va_calli (vx_runSW (As := [.ref (a 0), .int (xs ((5 * j) + 1)), .int (xs ((5 * j) + 2)), .ref q]) (rest := []) ⟨hx, hb, hml, hown, hts⟩ (c_L_duty l hl9 dC dI a k S q kq f H.size (xs ((5 * j) + 1)) (xs ((5 * j) + 2)) hI) (vx_cwSW 4 hts gL_law_L_duty rfl rfl rfl (by decide +kernel) ⟨(Nat.le_of_ble_eq_true rfl), (Nat.le_of_ble_eq_true rfl)⟩) ⟨cV_blind, fun U hU hW => ⟨rfl, cV_of hKc hPc hDc hE hS hU hW hF⟩⟩ rfl rfl hl.1 rfl (lv_room (Nat.le_of_ble_eq_true rfl)) dL_law_714 ⟨(by show cells + 8 ≤ room_1.cells; exact Nat.le_trans (by omega) rm_c), (by show slots + 48 ≤ room_1.slots; exact Nat.le_trans (by omega) rm_s)⟩) hS (fun z _ h => hF z h) hF (fun r8 f8 t8 H1 L1 ht hvm hw hB hz1 hk1 hS => ?_)
  obtain ⟨hr8, hf8⟩ := hw
  subst hr8
  obtain ⟨hP9, -, hD9⟩ := hB
  rw [ht] at hP9
  obtain ⟨hP8, hD8⟩ := va_join (wc := (cb_w a k S ++ [(q, .inl (kq, (1, .inr (.inl (f)))))])) (wr := (mb_w am km S th)) hP hD [0, 1, 2, 3, 4, 5, 6, 7, 8, 9, 10, 11, 12, 13, 14, 15, 16, 17, 18, 19, 35] [20, 21, 22, 23, 24, 25, 26, 27, 28, 29, 30, 31, 32, 33, 34] rfl rfl (by decide) (by decide) hk1 hF hP9 hD9
  have hP : va_P (dC, dI) vwCl (cb_w a k S ++ (mb_w am km S th ++ [(q, .inl (kq, (1, .inr (.inl (f8)))))])) H1 := hP8.sub [15, 16, 17, 18, 19, 20, 21, 22, 23, 24, 25, 26, 27, 28, 29, 30, 31, 32, 33, 34, 0, 1, 2, 3, 4, 5, 6, 7, 8, 9, 10, 11, 12, 13, 14, 35] rfl
  have hD : va_D (fun z => s.heap.size ≤ z) (cb_w a k S ++ (mb_w am km S th ++ [(q, .inl (kq, (1, .inr (.inl (f8)))))])) := hD8.sub [15, 16, 17, 18, 19, 20, 21, 22, 23, 24, 25, 26, 27, 28, 29, 30, 31, 32, 33, 34, 0, 1, 2, 3, 4, 5, 6, 7, 8, 9, 10, 11, 12, 13, 14, 35] (by decide) rfl
  refine lv_istore (lv' := [(5, .int (nI (k_duty (xs ((5 * j) + 1)) (xs ((5 * j) + 2))))), (0, .ref b), (1, .ref (a 0)), (2, .ref (am 0)), (3, .ref q), (4, .int (nI (5 * j)))]) hx hb dL_law_717 hl (by decide) rfl (fun ls hl => ?_)
  refine lv_aload_n hx hb dL_law_719 rfl (lv_at hl 3 rfl) ?_
  refine lv_aload_n hx hb dL_law_720 rfl (lv_at hl 1 rfl) ?_
  refine lv_iload hx hb dL_law_721 (lv_at hl 5 rfl) ?_
  refine lv_iconst (v := nI 1) hx hb dL_law_723 (by decide) ?_
  refine lv_iadd hx hb dL_law_724 ?_
  refine cb_topi (nI_add _ _) ?_
  refine va_sld hx hb hX hbl hbA hS (i := nI ((5 * j) + 1)) (vp_in_nI (show (5 * j) + 1 < L by omega) (by omega)) dL_law_725 ?_
  refine cb_topi (z := xs ((5 * j) + 1)) (congrArg xs (tn (by omega))) ?_
  refine lv_aload_n hx hb dL_law_726 rfl (lv_at hl 1 rfl) ?_
  refine lv_iload hx hb dL_law_727 (lv_at hl 5 rfl) ?_
  refine lv_iconst (v := nI 2) hx hb dL_law_729 (by decide) ?_
  refine lv_iadd hx hb dL_law_730 ?_
  refine cb_topi (nI_add _ _) ?_
  refine va_sld hx hb hX hbl hbA hS (i := nI ((5 * j) + 2)) (vp_in_nI (show (5 * j) + 2 < L by omega) (by omega)) dL_law_731 ?_
  refine cb_topi (z := xs ((5 * j) + 2)) (congrArg xs (tn (by omega))) ?_
  have hPc := hP.sub (ws' := (mb_w am km S th)) [20, 21, 22, 23, 24, 25, 26, 27, 28, 29, 30, 31, 32, 33, 34] rfl
  have hDc := hD.sub (ws' := (mb_w am km S th)) [20, 21, 22, 23, 24, 25, 26, 27, 28, 29, 30, 31, 32, 33, 34] (by decide) rfl
  have hKc := hK.sub (tys' := (mb_ty km)) [14, 15, 16, 17, 18, 19, 20, 21, 22, 23, 24, 25, 26, 27] rfl
  have hF : ∀ z, va_A (mb_w am km S th) H1.size z → s.heap.size ≤ z := va_free hD hS hA [20, 21, 22, 23, 24, 25, 26, 27, 28, 29, 30, 31, 32, 33, 34] rfl
  refine va_calli (va_runV (As := [.int (xs ((5 * j) + 1)), .int (xs ((5 * j) + 2))]) (rest := []) ⟨hx, hb, hml, hown, hts⟩ (c_X6_duty l dC dI am km S th H1.size (xs ((5 * j) + 1)) (xs ((5 * j) + 2)) hI) (cwV 2 hts gL_law_X6_duty rfl rfl rfl (by decide +kernel) ⟨(Nat.le_of_ble_eq_true rfl), (Nat.le_of_ble_eq_true rfl)⟩) ⟨cT_blind, va_recv hKc hPc (ci := 6) (q0 := 0) rfl rfl, fun U hU hW => ⟨rfl, cT_of hKc hPc hDc hU hW⟩⟩ rfl rfl hl.1 rfl (lv_room (Nat.le_of_ble_eq_true rfl)) dL_law_732 ⟨(by show (cells + 8) + 0 ≤ room_1.cells; exact Nat.le_trans (by omega) rm_c), (by show (slots + 48) + 0 ≤ room_1.slots; exact Nat.le_trans (by omega) rm_s)⟩) hS (fun z _ h => hF z h) hF (fun r9 u9 t9 H2 L2 ht hvm hr9 hB hz1 hk1 hS => ?_)
  obtain ⟨hP9, -, hD9⟩ := hB
  rw [ht] at hP9
  obtain ⟨hP8, hD8⟩ := va_join (wc := (mb_w am km S th)) (wr := ((cb_w a k S) ++ [(q, .inl (kq, (1, .inr (.inl (f8)))))])) hP hD [20, 21, 22, 23, 24, 25, 26, 27, 28, 29, 30, 31, 32, 33, 34] [0, 1, 2, 3, 4, 5, 6, 7, 8, 9, 10, 11, 12, 13, 14, 15, 16, 17, 18, 19, 35] rfl rfl (by decide) (by decide) hk1 hF hP9 hD9
  have hP : va_P (dC, dI) vwCl (cb_w a k S ++ (mb_w am km S (k_duty (xs ((5 * j) + 1)) (xs ((5 * j) + 2))) ++ [(q, .inl (kq, (1, .inr (.inl (f8)))))])) H2 := hP8.sub [0, 1, 2, 3, 4, 5, 6, 7, 8, 9, 10, 11, 12, 13, 14, 15, 16, 17, 18, 19, 21, 22, 23, 24, 25, 26, 27, 28, 29, 30, 31, 32, 33, 34, 35, 20] rfl
  have hD : va_D (fun z => s.heap.size ≤ z) (cb_w a k S ++ (mb_w am km S (k_duty (xs ((5 * j) + 1)) (xs ((5 * j) + 2))) ++ [(q, .inl (kq, (1, .inr (.inl (f8)))))])) := hD8.sub [0, 1, 2, 3, 4, 5, 6, 7, 8, 9, 10, 11, 12, 13, 14, 15, 16, 17, 18, 19, 21, 22, 23, 24, 25, 26, 27, 28, 29, 30, 31, 32, 33, 34, 35, 20] (by decide) rfl
  refine lv_istore (lv' := [(6, .int r9), (5, .int (nI (k_duty (xs ((5 * j) + 1)) (xs ((5 * j) + 2))))), (0, .ref b), (1, .ref (a 0)), (2, .ref (am 0)), (3, .ref q), (4, .int (nI (5 * j)))]) hx hb dL_law_735 hl (by decide) rfl (fun ls hl => ?_)
  refine lv_aload_n hx hb dL_law_737 rfl (lv_at hl 4 rfl) ?_
  have hPc := hP.sub (ws' := (mb_w am km S (k_duty (xs ((5 * j) + 1)) (xs ((5 * j) + 2))))) [20, 21, 22, 23, 24, 25, 26, 27, 28, 29, 30, 31, 32, 33, 34] rfl
  have hDc := hD.sub (ws' := (mb_w am km S (k_duty (xs ((5 * j) + 1)) (xs ((5 * j) + 2))))) [20, 21, 22, 23, 24, 25, 26, 27, 28, 29, 30, 31, 32, 33, 34] (by decide) rfl
  have hKc := hK.sub (tys' := (mb_ty km)) [14, 15, 16, 17, 18, 19, 20, 21, 22, 23, 24, 25, 26, 27] rfl
  refine vp_callSi (W.runV (As := []) (rest := []) ⟨hx, hb, hml, hown, hts⟩ (c_X6_thrown l dC dI am km S (k_duty (xs ((5 * j) + 1)) (xs ((5 * j) + 2)))) (cwV 0 hts gL_law_X6_thrown rfl rfl rfl (by decide +kernel) ⟨(Nat.le_of_ble_eq_true rfl), (Nat.le_of_ble_eq_true rfl)⟩) ⟨cR_blind, va_recv hKc hPc (ci := 6) (q0 := 0) rfl rfl, fun U hU hW => ⟨rfl, cR_of hKc hPc hU hW⟩⟩ rfl rfl hl.1 rfl (lv_room (Nat.le_of_ble_eq_true rfl)) dL_law_738 ⟨(by show ((cells + 8) + 0) + 0 ≤ room_1.cells; exact Nat.le_trans (by omega) rm_c), (by show ((slots + 48) + 0) + 0 ≤ room_1.slots; exact Nat.le_trans (by omega) rm_s)⟩) (fun r er => ?_)
  subst er
  refine lv_iload hx hb dL_law_741 (lv_at hl 1 rfl) ?_
  refine lv_icmp_eq (tgt := 748) hx hb dL_law_743 (by decide) (fun c_743 => ?_) (fun c_743 => ?_)
  · skip
    refine lv_iload hx hb dL_law_748 (lv_at hl 1 rfl) ?_
    refine lv_if_ne (tgt := 765) hx hb dL_law_750 (by decide) (fun c_750 => ?_) (fun c_750 => ?_)
    · skip
      refine lv_goto (tgt := 2067) hx hb dL_law_765 (by decide) ?_
      refine W.widen (k := cells + 231) (n := slots + 1597) (by omega) (by omega) ?_
      exact kk S (k_duty (xs ((5 * j) + 1)) (xs ((5 * j) + 2))) f8 H2 _ ls hI hP hD hS (lv_sub hl [2, 3, 4, 5, 6] rfl)
    · skip
      have h0 := kz kb_duty c_750
      refine lv_aload_n hx hb dL_law_753 rfl (lv_at hl 5 rfl) ?_
      refine lv_iconst (v := nI 0) hx hb dL_law_754 (by decide) ?_
      refine cb_lald hx hb hK hP 35 28 (f := f8) rfl rfl (j := 0) (by omega) (Nat.le_of_ble_eq_true rfl) dL_law_755 ?_
      refine lv_iload hx hb dL_law_756 (lv_at hl 0 rfl) ?_
      refine lv_i2l hx hb dL_law_758 rfl ?_
      refine W.lcmp hx hb dL_law_759 ?_
      refine lv_if_eq (tgt := 765) hx hb dL_law_760 (by decide) (fun c_760 => ?_) (fun c_760 => ?_)
      · have c_760 : (f8 0) = r9.toInt64 := lg_cmp_t c_760
        refine lv_goto (tgt := 2067) hx hb dL_law_765 (by decide) ?_
        refine W.widen (k := cells + 231) (n := slots + 1597) (by omega) (by omega) ?_
        exact kk S (k_duty (xs ((5 * j) + 1)) (xs ((5 * j) + 2))) f8 H2 _ ls hI hP hD hS (lv_sub hl [2, 3, 4, 5, 6] rfl)
      · have c_760 : ¬ (f8 0) = r9.toInt64 := lg_cmp_f c_760
        exact absurd (by rw [hf8 h0, hr9 h0]) c_760
  · skip
    exact absurd rfl c_743
theorem kb_points {S : cs_S} {x0 : Int32} : k_points S x0 < 4 := by unfold k_points; (repeat' split) <;> decide
set_option maxHeartbeats 4000000 in
set_option maxRecDepth 100000 in
theorem lc_points {p : Program} {l : Launch} {e : Env} {s : State} {m : MethodId} {below : List Frame} {meth : Method} {c : Code} {b L : Nat} {xs : Nat → Int32} {dC : Nat → ClassId} {dI : Nat → Nat → Nat} {a : Nat → Nat} {k : Nat → ClassId} {am : Nat → Nat} {km : Nat → ClassId} {q : Nat} {kq : ClassId} (hl9 : l.stackTraces = false) (C0 : LC p s m c b L xs dC dI k km kq) {S : cs_S} {th : Nat} {f : Nat → Int64} {H : Heap} {locs : List Loc} {j : Nat} {ls : Array Slot} {cells slots : Nat} {Q : State → Prop} (hI : Inv S) (hP : va_P (dC, dI) vwCl (cb_w a k S ++ (mb_w am km S th ++ [(q, .inl (kq, (1, .inr (.inl (f)))))])) H) (hD : va_D (fun z => s.heap.size ≤ z) (cb_w a k S ++ (mb_w am km S th ++ [(q, .inl (kq, (1, .inr (.inl (f)))))]))) (hS : va_S (fun z => s.heap.size ≤ z) s.heap H locs) (hj : 5 * j + 5 ≤ L) (hl : lv_has ls 9 [(0, .ref b), (1, .ref (a 0)), (2, .ref (am 0)), (3, .ref q), (4, .int (nI (5 * j)))]) (hc : cells + 231 ≤ 200000) (hs : slots + 1597 ≤ 2000000) (kk : KK p l e s m below meth c b dC dI a k am km q kq j cells slots Q) : W p l e room_1 s m #[Value.ref b] below meth c H locs cells slots Q (F0 m 768 ls []) := by
  obtain ⟨hx, hb, hml, hown, hts, hX, hbl, hL, hK, hE⟩ := C0
  have hbA : ¬ (fun z => s.heap.size ≤ z) b := Nat.not_le.mpr hbl
  have hA : ∀ z : Nat, s.heap.size ≤ z → (fun z => s.heap.size ≤ z) z := fun _ h => h
  refine lv_aload_n hx hb dL_law_768 rfl (lv_at hl 1 rfl) ?_
  refine lv_aload_n hx hb dL_law_769 rfl (lv_at hl 0 rfl) ?_
  refine lv_iload hx hb dL_law_770 (lv_at hl 4 rfl) ?_
  refine lv_iconst (v := nI 1) hx hb dL_law_772 (by decide) ?_
  refine lv_iadd hx hb dL_law_773 ?_
  refine cb_topi (nI_add _ _) ?_
  refine va_sld hx hb hX hbl hbA hS (i := nI ((5 * j) + 1)) (vp_in_nI (show (5 * j) + 1 < L by omega) (by omega)) dL_law_774 ?_
  refine cb_topi (z := xs ((5 * j) + 1)) (congrArg xs (tn (by omega))) ?_
  refine lv_aload_n hx hb dL_law_775 rfl (lv_at hl 3 rfl) ?_
  have hPc := hP.sub (ws' := (cb_w a k S ++ [(q, .inl (kq, (1, .inr (.inl (f)))))])) [0, 1, 2, 3, 4, 5, 6, 7, 8, 9, 10, 11, 12, 13, 14, 15, 16, 17, 18, 19, 35] rfl
  have hDc := hD.sub (ws' := (cb_w a k S ++ [(q, .inl (kq, (1, .inr (.inl (f)))))])) [0, 1, 2, 3, 4, 5, 6, 7, 8, 9, 10, 11, 12, 13, 14, 15, 16, 17, 18, 19, 35] (by decide) rfl
  have hKc := hK.sub (tys' := (cb_ty k ++ [(kq, .long)])) [0, 1, 2, 3, 4, 5, 6, 7, 8, 9, 10, 11, 12, 13, 28] rfl
  have hF : ∀ z, va_A (cb_w a k S ++ [(q, .inl (kq, (1, .inr (.inl (f)))))]) H.size z → s.heap.size ≤ z := va_free hD hS hA [0, 1, 2, 3, 4, 5, 6, 7, 8, 9, 10, 11, 12, 13, 14, 15, 16, 17, 18, 19, 35] rfl
  refine va_calli (vx_runSW (As := [.ref (a 0), .int (xs ((5 * j) + 1)), .ref q]) (rest := []) ⟨hx, hb, hml, hown, hts⟩ (c_L_points l hl9 dC dI a k S q kq f H.size (xs ((5 * j) + 1)) hI) (vx_cwSW 3 hts gL_law_L_points rfl rfl rfl (by decide +kernel) ⟨(Nat.le_of_ble_eq_true rfl), (Nat.le_of_ble_eq_true rfl)⟩) ⟨cV_blind, fun U hU hW => ⟨rfl, cV_of hKc hPc hDc hE hS hU hW hF⟩⟩ rfl rfl hl.1 rfl (lv_room (Nat.le_of_ble_eq_true rfl)) dL_law_776 ⟨(by show cells + 8 ≤ room_1.cells; exact Nat.le_trans (by omega) rm_c), (by show slots + 48 ≤ room_1.slots; exact Nat.le_trans (by omega) rm_s)⟩) hS (fun z _ h => hF z h) hF (fun r8 f8 t8 H1 L1 ht hvm hw hB hz1 hk1 hS => ?_)
  obtain ⟨hr8, hf8⟩ := hw
  subst hr8
  obtain ⟨hP9, -, hD9⟩ := hB
  rw [ht] at hP9
  obtain ⟨hP8, hD8⟩ := va_join (wc := (cb_w a k S ++ [(q, .inl (kq, (1, .inr (.inl (f)))))])) (wr := (mb_w am km S th)) hP hD [0, 1, 2, 3, 4, 5, 6, 7, 8, 9, 10, 11, 12, 13, 14, 15, 16, 17, 18, 19, 35] [20, 21, 22, 23, 24, 25, 26, 27, 28, 29, 30, 31, 32, 33, 34] rfl rfl (by decide) (by decide) hk1 hF hP9 hD9
  have hP : va_P (dC, dI) vwCl (cb_w a k S ++ (mb_w am km S th ++ [(q, .inl (kq, (1, .inr (.inl (f8)))))])) H1 := hP8.sub [15, 16, 17, 18, 19, 20, 21, 22, 23, 24, 25, 26, 27, 28, 29, 30, 31, 32, 33, 34, 0, 1, 2, 3, 4, 5, 6, 7, 8, 9, 10, 11, 12, 13, 14, 35] rfl
  have hD : va_D (fun z => s.heap.size ≤ z) (cb_w a k S ++ (mb_w am km S th ++ [(q, .inl (kq, (1, .inr (.inl (f8)))))])) := hD8.sub [15, 16, 17, 18, 19, 20, 21, 22, 23, 24, 25, 26, 27, 28, 29, 30, 31, 32, 33, 34, 0, 1, 2, 3, 4, 5, 6, 7, 8, 9, 10, 11, 12, 13, 14, 35] (by decide) rfl
  refine lv_istore (lv' := [(5, .int (nI (k_points S (xs ((5 * j) + 1))))), (0, .ref b), (1, .ref (a 0)), (2, .ref (am 0)), (3, .ref q), (4, .int (nI (5 * j)))]) hx hb dL_law_779 hl (by decide) rfl (fun ls hl => ?_)
  refine lv_aload_n hx hb dL_law_781 rfl (lv_at hl 3 rfl) ?_
  refine lv_aload_n hx hb dL_law_782 rfl (lv_at hl 1 rfl) ?_
  refine lv_iload hx hb dL_law_783 (lv_at hl 5 rfl) ?_
  refine lv_iconst (v := nI 1) hx hb dL_law_785 (by decide) ?_
  refine lv_iadd hx hb dL_law_786 ?_
  refine cb_topi (nI_add _ _) ?_
  refine va_sld hx hb hX hbl hbA hS (i := nI ((5 * j) + 1)) (vp_in_nI (show (5 * j) + 1 < L by omega) (by omega)) dL_law_787 ?_
  refine cb_topi (z := xs ((5 * j) + 1)) (congrArg xs (tn (by omega))) ?_
  have hPc := hP.sub (ws' := (mb_w am km S th)) [20, 21, 22, 23, 24, 25, 26, 27, 28, 29, 30, 31, 32, 33, 34] rfl
  have hDc := hD.sub (ws' := (mb_w am km S th)) [20, 21, 22, 23, 24, 25, 26, 27, 28, 29, 30, 31, 32, 33, 34] (by decide) rfl
  have hKc := hK.sub (tys' := (mb_ty km)) [14, 15, 16, 17, 18, 19, 20, 21, 22, 23, 24, 25, 26, 27] rfl
  have hF : ∀ z, va_A (mb_w am km S th) H1.size z → s.heap.size ≤ z := va_free hD hS hA [20, 21, 22, 23, 24, 25, 26, 27, 28, 29, 30, 31, 32, 33, 34] rfl
  refine va_calli (va_runV (As := [.int (xs ((5 * j) + 1))]) (rest := []) ⟨hx, hb, hml, hown, hts⟩ (c_X6_points l dC dI am km S th H1.size (xs ((5 * j) + 1)) hI) (cwV 1 hts gL_law_X6_points rfl rfl rfl (by decide +kernel) ⟨(Nat.le_of_ble_eq_true rfl), (Nat.le_of_ble_eq_true rfl)⟩) ⟨cT_blind, va_recv hKc hPc (ci := 6) (q0 := 0) rfl rfl, fun U hU hW => ⟨rfl, cT_of hKc hPc hDc hU hW⟩⟩ rfl rfl hl.1 rfl (lv_room (Nat.le_of_ble_eq_true rfl)) dL_law_788 ⟨(by show (cells + 8) + 1 ≤ room_1.cells; exact Nat.le_trans (by omega) rm_c), (by show (slots + 48) + 5 ≤ room_1.slots; exact Nat.le_trans (by omega) rm_s)⟩) hS (fun z _ h => hF z h) hF (fun r9 u9 t9 H2 L2 ht hvm hr9 hB hz1 hk1 hS => ?_)
  obtain ⟨hP9, -, hD9⟩ := hB
  rw [ht] at hP9
  obtain ⟨hP8, hD8⟩ := va_join (wc := (mb_w am km S th)) (wr := ((cb_w a k S) ++ [(q, .inl (kq, (1, .inr (.inl (f8)))))])) hP hD [20, 21, 22, 23, 24, 25, 26, 27, 28, 29, 30, 31, 32, 33, 34] [0, 1, 2, 3, 4, 5, 6, 7, 8, 9, 10, 11, 12, 13, 14, 15, 16, 17, 18, 19, 35] rfl rfl (by decide) (by decide) hk1 hF hP9 hD9
  have hP : va_P (dC, dI) vwCl (cb_w a k S ++ (mb_w am km S (k_points S (xs ((5 * j) + 1))) ++ [(q, .inl (kq, (1, .inr (.inl (f8)))))])) H2 := hP8.sub [0, 1, 2, 3, 4, 5, 6, 7, 8, 9, 10, 11, 12, 13, 14, 15, 16, 17, 18, 19, 21, 22, 23, 24, 25, 26, 27, 28, 29, 30, 31, 32, 33, 34, 35, 20] rfl
  have hD : va_D (fun z => s.heap.size ≤ z) (cb_w a k S ++ (mb_w am km S (k_points S (xs ((5 * j) + 1))) ++ [(q, .inl (kq, (1, .inr (.inl (f8)))))])) := hD8.sub [0, 1, 2, 3, 4, 5, 6, 7, 8, 9, 10, 11, 12, 13, 14, 15, 16, 17, 18, 19, 21, 22, 23, 24, 25, 26, 27, 28, 29, 30, 31, 32, 33, 34, 35, 20] (by decide) rfl
  refine lv_istore (lv' := [(6, .int r9), (5, .int (nI (k_points S (xs ((5 * j) + 1))))), (0, .ref b), (1, .ref (a 0)), (2, .ref (am 0)), (3, .ref q), (4, .int (nI (5 * j)))]) hx hb dL_law_791 hl (by decide) rfl (fun ls hl => ?_)
  refine lv_aload_n hx hb dL_law_793 rfl (lv_at hl 4 rfl) ?_
  have hPc := hP.sub (ws' := (mb_w am km S (k_points S (xs ((5 * j) + 1))))) [20, 21, 22, 23, 24, 25, 26, 27, 28, 29, 30, 31, 32, 33, 34] rfl
  have hDc := hD.sub (ws' := (mb_w am km S (k_points S (xs ((5 * j) + 1))))) [20, 21, 22, 23, 24, 25, 26, 27, 28, 29, 30, 31, 32, 33, 34] (by decide) rfl
  have hKc := hK.sub (tys' := (mb_ty km)) [14, 15, 16, 17, 18, 19, 20, 21, 22, 23, 24, 25, 26, 27] rfl
  refine vp_callSi (W.runV (As := []) (rest := []) ⟨hx, hb, hml, hown, hts⟩ (c_X6_thrown l dC dI am km S (k_points S (xs ((5 * j) + 1)))) (cwV 0 hts gL_law_X6_thrown rfl rfl rfl (by decide +kernel) ⟨(Nat.le_of_ble_eq_true rfl), (Nat.le_of_ble_eq_true rfl)⟩) ⟨cR_blind, va_recv hKc hPc (ci := 6) (q0 := 0) rfl rfl, fun U hU hW => ⟨rfl, cR_of hKc hPc hU hW⟩⟩ rfl rfl hl.1 rfl (lv_room (Nat.le_of_ble_eq_true rfl)) dL_law_794 ⟨(by show ((cells + 8) + 1) + 0 ≤ room_1.cells; exact Nat.le_trans (by omega) rm_c), (by show ((slots + 48) + 5) + 0 ≤ room_1.slots; exact Nat.le_trans (by omega) rm_s)⟩) (fun r er => ?_)
  subst er
  refine lv_iload hx hb dL_law_797 (lv_at hl 1 rfl) ?_
  refine lv_icmp_eq (tgt := 804) hx hb dL_law_799 (by decide) (fun c_799 => ?_) (fun c_799 => ?_)
  · skip
    refine lv_iload hx hb dL_law_804 (lv_at hl 1 rfl) ?_
    refine lv_if_ne (tgt := 821) hx hb dL_law_806 (by decide) (fun c_806 => ?_) (fun c_806 => ?_)
    · skip
      refine lv_goto (tgt := 2067) hx hb dL_law_821 (by decide) ?_
      refine W.widen (k := cells + 231) (n := slots + 1597) (by omega) (by omega) ?_
      exact kk S (k_points S (xs ((5 * j) + 1))) f8 H2 _ ls hI hP hD hS (lv_sub hl [2, 3, 4, 5, 6] rfl)
    · skip
      have h0 := kz kb_points c_806
      refine lv_aload_n hx hb dL_law_809 rfl (lv_at hl 5 rfl) ?_
      refine lv_iconst (v := nI 0) hx hb dL_law_810 (by decide) ?_
      refine cb_lald hx hb hK hP 35 28 (f := f8) rfl rfl (j := 0) (by omega) (Nat.le_of_ble_eq_true rfl) dL_law_811 ?_
      refine lv_iload hx hb dL_law_812 (lv_at hl 0 rfl) ?_
      refine lv_i2l hx hb dL_law_814 rfl ?_
      refine W.lcmp hx hb dL_law_815 ?_
      refine lv_if_eq (tgt := 821) hx hb dL_law_816 (by decide) (fun c_816 => ?_) (fun c_816 => ?_)
      · have c_816 : (f8 0) = r9.toInt64 := lg_cmp_t c_816
        refine lv_goto (tgt := 2067) hx hb dL_law_821 (by decide) ?_
        refine W.widen (k := cells + 231) (n := slots + 1597) (by omega) (by omega) ?_
        exact kk S (k_points S (xs ((5 * j) + 1))) f8 H2 _ ls hI hP hD hS (lv_sub hl [2, 3, 4, 5, 6] rfl)
      · have c_816 : ¬ (f8 0) = r9.toInt64 := lg_cmp_f c_816
        exact absurd (by rw [hf8 h0, hr9 h0]) c_816
  · skip
    exact absurd rfl c_799
set_option maxHeartbeats 4000000 in
set_option maxRecDepth 100000 in
theorem lc_findDuties {p : Program} {l : Launch} {e : Env} {s : State} {m : MethodId} {below : List Frame} {meth : Method} {c : Code} {b L : Nat} {xs : Nat → Int32} {dC : Nat → ClassId} {dI : Nat → Nat → Nat} {a : Nat → Nat} {k : Nat → ClassId} {am : Nat → Nat} {km : Nat → ClassId} {q : Nat} {kq : ClassId} (hl9 : l.stackTraces = false) (C0 : LC p s m c b L xs dC dI k km kq) {S : cs_S} {th : Nat} {f : Nat → Int64} {H : Heap} {locs : List Loc} {j : Nat} {ls : Array Slot} {cells slots : Nat} {Q : State → Prop} (hI : Inv S) (hP : va_P (dC, dI) vwCl (cb_w a k S ++ (mb_w am km S th ++ [(q, .inl (kq, (1, .inr (.inl (f)))))])) H) (hD : va_D (fun z => s.heap.size ≤ z) (cb_w a k S ++ (mb_w am km S th ++ [(q, .inl (kq, (1, .inr (.inl (f)))))]))) (hS : va_S (fun z => s.heap.size ≤ z) s.heap H locs) (hj : 5 * j + 5 ≤ L) (hl : lv_has ls 9 [(0, .ref b), (1, .ref (a 0)), (2, .ref (am 0)), (3, .ref q), (4, .int (nI (5 * j)))]) (hc : cells + 231 ≤ 200000) (hs : slots + 1597 ≤ 2000000) (kk : KK p l e s m below meth c b dC dI a k am km q kq j cells slots Q) : W p l e room_1 s m #[Value.ref b] below meth c H locs cells slots Q (F0 m 824 ls []) := by
  obtain ⟨hx, hb, hml, hown, hts, hX, hbl, hL, hK, hE⟩ := C0
  have hbA : ¬ (fun z => s.heap.size ≤ z) b := Nat.not_le.mpr hbl
  have hA : ∀ z : Nat, s.heap.size ≤ z → (fun z => s.heap.size ≤ z) z := fun _ h => h
  refine lv_aload_n hx hb dL_law_824 rfl (lv_at hl 1 rfl) ?_
  have hPc := hP.sub (ws' := (cb_w a k S)) [0, 1, 2, 3, 4, 5, 6, 7, 8, 9, 10, 11, 12, 13, 14, 15, 16, 17, 18, 19] rfl
  have hDc := hD.sub (ws' := (cb_w a k S)) [0, 1, 2, 3, 4, 5, 6, 7, 8, 9, 10, 11, 12, 13, 14, 15, 16, 17, 18, 19] (by decide) rfl
  have hKc := hK.sub (tys' := (cb_ty k)) [0, 1, 2, 3, 4, 5, 6, 7, 8, 9, 10, 11, 12, 13] rfl
  have hF : ∀ z, va_A (cb_w a k S) H.size z → s.heap.size ≤ z := va_free hD hS hA [0, 1, 2, 3, 4, 5, 6, 7, 8, 9, 10, 11, 12, 13, 14, 15, 16, 17, 18, 19] rfl
  refine va_calli (va_runV (As := []) (rest := []) ⟨hx, hb, hml, hown, hts⟩ (c_X5_findDuties l dC dI a k S H.size hI) (cwV 0 hts gL_law_X5_findDuties rfl rfl rfl (by decide +kernel) ⟨(Nat.le_of_ble_eq_true rfl), (Nat.le_of_ble_eq_true rfl)⟩) ⟨cU_blind, va_recv hKc hPc (ci := 5) (q0 := 0) rfl rfl, fun U hU hW => ⟨rfl, cU_of hKc hPc hDc hE.1 hS hU hW hF⟩⟩ rfl rfl hl.1 rfl (lv_room (Nat.le_of_ble_eq_true rfl)) dL_law_825 ⟨(by show cells + 0 ≤ room_1.cells; exact Nat.le_trans (by omega) rm_c), (by show slots + 0 ≤ room_1.slots; exact Nat.le_trans (by omega) rm_s)⟩) hS (fun z _ h => hF z h) hF (fun r8 u8 t8 H1 L1 ht hvm hw hB hz1 hk1 hS => ?_)
  subst hw
  obtain ⟨hP9, -, hD9⟩ := hB
  rw [ht] at hP9
  obtain ⟨hP8, hD8⟩ := va_join (wc := (cb_w a k S)) (wr := ((mb_w am km S th) ++ [(q, .inl (kq, (1, .inr (.inl (f)))))])) hP hD [0, 1, 2, 3, 4, 5, 6, 7, 8, 9, 10, 11, 12, 13, 14, 15, 16, 17, 18, 19] [20, 21, 22, 23, 24, 25, 26, 27, 28, 29, 30, 31, 32, 33, 34, 35] rfl rfl (by decide) (by decide) hk1 hF hP9 hD9
  have hP : va_P (dC, dI) vwCl (cb_w a k (S_findDuties S) ++ (mb_w am km S th ++ [(q, .inl (kq, (1, .inr (.inl (f)))))])) H1 := hP8.sub [16, 17, 18, 19, 20, 21, 22, 23, 24, 25, 26, 27, 28, 29, 30, 31, 32, 33, 34, 35, 0, 1, 2, 3, 4, 5, 6, 7, 8, 9, 10, 11, 12, 13, 14, 15] rfl
  have hD : va_D (fun z => s.heap.size ≤ z) (cb_w a k (S_findDuties S) ++ (mb_w am km S th ++ [(q, .inl (kq, (1, .inr (.inl (f)))))])) := hD8.sub [16, 17, 18, 19, 20, 21, 22, 23, 24, 25, 26, 27, 28, 29, 30, 31, 32, 33, 34, 35, 0, 1, 2, 3, 4, 5, 6, 7, 8, 9, 10, 11, 12, 13, 14, 15] (by decide) rfl
  refine lv_aload_n hx hb dL_law_828 rfl (lv_at hl 2 rfl) ?_
  have hPc := hP.sub (ws' := (mb_w am km S th)) [20, 21, 22, 23, 24, 25, 26, 27, 28, 29, 30, 31, 32, 33, 34] rfl
  have hDc := hD.sub (ws' := (mb_w am km S th)) [20, 21, 22, 23, 24, 25, 26, 27, 28, 29, 30, 31, 32, 33, 34] (by decide) rfl
  have hKc := hK.sub (tys' := (mb_ty km)) [14, 15, 16, 17, 18, 19, 20, 21, 22, 23, 24, 25, 26, 27] rfl
  have hF : ∀ z, va_A (mb_w am km S th) H1.size z → s.heap.size ≤ z := va_free hD hS hA [20, 21, 22, 23, 24, 25, 26, 27, 28, 29, 30, 31, 32, 33, 34] rfl
  refine va_calli (va_runV (As := []) (rest := [.int (r_findDuties S)]) ⟨hx, hb, hml, hown, hts⟩ (c_X6_findDuties l dC dI am km S th H1.size hI) (cwV 0 hts gL_law_X6_findDuties rfl rfl rfl (by decide +kernel) ⟨(Nat.le_of_ble_eq_true rfl), (Nat.le_of_ble_eq_true rfl)⟩) ⟨cT_blind, va_recv hKc hPc (ci := 6) (q0 := 0) rfl rfl, fun U hU hW => ⟨rfl, cT_of hKc hPc hDc hU hW⟩⟩ rfl rfl hl.1 rfl (lv_room (Nat.le_of_ble_eq_true rfl)) dL_law_829 ⟨(by show cells + 61 ≤ room_1.cells; exact Nat.le_trans (by omega) rm_c), (by show slots + 305 ≤ room_1.slots; exact Nat.le_trans (by omega) rm_s)⟩) hS (fun z _ h => hF z h) hF (fun r9 u9 t9 H2 L2 ht hvm hr9 hB hz1 hk1 hS => ?_)
  obtain ⟨hP9, -, hD9⟩ := hB
  rw [ht] at hP9
  obtain ⟨hP8, hD8⟩ := va_join (wc := (mb_w am km S th)) (wr := ((cb_w a k (S_findDuties S)) ++ [(q, .inl (kq, (1, .inr (.inl (f)))))])) hP hD [20, 21, 22, 23, 24, 25, 26, 27, 28, 29, 30, 31, 32, 33, 34] [0, 1, 2, 3, 4, 5, 6, 7, 8, 9, 10, 11, 12, 13, 14, 15, 16, 17, 18, 19, 35] rfl rfl (by decide) (by decide) hk1 hF hP9 hD9
  have hP : va_P (dC, dI) vwCl (cb_w a k (S_findDuties S) ++ (mb_w am km (S_findDuties S) 0 ++ [(q, .inl (kq, (1, .inr (.inl (f)))))])) H2 := hP8.sub [0, 1, 2, 3, 4, 5, 6, 7, 8, 9, 10, 11, 12, 13, 14, 15, 16, 17, 18, 19, 21, 22, 23, 24, 25, 26, 27, 28, 29, 30, 31, 32, 33, 34, 35, 20] rfl
  have hD : va_D (fun z => s.heap.size ≤ z) (cb_w a k (S_findDuties S) ++ (mb_w am km (S_findDuties S) 0 ++ [(q, .inl (kq, (1, .inr (.inl (f)))))])) := hD8.sub [0, 1, 2, 3, 4, 5, 6, 7, 8, 9, 10, 11, 12, 13, 14, 15, 16, 17, 18, 19, 21, 22, 23, 24, 25, 26, 27, 28, 29, 30, 31, 32, 33, 34, 35, 20] (by decide) rfl
  subst hr9
  refine lv_icmp_eq (tgt := 2067) hx hb dL_law_832 (by decide) (fun c_832 => ?_) (fun c_832 => ?_)
  · skip
    refine W.widen (k := cells + 231) (n := slots + 1597) (by omega) (by omega) ?_
    exact kk (S_findDuties S) 0 f H2 _ ls (inv_findDuties hI) hP hD hS (lv_sub hl [0, 1, 2, 3, 4] rfl)
  · skip
    exact absurd rfl c_832
theorem kb_addFood {S : cs_S} {x0 : Int32} : k_addFood S x0 < 4 := by unfold k_addFood; (repeat' split) <;> decide
set_option maxHeartbeats 4000000 in
set_option maxRecDepth 100000 in
theorem lc_addFood {p : Program} {l : Launch} {e : Env} {s : State} {m : MethodId} {below : List Frame} {meth : Method} {c : Code} {b L : Nat} {xs : Nat → Int32} {dC : Nat → ClassId} {dI : Nat → Nat → Nat} {a : Nat → Nat} {k : Nat → ClassId} {am : Nat → Nat} {km : Nat → ClassId} {q : Nat} {kq : ClassId} (hl9 : l.stackTraces = false) (C0 : LC p s m c b L xs dC dI k km kq) {S : cs_S} {th : Nat} {f : Nat → Int64} {H : Heap} {locs : List Loc} {j : Nat} {ls : Array Slot} {cells slots : Nat} {Q : State → Prop} (hI : Inv S) (hP : va_P (dC, dI) vwCl (cb_w a k S ++ (mb_w am km S th ++ [(q, .inl (kq, (1, .inr (.inl (f)))))])) H) (hD : va_D (fun z => s.heap.size ≤ z) (cb_w a k S ++ (mb_w am km S th ++ [(q, .inl (kq, (1, .inr (.inl (f)))))]))) (hS : va_S (fun z => s.heap.size ≤ z) s.heap H locs) (hj : 5 * j + 5 ≤ L) (hl : lv_has ls 9 [(0, .ref b), (1, .ref (a 0)), (2, .ref (am 0)), (3, .ref q), (4, .int (nI (5 * j)))]) (hc : cells + 231 ≤ 200000) (hs : slots + 1597 ≤ 2000000) (kk : KK p l e s m below meth c b dC dI a k am km q kq j cells slots Q) : W p l e room_1 s m #[Value.ref b] below meth c H locs cells slots Q (F0 m 837 ls []) := by
  obtain ⟨hx, hb, hml, hown, hts, hX, hbl, hL, hK, hE⟩ := C0
  have hbA : ¬ (fun z => s.heap.size ≤ z) b := Nat.not_le.mpr hbl
  have hA : ∀ z : Nat, s.heap.size ≤ z → (fun z => s.heap.size ≤ z) z := fun _ h => h
  refine lv_aload_n hx hb dL_law_837 rfl (lv_at hl 1 rfl) ?_
  refine lv_aload_n hx hb dL_law_838 rfl (lv_at hl 0 rfl) ?_
  refine lv_iload hx hb dL_law_839 (lv_at hl 4 rfl) ?_
  refine lv_iconst (v := nI 1) hx hb dL_law_841 (by decide) ?_
  refine lv_iadd hx hb dL_law_842 ?_
  refine cb_topi (nI_add _ _) ?_
  refine va_sld hx hb hX hbl hbA hS (i := nI ((5 * j) + 1)) (vp_in_nI (show (5 * j) + 1 < L by omega) (by omega)) dL_law_843 ?_
  refine cb_topi (z := xs ((5 * j) + 1)) (congrArg xs (tn (by omega))) ?_
  refine lv_aload_n hx hb dL_law_844 rfl (lv_at hl 3 rfl) ?_
  have hPc := hP.sub (ws' := (cb_w a k S ++ [(q, .inl (kq, (1, .inr (.inl (f)))))])) [0, 1, 2, 3, 4, 5, 6, 7, 8, 9, 10, 11, 12, 13, 14, 15, 16, 17, 18, 19, 35] rfl
  have hDc := hD.sub (ws' := (cb_w a k S ++ [(q, .inl (kq, (1, .inr (.inl (f)))))])) [0, 1, 2, 3, 4, 5, 6, 7, 8, 9, 10, 11, 12, 13, 14, 15, 16, 17, 18, 19, 35] (by decide) rfl
  have hKc := hK.sub (tys' := (cb_ty k ++ [(kq, .long)])) [0, 1, 2, 3, 4, 5, 6, 7, 8, 9, 10, 11, 12, 13, 28] rfl
  have hF : ∀ z, va_A (cb_w a k S ++ [(q, .inl (kq, (1, .inr (.inl (f)))))]) H.size z → s.heap.size ≤ z := va_free hD hS hA [0, 1, 2, 3, 4, 5, 6, 7, 8, 9, 10, 11, 12, 13, 14, 15, 16, 17, 18, 19, 35] rfl
  refine va_calli (vx_runSW (As := [.ref (a 0), .int (xs ((5 * j) + 1)), .ref q]) (rest := []) ⟨hx, hb, hml, hown, hts⟩ (c_L_addFood l hl9 dC dI a k S q kq f H.size (xs ((5 * j) + 1)) hI) (vx_cwSW 3 hts gL_law_L_addFood rfl rfl rfl (by decide +kernel) ⟨(Nat.le_of_ble_eq_true rfl), (Nat.le_of_ble_eq_true rfl)⟩) ⟨cV_blind, fun U hU hW => ⟨rfl, cV_of hKc hPc hDc hE hS hU hW hF⟩⟩ rfl rfl hl.1 rfl (lv_room (Nat.le_of_ble_eq_true rfl)) dL_law_845 ⟨(by show cells + 8 ≤ room_1.cells; exact Nat.le_trans (by omega) rm_c), (by show slots + 48 ≤ room_1.slots; exact Nat.le_trans (by omega) rm_s)⟩) hS (fun z _ h => hF z h) hF (fun r8 f8 t8 H1 L1 ht hvm hw hB hz1 hk1 hS => ?_)
  obtain ⟨hr8, hf8⟩ := hw
  subst hr8
  obtain ⟨hP9, -, hD9⟩ := hB
  rw [ht] at hP9
  obtain ⟨hP8, hD8⟩ := va_join (wc := (cb_w a k S ++ [(q, .inl (kq, (1, .inr (.inl (f)))))])) (wr := (mb_w am km S th)) hP hD [0, 1, 2, 3, 4, 5, 6, 7, 8, 9, 10, 11, 12, 13, 14, 15, 16, 17, 18, 19, 35] [20, 21, 22, 23, 24, 25, 26, 27, 28, 29, 30, 31, 32, 33, 34] rfl rfl (by decide) (by decide) hk1 hF hP9 hD9
  have hP : va_P (dC, dI) vwCl (cb_w a k (kS (k_addFood S (xs ((5 * j) + 1))) (S_addFood S (xs ((5 * j) + 1))) S) ++ (mb_w am km S th ++ [(q, .inl (kq, (1, .inr (.inl (f8)))))])) H1 := hP8.sub [15, 16, 17, 18, 19, 20, 21, 22, 23, 24, 25, 26, 27, 28, 29, 30, 31, 32, 33, 34, 0, 1, 2, 3, 4, 5, 6, 7, 8, 9, 10, 11, 12, 13, 14, 35] rfl
  have hD : va_D (fun z => s.heap.size ≤ z) (cb_w a k (kS (k_addFood S (xs ((5 * j) + 1))) (S_addFood S (xs ((5 * j) + 1))) S) ++ (mb_w am km S th ++ [(q, .inl (kq, (1, .inr (.inl (f8)))))])) := hD8.sub [15, 16, 17, 18, 19, 20, 21, 22, 23, 24, 25, 26, 27, 28, 29, 30, 31, 32, 33, 34, 0, 1, 2, 3, 4, 5, 6, 7, 8, 9, 10, 11, 12, 13, 14, 35] (by decide) rfl
  refine lv_istore (lv' := [(5, .int (nI (k_addFood S (xs ((5 * j) + 1))))), (0, .ref b), (1, .ref (a 0)), (2, .ref (am 0)), (3, .ref q), (4, .int (nI (5 * j)))]) hx hb dL_law_848 hl (by decide) rfl (fun ls hl => ?_)
  refine lv_aload_n hx hb dL_law_850 rfl (lv_at hl 3 rfl) ?_
  refine lv_aload_n hx hb dL_law_851 rfl (lv_at hl 1 rfl) ?_
  refine lv_iload hx hb dL_law_852 (lv_at hl 5 rfl) ?_
  refine lv_iconst (v := nI 1) hx hb dL_law_854 (by decide) ?_
  refine lv_iadd hx hb dL_law_855 ?_
  refine cb_topi (nI_add _ _) ?_
  refine va_sld hx hb hX hbl hbA hS (i := nI ((5 * j) + 1)) (vp_in_nI (show (5 * j) + 1 < L by omega) (by omega)) dL_law_856 ?_
  refine cb_topi (z := xs ((5 * j) + 1)) (congrArg xs (tn (by omega))) ?_
  have hPc := hP.sub (ws' := (mb_w am km S th)) [20, 21, 22, 23, 24, 25, 26, 27, 28, 29, 30, 31, 32, 33, 34] rfl
  have hDc := hD.sub (ws' := (mb_w am km S th)) [20, 21, 22, 23, 24, 25, 26, 27, 28, 29, 30, 31, 32, 33, 34] (by decide) rfl
  have hKc := hK.sub (tys' := (mb_ty km)) [14, 15, 16, 17, 18, 19, 20, 21, 22, 23, 24, 25, 26, 27] rfl
  have hF : ∀ z, va_A (mb_w am km S th) H1.size z → s.heap.size ≤ z := va_free hD hS hA [20, 21, 22, 23, 24, 25, 26, 27, 28, 29, 30, 31, 32, 33, 34] rfl
  refine va_calli (va_runV (As := [.int (xs ((5 * j) + 1))]) (rest := []) ⟨hx, hb, hml, hown, hts⟩ (c_X6_addFood l dC dI am km S th H1.size (xs ((5 * j) + 1)) hI) (cwV 1 hts gL_law_X6_addFood rfl rfl rfl (by decide +kernel) ⟨(Nat.le_of_ble_eq_true rfl), (Nat.le_of_ble_eq_true rfl)⟩) ⟨cT_blind, va_recv hKc hPc (ci := 6) (q0 := 0) rfl rfl, fun U hU hW => ⟨rfl, cT_of hKc hPc hDc hU hW⟩⟩ rfl rfl hl.1 rfl (lv_room (Nat.le_of_ble_eq_true rfl)) dL_law_857 ⟨(by show (cells + 8) + 0 ≤ room_1.cells; exact Nat.le_trans (by omega) rm_c), (by show (slots + 48) + 0 ≤ room_1.slots; exact Nat.le_trans (by omega) rm_s)⟩) hS (fun z _ h => hF z h) hF (fun r9 u9 t9 H2 L2 ht hvm hr9 hB hz1 hk1 hS => ?_)
  obtain ⟨hP9, -, hD9⟩ := hB
  rw [ht] at hP9
  obtain ⟨hP8, hD8⟩ := va_join (wc := (mb_w am km S th)) (wr := ((cb_w a k (kS (k_addFood S (xs ((5 * j) + 1))) (S_addFood S (xs ((5 * j) + 1))) S)) ++ [(q, .inl (kq, (1, .inr (.inl (f8)))))])) hP hD [20, 21, 22, 23, 24, 25, 26, 27, 28, 29, 30, 31, 32, 33, 34] [0, 1, 2, 3, 4, 5, 6, 7, 8, 9, 10, 11, 12, 13, 14, 15, 16, 17, 18, 19, 35] rfl rfl (by decide) (by decide) hk1 hF hP9 hD9
  have hP : va_P (dC, dI) vwCl (cb_w a k (kS (k_addFood S (xs ((5 * j) + 1))) (S_addFood S (xs ((5 * j) + 1))) S) ++ (mb_w am km (kS (k_addFood S (xs ((5 * j) + 1))) (S_addFood S (xs ((5 * j) + 1))) S) (k_addFood S (xs ((5 * j) + 1))) ++ [(q, .inl (kq, (1, .inr (.inl (f8)))))])) H2 := hP8.sub [0, 1, 2, 3, 4, 5, 6, 7, 8, 9, 10, 11, 12, 13, 14, 15, 16, 17, 18, 19, 21, 22, 23, 24, 25, 26, 27, 28, 29, 30, 31, 32, 33, 34, 35, 20] rfl
  have hD : va_D (fun z => s.heap.size ≤ z) (cb_w a k (kS (k_addFood S (xs ((5 * j) + 1))) (S_addFood S (xs ((5 * j) + 1))) S) ++ (mb_w am km (kS (k_addFood S (xs ((5 * j) + 1))) (S_addFood S (xs ((5 * j) + 1))) S) (k_addFood S (xs ((5 * j) + 1))) ++ [(q, .inl (kq, (1, .inr (.inl (f8)))))])) := hD8.sub [0, 1, 2, 3, 4, 5, 6, 7, 8, 9, 10, 11, 12, 13, 14, 15, 16, 17, 18, 19, 21, 22, 23, 24, 25, 26, 27, 28, 29, 30, 31, 32, 33, 34, 35, 20] (by decide) rfl
  refine lv_istore (lv' := [(6, .int r9), (5, .int (nI (k_addFood S (xs ((5 * j) + 1))))), (0, .ref b), (1, .ref (a 0)), (2, .ref (am 0)), (3, .ref q), (4, .int (nI (5 * j)))]) hx hb dL_law_860 hl (by decide) rfl (fun ls hl => ?_)
  refine lv_aload_n hx hb dL_law_862 rfl (lv_at hl 4 rfl) ?_
  have hPc := hP.sub (ws' := (mb_w am km (kS (k_addFood S (xs ((5 * j) + 1))) (S_addFood S (xs ((5 * j) + 1))) S) (k_addFood S (xs ((5 * j) + 1))))) [20, 21, 22, 23, 24, 25, 26, 27, 28, 29, 30, 31, 32, 33, 34] rfl
  have hDc := hD.sub (ws' := (mb_w am km (kS (k_addFood S (xs ((5 * j) + 1))) (S_addFood S (xs ((5 * j) + 1))) S) (k_addFood S (xs ((5 * j) + 1))))) [20, 21, 22, 23, 24, 25, 26, 27, 28, 29, 30, 31, 32, 33, 34] (by decide) rfl
  have hKc := hK.sub (tys' := (mb_ty km)) [14, 15, 16, 17, 18, 19, 20, 21, 22, 23, 24, 25, 26, 27] rfl
  refine vp_callSi (W.runV (As := []) (rest := []) ⟨hx, hb, hml, hown, hts⟩ (c_X6_thrown l dC dI am km (kS (k_addFood S (xs ((5 * j) + 1))) (S_addFood S (xs ((5 * j) + 1))) S) (k_addFood S (xs ((5 * j) + 1)))) (cwV 0 hts gL_law_X6_thrown rfl rfl rfl (by decide +kernel) ⟨(Nat.le_of_ble_eq_true rfl), (Nat.le_of_ble_eq_true rfl)⟩) ⟨cR_blind, va_recv hKc hPc (ci := 6) (q0 := 0) rfl rfl, fun U hU hW => ⟨rfl, cR_of hKc hPc hU hW⟩⟩ rfl rfl hl.1 rfl (lv_room (Nat.le_of_ble_eq_true rfl)) dL_law_863 ⟨(by show ((cells + 8) + 0) + 0 ≤ room_1.cells; exact Nat.le_trans (by omega) rm_c), (by show ((slots + 48) + 0) + 0 ≤ room_1.slots; exact Nat.le_trans (by omega) rm_s)⟩) (fun r er => ?_)
  subst er
  refine lv_iload hx hb dL_law_866 (lv_at hl 1 rfl) ?_
  refine lv_icmp_eq (tgt := 873) hx hb dL_law_868 (by decide) (fun c_868 => ?_) (fun c_868 => ?_)
  · skip
    refine lv_iload hx hb dL_law_873 (lv_at hl 1 rfl) ?_
    refine lv_if_ne (tgt := 890) hx hb dL_law_875 (by decide) (fun c_875 => ?_) (fun c_875 => ?_)
    · skip
      refine lv_goto (tgt := 2067) hx hb dL_law_890 (by decide) ?_
      refine W.widen (k := cells + 231) (n := slots + 1597) (by omega) (by omega) ?_
      exact kk (kS (k_addFood S (xs ((5 * j) + 1))) (S_addFood S (xs ((5 * j) + 1))) S) (k_addFood S (xs ((5 * j) + 1))) f8 H2 _ ls (inv_kS hI (fun h9 => inv_addFood hI h9)) hP hD hS (lv_sub hl [2, 3, 4, 5, 6] rfl)
    · skip
      have h0 := kz kb_addFood c_875
      refine lv_aload_n hx hb dL_law_878 rfl (lv_at hl 5 rfl) ?_
      refine lv_iconst (v := nI 0) hx hb dL_law_879 (by decide) ?_
      refine cb_lald hx hb hK hP 35 28 (f := f8) rfl rfl (j := 0) (by omega) (Nat.le_of_ble_eq_true rfl) dL_law_880 ?_
      refine lv_iload hx hb dL_law_881 (lv_at hl 0 rfl) ?_
      refine lv_i2l hx hb dL_law_883 rfl ?_
      refine W.lcmp hx hb dL_law_884 ?_
      refine lv_if_eq (tgt := 890) hx hb dL_law_885 (by decide) (fun c_885 => ?_) (fun c_885 => ?_)
      · have c_885 : (f8 0) = r9.toInt64 := lg_cmp_t c_885
        refine lv_goto (tgt := 2067) hx hb dL_law_890 (by decide) ?_
        refine W.widen (k := cells + 231) (n := slots + 1597) (by omega) (by omega) ?_
        exact kk (kS (k_addFood S (xs ((5 * j) + 1))) (S_addFood S (xs ((5 * j) + 1))) S) (k_addFood S (xs ((5 * j) + 1))) f8 H2 _ ls (inv_kS hI (fun h9 => inv_addFood hI h9)) hP hD hS (lv_sub hl [2, 3, 4, 5, 6] rfl)
      · have c_885 : ¬ (f8 0) = r9.toInt64 := lg_cmp_f c_885
        exact absurd (by rw [hf8 h0, hr9 h0]) c_885
  · skip
    exact absurd rfl c_868
theorem kb_buy {S : cs_S} {x0 : Int32} {x1 : Int32} : k_buy S x0 x1 < 4 := by unfold k_buy; (repeat' split) <;> decide
set_option maxHeartbeats 4000000 in
set_option maxRecDepth 100000 in
theorem lc_buy {p : Program} {l : Launch} {e : Env} {s : State} {m : MethodId} {below : List Frame} {meth : Method} {c : Code} {b L : Nat} {xs : Nat → Int32} {dC : Nat → ClassId} {dI : Nat → Nat → Nat} {a : Nat → Nat} {k : Nat → ClassId} {am : Nat → Nat} {km : Nat → ClassId} {q : Nat} {kq : ClassId} (hl9 : l.stackTraces = false) (C0 : LC p s m c b L xs dC dI k km kq) {S : cs_S} {th : Nat} {f : Nat → Int64} {H : Heap} {locs : List Loc} {j : Nat} {ls : Array Slot} {cells slots : Nat} {Q : State → Prop} (hI : Inv S) (hP : va_P (dC, dI) vwCl (cb_w a k S ++ (mb_w am km S th ++ [(q, .inl (kq, (1, .inr (.inl (f)))))])) H) (hD : va_D (fun z => s.heap.size ≤ z) (cb_w a k S ++ (mb_w am km S th ++ [(q, .inl (kq, (1, .inr (.inl (f)))))]))) (hS : va_S (fun z => s.heap.size ≤ z) s.heap H locs) (hj : 5 * j + 5 ≤ L) (hl : lv_has ls 9 [(0, .ref b), (1, .ref (a 0)), (2, .ref (am 0)), (3, .ref q), (4, .int (nI (5 * j)))]) (hc : cells + 231 ≤ 200000) (hs : slots + 1597 ≤ 2000000) (kk : KK p l e s m below meth c b dC dI a k am km q kq j cells slots Q) : W p l e room_1 s m #[Value.ref b] below meth c H locs cells slots Q (F0 m 893 ls []) := by
  obtain ⟨hx, hb, hml, hown, hts, hX, hbl, hL, hK, hE⟩ := C0
  have hbA : ¬ (fun z => s.heap.size ≤ z) b := Nat.not_le.mpr hbl
  have hA : ∀ z : Nat, s.heap.size ≤ z → (fun z => s.heap.size ≤ z) z := fun _ h => h
  refine lv_aload_n hx hb dL_law_893 rfl (lv_at hl 1 rfl) ?_
  refine lv_aload_n hx hb dL_law_894 rfl (lv_at hl 0 rfl) ?_
  refine lv_iload hx hb dL_law_895 (lv_at hl 4 rfl) ?_
  refine lv_iconst (v := nI 1) hx hb dL_law_897 (by decide) ?_
  refine lv_iadd hx hb dL_law_898 ?_
  refine cb_topi (nI_add _ _) ?_
  refine va_sld hx hb hX hbl hbA hS (i := nI ((5 * j) + 1)) (vp_in_nI (show (5 * j) + 1 < L by omega) (by omega)) dL_law_899 ?_
  refine cb_topi (z := xs ((5 * j) + 1)) (congrArg xs (tn (by omega))) ?_
  refine lv_aload_n hx hb dL_law_900 rfl (lv_at hl 0 rfl) ?_
  refine lv_iload hx hb dL_law_901 (lv_at hl 4 rfl) ?_
  refine lv_iconst (v := nI 2) hx hb dL_law_903 (by decide) ?_
  refine lv_iadd hx hb dL_law_904 ?_
  refine cb_topi (nI_add _ _) ?_
  refine va_sld hx hb hX hbl hbA hS (i := nI ((5 * j) + 2)) (vp_in_nI (show (5 * j) + 2 < L by omega) (by omega)) dL_law_905 ?_
  refine cb_topi (z := xs ((5 * j) + 2)) (congrArg xs (tn (by omega))) ?_
  refine lv_aload_n hx hb dL_law_906 rfl (lv_at hl 3 rfl) ?_
  have hPc := hP.sub (ws' := (cb_w a k S ++ [(q, .inl (kq, (1, .inr (.inl (f)))))])) [0, 1, 2, 3, 4, 5, 6, 7, 8, 9, 10, 11, 12, 13, 14, 15, 16, 17, 18, 19, 35] rfl
  have hDc := hD.sub (ws' := (cb_w a k S ++ [(q, .inl (kq, (1, .inr (.inl (f)))))])) [0, 1, 2, 3, 4, 5, 6, 7, 8, 9, 10, 11, 12, 13, 14, 15, 16, 17, 18, 19, 35] (by decide) rfl
  have hKc := hK.sub (tys' := (cb_ty k ++ [(kq, .long)])) [0, 1, 2, 3, 4, 5, 6, 7, 8, 9, 10, 11, 12, 13, 28] rfl
  have hF : ∀ z, va_A (cb_w a k S ++ [(q, .inl (kq, (1, .inr (.inl (f)))))]) H.size z → s.heap.size ≤ z := va_free hD hS hA [0, 1, 2, 3, 4, 5, 6, 7, 8, 9, 10, 11, 12, 13, 14, 15, 16, 17, 18, 19, 35] rfl
  refine va_calli (vx_runSW (As := [.ref (a 0), .int (xs ((5 * j) + 1)), .int (xs ((5 * j) + 2)), .ref q]) (rest := []) ⟨hx, hb, hml, hown, hts⟩ (c_L_buy l hl9 dC dI a k S q kq f H.size (xs ((5 * j) + 1)) (xs ((5 * j) + 2)) hI) (vx_cwSW 4 hts gL_law_L_buy rfl rfl rfl (by decide +kernel) ⟨(Nat.le_of_ble_eq_true rfl), (Nat.le_of_ble_eq_true rfl)⟩) ⟨cV_blind, fun U hU hW => ⟨rfl, cV_of hKc hPc hDc hE hS hU hW hF⟩⟩ rfl rfl hl.1 rfl (lv_room (Nat.le_of_ble_eq_true rfl)) dL_law_907 ⟨(by show cells + 8 ≤ room_1.cells; exact Nat.le_trans (by omega) rm_c), (by show slots + 48 ≤ room_1.slots; exact Nat.le_trans (by omega) rm_s)⟩) hS (fun z _ h => hF z h) hF (fun r8 f8 t8 H1 L1 ht hvm hw hB hz1 hk1 hS => ?_)
  obtain ⟨hr8, hf8⟩ := hw
  subst hr8
  obtain ⟨hP9, -, hD9⟩ := hB
  rw [ht] at hP9
  obtain ⟨hP8, hD8⟩ := va_join (wc := (cb_w a k S ++ [(q, .inl (kq, (1, .inr (.inl (f)))))])) (wr := (mb_w am km S th)) hP hD [0, 1, 2, 3, 4, 5, 6, 7, 8, 9, 10, 11, 12, 13, 14, 15, 16, 17, 18, 19, 35] [20, 21, 22, 23, 24, 25, 26, 27, 28, 29, 30, 31, 32, 33, 34] rfl rfl (by decide) (by decide) hk1 hF hP9 hD9
  have hP : va_P (dC, dI) vwCl (cb_w a k (kS (k_buy S (xs ((5 * j) + 1)) (xs ((5 * j) + 2))) (S_buy S (xs ((5 * j) + 1)) (xs ((5 * j) + 2))) S) ++ (mb_w am km S th ++ [(q, .inl (kq, (1, .inr (.inl (f8)))))])) H1 := hP8.sub [15, 16, 17, 18, 19, 20, 21, 22, 23, 24, 25, 26, 27, 28, 29, 30, 31, 32, 33, 34, 0, 1, 2, 3, 4, 5, 6, 7, 8, 9, 10, 11, 12, 13, 14, 35] rfl
  have hD : va_D (fun z => s.heap.size ≤ z) (cb_w a k (kS (k_buy S (xs ((5 * j) + 1)) (xs ((5 * j) + 2))) (S_buy S (xs ((5 * j) + 1)) (xs ((5 * j) + 2))) S) ++ (mb_w am km S th ++ [(q, .inl (kq, (1, .inr (.inl (f8)))))])) := hD8.sub [15, 16, 17, 18, 19, 20, 21, 22, 23, 24, 25, 26, 27, 28, 29, 30, 31, 32, 33, 34, 0, 1, 2, 3, 4, 5, 6, 7, 8, 9, 10, 11, 12, 13, 14, 35] (by decide) rfl
  refine lv_istore (lv' := [(5, .int (nI (k_buy S (xs ((5 * j) + 1)) (xs ((5 * j) + 2))))), (0, .ref b), (1, .ref (a 0)), (2, .ref (am 0)), (3, .ref q), (4, .int (nI (5 * j)))]) hx hb dL_law_910 hl (by decide) rfl (fun ls hl => ?_)
  refine lv_aload_n hx hb dL_law_912 rfl (lv_at hl 3 rfl) ?_
  refine lv_aload_n hx hb dL_law_913 rfl (lv_at hl 1 rfl) ?_
  refine lv_iload hx hb dL_law_914 (lv_at hl 5 rfl) ?_
  refine lv_iconst (v := nI 1) hx hb dL_law_916 (by decide) ?_
  refine lv_iadd hx hb dL_law_917 ?_
  refine cb_topi (nI_add _ _) ?_
  refine va_sld hx hb hX hbl hbA hS (i := nI ((5 * j) + 1)) (vp_in_nI (show (5 * j) + 1 < L by omega) (by omega)) dL_law_918 ?_
  refine cb_topi (z := xs ((5 * j) + 1)) (congrArg xs (tn (by omega))) ?_
  refine lv_aload_n hx hb dL_law_919 rfl (lv_at hl 1 rfl) ?_
  refine lv_iload hx hb dL_law_920 (lv_at hl 5 rfl) ?_
  refine lv_iconst (v := nI 2) hx hb dL_law_922 (by decide) ?_
  refine lv_iadd hx hb dL_law_923 ?_
  refine cb_topi (nI_add _ _) ?_
  refine va_sld hx hb hX hbl hbA hS (i := nI ((5 * j) + 2)) (vp_in_nI (show (5 * j) + 2 < L by omega) (by omega)) dL_law_924 ?_
  refine cb_topi (z := xs ((5 * j) + 2)) (congrArg xs (tn (by omega))) ?_
  have hPc := hP.sub (ws' := (mb_w am km S th)) [20, 21, 22, 23, 24, 25, 26, 27, 28, 29, 30, 31, 32, 33, 34] rfl
  have hDc := hD.sub (ws' := (mb_w am km S th)) [20, 21, 22, 23, 24, 25, 26, 27, 28, 29, 30, 31, 32, 33, 34] (by decide) rfl
  have hKc := hK.sub (tys' := (mb_ty km)) [14, 15, 16, 17, 18, 19, 20, 21, 22, 23, 24, 25, 26, 27] rfl
  have hF : ∀ z, va_A (mb_w am km S th) H1.size z → s.heap.size ≤ z := va_free hD hS hA [20, 21, 22, 23, 24, 25, 26, 27, 28, 29, 30, 31, 32, 33, 34] rfl
  refine va_calli (va_runV (As := [.int (xs ((5 * j) + 1)), .int (xs ((5 * j) + 2))]) (rest := []) ⟨hx, hb, hml, hown, hts⟩ (c_X6_buy l dC dI am km S th H1.size (xs ((5 * j) + 1)) (xs ((5 * j) + 2)) hI) (cwV 2 hts gL_law_X6_buy rfl rfl rfl (by decide +kernel) ⟨(Nat.le_of_ble_eq_true rfl), (Nat.le_of_ble_eq_true rfl)⟩) ⟨cT_blind, va_recv hKc hPc (ci := 6) (q0 := 0) rfl rfl, fun U hU hW => ⟨rfl, cT_of hKc hPc hDc hU hW⟩⟩ rfl rfl hl.1 rfl (lv_room (Nat.le_of_ble_eq_true rfl)) dL_law_925 ⟨(by show (cells + 8) + 0 ≤ room_1.cells; exact Nat.le_trans (by omega) rm_c), (by show (slots + 48) + 0 ≤ room_1.slots; exact Nat.le_trans (by omega) rm_s)⟩) hS (fun z _ h => hF z h) hF (fun r9 u9 t9 H2 L2 ht hvm hr9 hB hz1 hk1 hS => ?_)
  obtain ⟨hP9, -, hD9⟩ := hB
  rw [ht] at hP9
  obtain ⟨hP8, hD8⟩ := va_join (wc := (mb_w am km S th)) (wr := ((cb_w a k (kS (k_buy S (xs ((5 * j) + 1)) (xs ((5 * j) + 2))) (S_buy S (xs ((5 * j) + 1)) (xs ((5 * j) + 2))) S)) ++ [(q, .inl (kq, (1, .inr (.inl (f8)))))])) hP hD [20, 21, 22, 23, 24, 25, 26, 27, 28, 29, 30, 31, 32, 33, 34] [0, 1, 2, 3, 4, 5, 6, 7, 8, 9, 10, 11, 12, 13, 14, 15, 16, 17, 18, 19, 35] rfl rfl (by decide) (by decide) hk1 hF hP9 hD9
  have hP : va_P (dC, dI) vwCl (cb_w a k (kS (k_buy S (xs ((5 * j) + 1)) (xs ((5 * j) + 2))) (S_buy S (xs ((5 * j) + 1)) (xs ((5 * j) + 2))) S) ++ (mb_w am km (kS (k_buy S (xs ((5 * j) + 1)) (xs ((5 * j) + 2))) (S_buy S (xs ((5 * j) + 1)) (xs ((5 * j) + 2))) S) (k_buy S (xs ((5 * j) + 1)) (xs ((5 * j) + 2))) ++ [(q, .inl (kq, (1, .inr (.inl (f8)))))])) H2 := hP8.sub [0, 1, 2, 3, 4, 5, 6, 7, 8, 9, 10, 11, 12, 13, 14, 15, 16, 17, 18, 19, 21, 22, 23, 24, 25, 26, 27, 28, 29, 30, 31, 32, 33, 34, 35, 20] rfl
  have hD : va_D (fun z => s.heap.size ≤ z) (cb_w a k (kS (k_buy S (xs ((5 * j) + 1)) (xs ((5 * j) + 2))) (S_buy S (xs ((5 * j) + 1)) (xs ((5 * j) + 2))) S) ++ (mb_w am km (kS (k_buy S (xs ((5 * j) + 1)) (xs ((5 * j) + 2))) (S_buy S (xs ((5 * j) + 1)) (xs ((5 * j) + 2))) S) (k_buy S (xs ((5 * j) + 1)) (xs ((5 * j) + 2))) ++ [(q, .inl (kq, (1, .inr (.inl (f8)))))])) := hD8.sub [0, 1, 2, 3, 4, 5, 6, 7, 8, 9, 10, 11, 12, 13, 14, 15, 16, 17, 18, 19, 21, 22, 23, 24, 25, 26, 27, 28, 29, 30, 31, 32, 33, 34, 35, 20] (by decide) rfl
  refine lv_istore (lv' := [(6, .int r9), (5, .int (nI (k_buy S (xs ((5 * j) + 1)) (xs ((5 * j) + 2))))), (0, .ref b), (1, .ref (a 0)), (2, .ref (am 0)), (3, .ref q), (4, .int (nI (5 * j)))]) hx hb dL_law_928 hl (by decide) rfl (fun ls hl => ?_)
  refine lv_aload_n hx hb dL_law_930 rfl (lv_at hl 4 rfl) ?_
  have hPc := hP.sub (ws' := (mb_w am km (kS (k_buy S (xs ((5 * j) + 1)) (xs ((5 * j) + 2))) (S_buy S (xs ((5 * j) + 1)) (xs ((5 * j) + 2))) S) (k_buy S (xs ((5 * j) + 1)) (xs ((5 * j) + 2))))) [20, 21, 22, 23, 24, 25, 26, 27, 28, 29, 30, 31, 32, 33, 34] rfl
  have hDc := hD.sub (ws' := (mb_w am km (kS (k_buy S (xs ((5 * j) + 1)) (xs ((5 * j) + 2))) (S_buy S (xs ((5 * j) + 1)) (xs ((5 * j) + 2))) S) (k_buy S (xs ((5 * j) + 1)) (xs ((5 * j) + 2))))) [20, 21, 22, 23, 24, 25, 26, 27, 28, 29, 30, 31, 32, 33, 34] (by decide) rfl
  have hKc := hK.sub (tys' := (mb_ty km)) [14, 15, 16, 17, 18, 19, 20, 21, 22, 23, 24, 25, 26, 27] rfl
  refine vp_callSi (W.runV (As := []) (rest := []) ⟨hx, hb, hml, hown, hts⟩ (c_X6_thrown l dC dI am km (kS (k_buy S (xs ((5 * j) + 1)) (xs ((5 * j) + 2))) (S_buy S (xs ((5 * j) + 1)) (xs ((5 * j) + 2))) S) (k_buy S (xs ((5 * j) + 1)) (xs ((5 * j) + 2)))) (cwV 0 hts gL_law_X6_thrown rfl rfl rfl (by decide +kernel) ⟨(Nat.le_of_ble_eq_true rfl), (Nat.le_of_ble_eq_true rfl)⟩) ⟨cR_blind, va_recv hKc hPc (ci := 6) (q0 := 0) rfl rfl, fun U hU hW => ⟨rfl, cR_of hKc hPc hU hW⟩⟩ rfl rfl hl.1 rfl (lv_room (Nat.le_of_ble_eq_true rfl)) dL_law_931 ⟨(by show ((cells + 8) + 0) + 0 ≤ room_1.cells; exact Nat.le_trans (by omega) rm_c), (by show ((slots + 48) + 0) + 0 ≤ room_1.slots; exact Nat.le_trans (by omega) rm_s)⟩) (fun r er => ?_)
  subst er
  refine lv_iload hx hb dL_law_934 (lv_at hl 1 rfl) ?_
  refine lv_icmp_eq (tgt := 941) hx hb dL_law_936 (by decide) (fun c_936 => ?_) (fun c_936 => ?_)
  · skip
    refine lv_iload hx hb dL_law_941 (lv_at hl 1 rfl) ?_
    refine lv_if_ne (tgt := 958) hx hb dL_law_943 (by decide) (fun c_943 => ?_) (fun c_943 => ?_)
    · skip
      refine lv_goto (tgt := 2067) hx hb dL_law_958 (by decide) ?_
      refine W.widen (k := cells + 231) (n := slots + 1597) (by omega) (by omega) ?_
      exact kk (kS (k_buy S (xs ((5 * j) + 1)) (xs ((5 * j) + 2))) (S_buy S (xs ((5 * j) + 1)) (xs ((5 * j) + 2))) S) (k_buy S (xs ((5 * j) + 1)) (xs ((5 * j) + 2))) f8 H2 _ ls (inv_kS hI (fun h9 => inv_buy hI)) hP hD hS (lv_sub hl [2, 3, 4, 5, 6] rfl)
    · skip
      have h0 := kz kb_buy c_943
      refine lv_aload_n hx hb dL_law_946 rfl (lv_at hl 5 rfl) ?_
      refine lv_iconst (v := nI 0) hx hb dL_law_947 (by decide) ?_
      refine cb_lald hx hb hK hP 35 28 (f := f8) rfl rfl (j := 0) (by omega) (Nat.le_of_ble_eq_true rfl) dL_law_948 ?_
      refine lv_iload hx hb dL_law_949 (lv_at hl 0 rfl) ?_
      refine lv_i2l hx hb dL_law_951 rfl ?_
      refine W.lcmp hx hb dL_law_952 ?_
      refine lv_if_eq (tgt := 958) hx hb dL_law_953 (by decide) (fun c_953 => ?_) (fun c_953 => ?_)
      · have c_953 : (f8 0) = r9.toInt64 := lg_cmp_t c_953
        refine lv_goto (tgt := 2067) hx hb dL_law_958 (by decide) ?_
        refine W.widen (k := cells + 231) (n := slots + 1597) (by omega) (by omega) ?_
        exact kk (kS (k_buy S (xs ((5 * j) + 1)) (xs ((5 * j) + 2))) (S_buy S (xs ((5 * j) + 1)) (xs ((5 * j) + 2))) S) (k_buy S (xs ((5 * j) + 1)) (xs ((5 * j) + 2))) f8 H2 _ ls (inv_kS hI (fun h9 => inv_buy hI)) hP hD hS (lv_sub hl [2, 3, 4, 5, 6] rfl)
      · have c_953 : ¬ (f8 0) = r9.toInt64 := lg_cmp_f c_953
        exact absurd (by rw [hf8 h0, hr9 h0]) c_953
  · skip
    exact absurd rfl c_936
theorem kb_store {S : cs_S} {x0 : Int32} : k_store S x0 < 4 := by unfold k_store; (repeat' split) <;> decide
set_option maxHeartbeats 4000000 in
set_option maxRecDepth 100000 in
theorem lc_store {p : Program} {l : Launch} {e : Env} {s : State} {m : MethodId} {below : List Frame} {meth : Method} {c : Code} {b L : Nat} {xs : Nat → Int32} {dC : Nat → ClassId} {dI : Nat → Nat → Nat} {a : Nat → Nat} {k : Nat → ClassId} {am : Nat → Nat} {km : Nat → ClassId} {q : Nat} {kq : ClassId} (hl9 : l.stackTraces = false) (C0 : LC p s m c b L xs dC dI k km kq) {S : cs_S} {th : Nat} {f : Nat → Int64} {H : Heap} {locs : List Loc} {j : Nat} {ls : Array Slot} {cells slots : Nat} {Q : State → Prop} (hI : Inv S) (hP : va_P (dC, dI) vwCl (cb_w a k S ++ (mb_w am km S th ++ [(q, .inl (kq, (1, .inr (.inl (f)))))])) H) (hD : va_D (fun z => s.heap.size ≤ z) (cb_w a k S ++ (mb_w am km S th ++ [(q, .inl (kq, (1, .inr (.inl (f)))))]))) (hS : va_S (fun z => s.heap.size ≤ z) s.heap H locs) (hj : 5 * j + 5 ≤ L) (hl : lv_has ls 9 [(0, .ref b), (1, .ref (a 0)), (2, .ref (am 0)), (3, .ref q), (4, .int (nI (5 * j)))]) (hc : cells + 231 ≤ 200000) (hs : slots + 1597 ≤ 2000000) (kk : KK p l e s m below meth c b dC dI a k am km q kq j cells slots Q) : W p l e room_1 s m #[Value.ref b] below meth c H locs cells slots Q (F0 m 961 ls []) := by
  obtain ⟨hx, hb, hml, hown, hts, hX, hbl, hL, hK, hE⟩ := C0
  have hbA : ¬ (fun z => s.heap.size ≤ z) b := Nat.not_le.mpr hbl
  have hA : ∀ z : Nat, s.heap.size ≤ z → (fun z => s.heap.size ≤ z) z := fun _ h => h
  refine lv_aload_n hx hb dL_law_961 rfl (lv_at hl 1 rfl) ?_
  refine lv_aload_n hx hb dL_law_962 rfl (lv_at hl 0 rfl) ?_
  refine lv_iload hx hb dL_law_963 (lv_at hl 4 rfl) ?_
  refine lv_iconst (v := nI 1) hx hb dL_law_965 (by decide) ?_
  refine lv_iadd hx hb dL_law_966 ?_
  refine cb_topi (nI_add _ _) ?_
  refine va_sld hx hb hX hbl hbA hS (i := nI ((5 * j) + 1)) (vp_in_nI (show (5 * j) + 1 < L by omega) (by omega)) dL_law_967 ?_
  refine cb_topi (z := xs ((5 * j) + 1)) (congrArg xs (tn (by omega))) ?_
  refine lv_aload_n hx hb dL_law_968 rfl (lv_at hl 3 rfl) ?_
  have hPc := hP.sub (ws' := (cb_w a k S ++ [(q, .inl (kq, (1, .inr (.inl (f)))))])) [0, 1, 2, 3, 4, 5, 6, 7, 8, 9, 10, 11, 12, 13, 14, 15, 16, 17, 18, 19, 35] rfl
  have hDc := hD.sub (ws' := (cb_w a k S ++ [(q, .inl (kq, (1, .inr (.inl (f)))))])) [0, 1, 2, 3, 4, 5, 6, 7, 8, 9, 10, 11, 12, 13, 14, 15, 16, 17, 18, 19, 35] (by decide) rfl
  have hKc := hK.sub (tys' := (cb_ty k ++ [(kq, .long)])) [0, 1, 2, 3, 4, 5, 6, 7, 8, 9, 10, 11, 12, 13, 28] rfl
  have hF : ∀ z, va_A (cb_w a k S ++ [(q, .inl (kq, (1, .inr (.inl (f)))))]) H.size z → s.heap.size ≤ z := va_free hD hS hA [0, 1, 2, 3, 4, 5, 6, 7, 8, 9, 10, 11, 12, 13, 14, 15, 16, 17, 18, 19, 35] rfl
  refine va_calli (vx_runSW (As := [.ref (a 0), .int (xs ((5 * j) + 1)), .ref q]) (rest := []) ⟨hx, hb, hml, hown, hts⟩ (c_L_store l hl9 dC dI a k S q kq f H.size (xs ((5 * j) + 1)) hI) (vx_cwSW 3 hts gL_law_L_store rfl rfl rfl (by decide +kernel) ⟨(Nat.le_of_ble_eq_true rfl), (Nat.le_of_ble_eq_true rfl)⟩) ⟨cV_blind, fun U hU hW => ⟨rfl, cV_of hKc hPc hDc hE hS hU hW hF⟩⟩ rfl rfl hl.1 rfl (lv_room (Nat.le_of_ble_eq_true rfl)) dL_law_969 ⟨(by show cells + 8 ≤ room_1.cells; exact Nat.le_trans (by omega) rm_c), (by show slots + 48 ≤ room_1.slots; exact Nat.le_trans (by omega) rm_s)⟩) hS (fun z _ h => hF z h) hF (fun r8 f8 t8 H1 L1 ht hvm hw hB hz1 hk1 hS => ?_)
  obtain ⟨hr8, hf8⟩ := hw
  subst hr8
  obtain ⟨hP9, -, hD9⟩ := hB
  rw [ht] at hP9
  obtain ⟨hP8, hD8⟩ := va_join (wc := (cb_w a k S ++ [(q, .inl (kq, (1, .inr (.inl (f)))))])) (wr := (mb_w am km S th)) hP hD [0, 1, 2, 3, 4, 5, 6, 7, 8, 9, 10, 11, 12, 13, 14, 15, 16, 17, 18, 19, 35] [20, 21, 22, 23, 24, 25, 26, 27, 28, 29, 30, 31, 32, 33, 34] rfl rfl (by decide) (by decide) hk1 hF hP9 hD9
  have hP : va_P (dC, dI) vwCl (cb_w a k S ++ (mb_w am km S th ++ [(q, .inl (kq, (1, .inr (.inl (f8)))))])) H1 := hP8.sub [15, 16, 17, 18, 19, 20, 21, 22, 23, 24, 25, 26, 27, 28, 29, 30, 31, 32, 33, 34, 0, 1, 2, 3, 4, 5, 6, 7, 8, 9, 10, 11, 12, 13, 14, 35] rfl
  have hD : va_D (fun z => s.heap.size ≤ z) (cb_w a k S ++ (mb_w am km S th ++ [(q, .inl (kq, (1, .inr (.inl (f8)))))])) := hD8.sub [15, 16, 17, 18, 19, 20, 21, 22, 23, 24, 25, 26, 27, 28, 29, 30, 31, 32, 33, 34, 0, 1, 2, 3, 4, 5, 6, 7, 8, 9, 10, 11, 12, 13, 14, 35] (by decide) rfl
  refine lv_istore (lv' := [(5, .int (nI (k_store S (xs ((5 * j) + 1))))), (0, .ref b), (1, .ref (a 0)), (2, .ref (am 0)), (3, .ref q), (4, .int (nI (5 * j)))]) hx hb dL_law_972 hl (by decide) rfl (fun ls hl => ?_)
  refine lv_aload_n hx hb dL_law_974 rfl (lv_at hl 3 rfl) ?_
  refine lv_aload_n hx hb dL_law_975 rfl (lv_at hl 1 rfl) ?_
  refine lv_iload hx hb dL_law_976 (lv_at hl 5 rfl) ?_
  refine lv_iconst (v := nI 1) hx hb dL_law_978 (by decide) ?_
  refine lv_iadd hx hb dL_law_979 ?_
  refine cb_topi (nI_add _ _) ?_
  refine va_sld hx hb hX hbl hbA hS (i := nI ((5 * j) + 1)) (vp_in_nI (show (5 * j) + 1 < L by omega) (by omega)) dL_law_980 ?_
  refine cb_topi (z := xs ((5 * j) + 1)) (congrArg xs (tn (by omega))) ?_
  have hPc := hP.sub (ws' := (mb_w am km S th)) [20, 21, 22, 23, 24, 25, 26, 27, 28, 29, 30, 31, 32, 33, 34] rfl
  have hDc := hD.sub (ws' := (mb_w am km S th)) [20, 21, 22, 23, 24, 25, 26, 27, 28, 29, 30, 31, 32, 33, 34] (by decide) rfl
  have hKc := hK.sub (tys' := (mb_ty km)) [14, 15, 16, 17, 18, 19, 20, 21, 22, 23, 24, 25, 26, 27] rfl
  have hF : ∀ z, va_A (mb_w am km S th) H1.size z → s.heap.size ≤ z := va_free hD hS hA [20, 21, 22, 23, 24, 25, 26, 27, 28, 29, 30, 31, 32, 33, 34] rfl
  refine va_calli (va_runV (As := [.int (xs ((5 * j) + 1))]) (rest := []) ⟨hx, hb, hml, hown, hts⟩ (c_X6_store l dC dI am km S th H1.size (xs ((5 * j) + 1)) hI) (cwV 1 hts gL_law_X6_store rfl rfl rfl (by decide +kernel) ⟨(Nat.le_of_ble_eq_true rfl), (Nat.le_of_ble_eq_true rfl)⟩) ⟨cT_blind, va_recv hKc hPc (ci := 6) (q0 := 0) rfl rfl, fun U hU hW => ⟨rfl, cT_of hKc hPc hDc hU hW⟩⟩ rfl rfl hl.1 rfl (lv_room (Nat.le_of_ble_eq_true rfl)) dL_law_981 ⟨(by show (cells + 8) + 0 ≤ room_1.cells; exact Nat.le_trans (by omega) rm_c), (by show (slots + 48) + 0 ≤ room_1.slots; exact Nat.le_trans (by omega) rm_s)⟩) hS (fun z _ h => hF z h) hF (fun r9 u9 t9 H2 L2 ht hvm hr9 hB hz1 hk1 hS => ?_)
  obtain ⟨hP9, -, hD9⟩ := hB
  rw [ht] at hP9
  obtain ⟨hP8, hD8⟩ := va_join (wc := (mb_w am km S th)) (wr := ((cb_w a k S) ++ [(q, .inl (kq, (1, .inr (.inl (f8)))))])) hP hD [20, 21, 22, 23, 24, 25, 26, 27, 28, 29, 30, 31, 32, 33, 34] [0, 1, 2, 3, 4, 5, 6, 7, 8, 9, 10, 11, 12, 13, 14, 15, 16, 17, 18, 19, 35] rfl rfl (by decide) (by decide) hk1 hF hP9 hD9
  have hP : va_P (dC, dI) vwCl (cb_w a k S ++ (mb_w am km S (k_store S (xs ((5 * j) + 1))) ++ [(q, .inl (kq, (1, .inr (.inl (f8)))))])) H2 := hP8.sub [0, 1, 2, 3, 4, 5, 6, 7, 8, 9, 10, 11, 12, 13, 14, 15, 16, 17, 18, 19, 21, 22, 23, 24, 25, 26, 27, 28, 29, 30, 31, 32, 33, 34, 35, 20] rfl
  have hD : va_D (fun z => s.heap.size ≤ z) (cb_w a k S ++ (mb_w am km S (k_store S (xs ((5 * j) + 1))) ++ [(q, .inl (kq, (1, .inr (.inl (f8)))))])) := hD8.sub [0, 1, 2, 3, 4, 5, 6, 7, 8, 9, 10, 11, 12, 13, 14, 15, 16, 17, 18, 19, 21, 22, 23, 24, 25, 26, 27, 28, 29, 30, 31, 32, 33, 34, 35, 20] (by decide) rfl
  refine lv_istore (lv' := [(6, .int r9), (5, .int (nI (k_store S (xs ((5 * j) + 1))))), (0, .ref b), (1, .ref (a 0)), (2, .ref (am 0)), (3, .ref q), (4, .int (nI (5 * j)))]) hx hb dL_law_984 hl (by decide) rfl (fun ls hl => ?_)
  refine lv_aload_n hx hb dL_law_986 rfl (lv_at hl 4 rfl) ?_
  have hPc := hP.sub (ws' := (mb_w am km S (k_store S (xs ((5 * j) + 1))))) [20, 21, 22, 23, 24, 25, 26, 27, 28, 29, 30, 31, 32, 33, 34] rfl
  have hDc := hD.sub (ws' := (mb_w am km S (k_store S (xs ((5 * j) + 1))))) [20, 21, 22, 23, 24, 25, 26, 27, 28, 29, 30, 31, 32, 33, 34] (by decide) rfl
  have hKc := hK.sub (tys' := (mb_ty km)) [14, 15, 16, 17, 18, 19, 20, 21, 22, 23, 24, 25, 26, 27] rfl
  refine vp_callSi (W.runV (As := []) (rest := []) ⟨hx, hb, hml, hown, hts⟩ (c_X6_thrown l dC dI am km S (k_store S (xs ((5 * j) + 1)))) (cwV 0 hts gL_law_X6_thrown rfl rfl rfl (by decide +kernel) ⟨(Nat.le_of_ble_eq_true rfl), (Nat.le_of_ble_eq_true rfl)⟩) ⟨cR_blind, va_recv hKc hPc (ci := 6) (q0 := 0) rfl rfl, fun U hU hW => ⟨rfl, cR_of hKc hPc hU hW⟩⟩ rfl rfl hl.1 rfl (lv_room (Nat.le_of_ble_eq_true rfl)) dL_law_987 ⟨(by show ((cells + 8) + 0) + 0 ≤ room_1.cells; exact Nat.le_trans (by omega) rm_c), (by show ((slots + 48) + 0) + 0 ≤ room_1.slots; exact Nat.le_trans (by omega) rm_s)⟩) (fun r er => ?_)
  subst er
  refine lv_iload hx hb dL_law_990 (lv_at hl 1 rfl) ?_
  refine lv_icmp_eq (tgt := 997) hx hb dL_law_992 (by decide) (fun c_992 => ?_) (fun c_992 => ?_)
  · skip
    refine lv_iload hx hb dL_law_997 (lv_at hl 1 rfl) ?_
    refine lv_if_ne (tgt := 1014) hx hb dL_law_999 (by decide) (fun c_999 => ?_) (fun c_999 => ?_)
    · skip
      refine lv_goto (tgt := 2067) hx hb dL_law_1014 (by decide) ?_
      refine W.widen (k := cells + 231) (n := slots + 1597) (by omega) (by omega) ?_
      exact kk S (k_store S (xs ((5 * j) + 1))) f8 H2 _ ls hI hP hD hS (lv_sub hl [2, 3, 4, 5, 6] rfl)
    · skip
      have h0 := kz kb_store c_999
      refine lv_aload_n hx hb dL_law_1002 rfl (lv_at hl 5 rfl) ?_
      refine lv_iconst (v := nI 0) hx hb dL_law_1003 (by decide) ?_
      refine cb_lald hx hb hK hP 35 28 (f := f8) rfl rfl (j := 0) (by omega) (Nat.le_of_ble_eq_true rfl) dL_law_1004 ?_
      refine lv_iload hx hb dL_law_1005 (lv_at hl 0 rfl) ?_
      refine lv_i2l hx hb dL_law_1007 rfl ?_
      refine W.lcmp hx hb dL_law_1008 ?_
      refine lv_if_eq (tgt := 1014) hx hb dL_law_1009 (by decide) (fun c_1009 => ?_) (fun c_1009 => ?_)
      · have c_1009 : (f8 0) = r9.toInt64 := lg_cmp_t c_1009
        refine lv_goto (tgt := 2067) hx hb dL_law_1014 (by decide) ?_
        refine W.widen (k := cells + 231) (n := slots + 1597) (by omega) (by omega) ?_
        exact kk S (k_store S (xs ((5 * j) + 1))) f8 H2 _ ls hI hP hD hS (lv_sub hl [2, 3, 4, 5, 6] rfl)
      · have c_1009 : ¬ (f8 0) = r9.toInt64 := lg_cmp_f c_1009
        exact absurd (by rw [hf8 h0, hr9 h0]) c_1009
  · skip
    exact absurd rfl c_992
theorem kb_diet {S : cs_S} {x0 : Int32} {x1 : Int32} : k_diet S x0 x1 < 4 := by unfold k_diet; (repeat' split) <;> decide
set_option maxHeartbeats 4000000 in
set_option maxRecDepth 100000 in
theorem lc_diet {p : Program} {l : Launch} {e : Env} {s : State} {m : MethodId} {below : List Frame} {meth : Method} {c : Code} {b L : Nat} {xs : Nat → Int32} {dC : Nat → ClassId} {dI : Nat → Nat → Nat} {a : Nat → Nat} {k : Nat → ClassId} {am : Nat → Nat} {km : Nat → ClassId} {q : Nat} {kq : ClassId} (hl9 : l.stackTraces = false) (C0 : LC p s m c b L xs dC dI k km kq) {S : cs_S} {th : Nat} {f : Nat → Int64} {H : Heap} {locs : List Loc} {j : Nat} {ls : Array Slot} {cells slots : Nat} {Q : State → Prop} (hI : Inv S) (hP : va_P (dC, dI) vwCl (cb_w a k S ++ (mb_w am km S th ++ [(q, .inl (kq, (1, .inr (.inl (f)))))])) H) (hD : va_D (fun z => s.heap.size ≤ z) (cb_w a k S ++ (mb_w am km S th ++ [(q, .inl (kq, (1, .inr (.inl (f)))))]))) (hS : va_S (fun z => s.heap.size ≤ z) s.heap H locs) (hj : 5 * j + 5 ≤ L) (hl : lv_has ls 9 [(0, .ref b), (1, .ref (a 0)), (2, .ref (am 0)), (3, .ref q), (4, .int (nI (5 * j)))]) (hc : cells + 231 ≤ 200000) (hs : slots + 1597 ≤ 2000000) (kk : KK p l e s m below meth c b dC dI a k am km q kq j cells slots Q) : W p l e room_1 s m #[Value.ref b] below meth c H locs cells slots Q (F0 m 1017 ls []) := by
  obtain ⟨hx, hb, hml, hown, hts, hX, hbl, hL, hK, hE⟩ := C0
  have hbA : ¬ (fun z => s.heap.size ≤ z) b := Nat.not_le.mpr hbl
  have hA : ∀ z : Nat, s.heap.size ≤ z → (fun z => s.heap.size ≤ z) z := fun _ h => h
  refine lv_aload_n hx hb dL_law_1017 rfl (lv_at hl 1 rfl) ?_
  refine lv_aload_n hx hb dL_law_1018 rfl (lv_at hl 0 rfl) ?_
  refine lv_iload hx hb dL_law_1019 (lv_at hl 4 rfl) ?_
  refine lv_iconst (v := nI 1) hx hb dL_law_1021 (by decide) ?_
  refine lv_iadd hx hb dL_law_1022 ?_
  refine cb_topi (nI_add _ _) ?_
  refine va_sld hx hb hX hbl hbA hS (i := nI ((5 * j) + 1)) (vp_in_nI (show (5 * j) + 1 < L by omega) (by omega)) dL_law_1023 ?_
  refine cb_topi (z := xs ((5 * j) + 1)) (congrArg xs (tn (by omega))) ?_
  refine lv_aload_n hx hb dL_law_1024 rfl (lv_at hl 0 rfl) ?_
  refine lv_iload hx hb dL_law_1025 (lv_at hl 4 rfl) ?_
  refine lv_iconst (v := nI 2) hx hb dL_law_1027 (by decide) ?_
  refine lv_iadd hx hb dL_law_1028 ?_
  refine cb_topi (nI_add _ _) ?_
  refine va_sld hx hb hX hbl hbA hS (i := nI ((5 * j) + 2)) (vp_in_nI (show (5 * j) + 2 < L by omega) (by omega)) dL_law_1029 ?_
  refine cb_topi (z := xs ((5 * j) + 2)) (congrArg xs (tn (by omega))) ?_
  refine lv_aload_n hx hb dL_law_1030 rfl (lv_at hl 0 rfl) ?_
  refine lv_iload hx hb dL_law_1031 (lv_at hl 4 rfl) ?_
  refine lv_iconst (v := nI 3) hx hb dL_law_1033 (by decide) ?_
  refine lv_iadd hx hb dL_law_1034 ?_
  refine cb_topi (nI_add _ _) ?_
  refine va_sld hx hb hX hbl hbA hS (i := nI ((5 * j) + 3)) (vp_in_nI (show (5 * j) + 3 < L by omega) (by omega)) dL_law_1035 ?_
  refine cb_topi (z := xs ((5 * j) + 3)) (congrArg xs (tn (by omega))) ?_
  refine lv_if_eq (tgt := 1043) hx hb dL_law_1036 (by decide) (fun c_1036 => ?_) (fun c_1036 => ?_)
  · skip
    refine lv_iconst (v := nI 0) hx hb dL_law_1043 (by decide) ?_
    refine lv_aload_n hx hb dL_law_1044 rfl (lv_at hl 3 rfl) ?_
    have hPc := hP.sub (ws' := (cb_w a k S ++ [(q, .inl (kq, (1, .inr (.inl (f)))))])) [0, 1, 2, 3, 4, 5, 6, 7, 8, 9, 10, 11, 12, 13, 14, 15, 16, 17, 18, 19, 35] rfl
    have hDc := hD.sub (ws' := (cb_w a k S ++ [(q, .inl (kq, (1, .inr (.inl (f)))))])) [0, 1, 2, 3, 4, 5, 6, 7, 8, 9, 10, 11, 12, 13, 14, 15, 16, 17, 18, 19, 35] (by decide) rfl
    have hKc := hK.sub (tys' := (cb_ty k ++ [(kq, .long)])) [0, 1, 2, 3, 4, 5, 6, 7, 8, 9, 10, 11, 12, 13, 28] rfl
    have hF : ∀ z, va_A (cb_w a k S ++ [(q, .inl (kq, (1, .inr (.inl (f)))))]) H.size z → s.heap.size ≤ z := va_free hD hS hA [0, 1, 2, 3, 4, 5, 6, 7, 8, 9, 10, 11, 12, 13, 14, 15, 16, 17, 18, 19, 35] rfl
    refine va_calli (vx_runSW (As := [.ref (a 0), .int (xs ((5 * j) + 1)), .int (xs ((5 * j) + 2)), .int (nI 0), .ref q]) (rest := []) ⟨hx, hb, hml, hown, hts⟩ (c_L_diet l hl9 dC dI a k S q kq f H.size (xs ((5 * j) + 1)) (xs ((5 * j) + 2)) false hI) (vx_cwSW 5 hts gL_law_L_diet rfl rfl rfl (by decide +kernel) ⟨(Nat.le_of_ble_eq_true rfl), (Nat.le_of_ble_eq_true rfl)⟩) ⟨cV_blind, fun U hU hW => ⟨rfl, cV_of hKc hPc hDc hE hS hU hW hF⟩⟩ rfl rfl hl.1 rfl (lv_room (Nat.le_of_ble_eq_true rfl)) dL_law_1045 ⟨(by show cells + 8 ≤ room_1.cells; exact Nat.le_trans (by omega) rm_c), (by show slots + 48 ≤ room_1.slots; exact Nat.le_trans (by omega) rm_s)⟩) hS (fun z _ h => hF z h) hF (fun r8 f8 t8 H1 L1 ht hvm hw hB hz1 hk1 hS => ?_)
    obtain ⟨hr8, hf8⟩ := hw
    subst hr8
    obtain ⟨hP9, -, hD9⟩ := hB
    rw [ht] at hP9
    obtain ⟨hP8, hD8⟩ := va_join (wc := (cb_w a k S ++ [(q, .inl (kq, (1, .inr (.inl (f)))))])) (wr := (mb_w am km S th)) hP hD [0, 1, 2, 3, 4, 5, 6, 7, 8, 9, 10, 11, 12, 13, 14, 15, 16, 17, 18, 19, 35] [20, 21, 22, 23, 24, 25, 26, 27, 28, 29, 30, 31, 32, 33, 34] rfl rfl (by decide) (by decide) hk1 hF hP9 hD9
    have hP : va_P (dC, dI) vwCl (cb_w a k (kS (k_diet S (xs ((5 * j) + 1)) (xs ((5 * j) + 2))) (S_diet S (xs ((5 * j) + 1)) (xs ((5 * j) + 2)) false) S) ++ (mb_w am km S th ++ [(q, .inl (kq, (1, .inr (.inl (f8)))))])) H1 := hP8.sub [15, 16, 17, 18, 19, 20, 21, 22, 23, 24, 25, 26, 27, 28, 29, 30, 31, 32, 33, 34, 0, 1, 2, 3, 4, 5, 6, 7, 8, 9, 10, 11, 12, 13, 14, 35] rfl
    have hD : va_D (fun z => s.heap.size ≤ z) (cb_w a k (kS (k_diet S (xs ((5 * j) + 1)) (xs ((5 * j) + 2))) (S_diet S (xs ((5 * j) + 1)) (xs ((5 * j) + 2)) false) S) ++ (mb_w am km S th ++ [(q, .inl (kq, (1, .inr (.inl (f8)))))])) := hD8.sub [15, 16, 17, 18, 19, 20, 21, 22, 23, 24, 25, 26, 27, 28, 29, 30, 31, 32, 33, 34, 0, 1, 2, 3, 4, 5, 6, 7, 8, 9, 10, 11, 12, 13, 14, 35] (by decide) rfl
    refine lv_istore (lv' := [(5, .int (nI (k_diet S (xs ((5 * j) + 1)) (xs ((5 * j) + 2))))), (0, .ref b), (1, .ref (a 0)), (2, .ref (am 0)), (3, .ref q), (4, .int (nI (5 * j)))]) hx hb dL_law_1048 hl (by decide) rfl (fun ls hl => ?_)
    refine lv_aload_n hx hb dL_law_1050 rfl (lv_at hl 3 rfl) ?_
    refine lv_aload_n hx hb dL_law_1051 rfl (lv_at hl 1 rfl) ?_
    refine lv_iload hx hb dL_law_1052 (lv_at hl 5 rfl) ?_
    refine lv_iconst (v := nI 1) hx hb dL_law_1054 (by decide) ?_
    refine lv_iadd hx hb dL_law_1055 ?_
    refine cb_topi (nI_add _ _) ?_
    refine va_sld hx hb hX hbl hbA hS (i := nI ((5 * j) + 1)) (vp_in_nI (show (5 * j) + 1 < L by omega) (by omega)) dL_law_1056 ?_
    refine cb_topi (z := xs ((5 * j) + 1)) (congrArg xs (tn (by omega))) ?_
    refine lv_aload_n hx hb dL_law_1057 rfl (lv_at hl 1 rfl) ?_
    refine lv_iload hx hb dL_law_1058 (lv_at hl 5 rfl) ?_
    refine lv_iconst (v := nI 2) hx hb dL_law_1060 (by decide) ?_
    refine lv_iadd hx hb dL_law_1061 ?_
    refine cb_topi (nI_add _ _) ?_
    refine va_sld hx hb hX hbl hbA hS (i := nI ((5 * j) + 2)) (vp_in_nI (show (5 * j) + 2 < L by omega) (by omega)) dL_law_1062 ?_
    refine cb_topi (z := xs ((5 * j) + 2)) (congrArg xs (tn (by omega))) ?_
    refine lv_aload_n hx hb dL_law_1063 rfl (lv_at hl 1 rfl) ?_
    refine lv_iload hx hb dL_law_1064 (lv_at hl 5 rfl) ?_
    refine lv_iconst (v := nI 3) hx hb dL_law_1066 (by decide) ?_
    refine lv_iadd hx hb dL_law_1067 ?_
    refine cb_topi (nI_add _ _) ?_
    refine va_sld hx hb hX hbl hbA hS (i := nI ((5 * j) + 3)) (vp_in_nI (show (5 * j) + 3 < L by omega) (by omega)) dL_law_1068 ?_
    refine cb_topi (z := xs ((5 * j) + 3)) (congrArg xs (tn (by omega))) ?_
    refine lv_if_eq (tgt := 1076) hx hb dL_law_1069 (by decide) (fun c_1069 => ?_) (fun c_1069 => ?_)
    · skip
      refine lv_iconst (v := nI 0) hx hb dL_law_1076 (by decide) ?_
      have hPc := hP.sub (ws' := (mb_w am km S th)) [20, 21, 22, 23, 24, 25, 26, 27, 28, 29, 30, 31, 32, 33, 34] rfl
      have hDc := hD.sub (ws' := (mb_w am km S th)) [20, 21, 22, 23, 24, 25, 26, 27, 28, 29, 30, 31, 32, 33, 34] (by decide) rfl
      have hKc := hK.sub (tys' := (mb_ty km)) [14, 15, 16, 17, 18, 19, 20, 21, 22, 23, 24, 25, 26, 27] rfl
      have hF : ∀ z, va_A (mb_w am km S th) H1.size z → s.heap.size ≤ z := va_free hD hS hA [20, 21, 22, 23, 24, 25, 26, 27, 28, 29, 30, 31, 32, 33, 34] rfl
      refine va_calli (va_runV (As := [.int (xs ((5 * j) + 1)), .int (xs ((5 * j) + 2)), .int (nI 0)]) (rest := []) ⟨hx, hb, hml, hown, hts⟩ (c_X6_diet l dC dI am km S th H1.size (xs ((5 * j) + 1)) (xs ((5 * j) + 2)) false hI) (cwV 3 hts gL_law_X6_diet rfl rfl rfl (by decide +kernel) ⟨(Nat.le_of_ble_eq_true rfl), (Nat.le_of_ble_eq_true rfl)⟩) ⟨cT_blind, va_recv hKc hPc (ci := 6) (q0 := 0) rfl rfl, fun U hU hW => ⟨rfl, cT_of hKc hPc hDc hU hW⟩⟩ rfl rfl hl.1 rfl (lv_room (Nat.le_of_ble_eq_true rfl)) dL_law_1077 ⟨(by show (cells + 8) + 0 ≤ room_1.cells; exact Nat.le_trans (by omega) rm_c), (by show (slots + 48) + 0 ≤ room_1.slots; exact Nat.le_trans (by omega) rm_s)⟩) hS (fun z _ h => hF z h) hF (fun r9 u9 t9 H2 L2 ht hvm hr9 hB hz1 hk1 hS => ?_)
      obtain ⟨hP9, -, hD9⟩ := hB
      rw [ht] at hP9
      obtain ⟨hP8, hD8⟩ := va_join (wc := (mb_w am km S th)) (wr := ((cb_w a k (kS (k_diet S (xs ((5 * j) + 1)) (xs ((5 * j) + 2))) (S_diet S (xs ((5 * j) + 1)) (xs ((5 * j) + 2)) false) S)) ++ [(q, .inl (kq, (1, .inr (.inl (f8)))))])) hP hD [20, 21, 22, 23, 24, 25, 26, 27, 28, 29, 30, 31, 32, 33, 34] [0, 1, 2, 3, 4, 5, 6, 7, 8, 9, 10, 11, 12, 13, 14, 15, 16, 17, 18, 19, 35] rfl rfl (by decide) (by decide) hk1 hF hP9 hD9
      have hP : va_P (dC, dI) vwCl (cb_w a k (kS (k_diet S (xs ((5 * j) + 1)) (xs ((5 * j) + 2))) (S_diet S (xs ((5 * j) + 1)) (xs ((5 * j) + 2)) false) S) ++ (mb_w am km (kS (k_diet S (xs ((5 * j) + 1)) (xs ((5 * j) + 2))) (S_diet S (xs ((5 * j) + 1)) (xs ((5 * j) + 2)) false) S) (k_diet S (xs ((5 * j) + 1)) (xs ((5 * j) + 2))) ++ [(q, .inl (kq, (1, .inr (.inl (f8)))))])) H2 := hP8.sub [0, 1, 2, 3, 4, 5, 6, 7, 8, 9, 10, 11, 12, 13, 14, 15, 16, 17, 18, 19, 21, 22, 23, 24, 25, 26, 27, 28, 29, 30, 31, 32, 33, 34, 35, 20] rfl
      have hD : va_D (fun z => s.heap.size ≤ z) (cb_w a k (kS (k_diet S (xs ((5 * j) + 1)) (xs ((5 * j) + 2))) (S_diet S (xs ((5 * j) + 1)) (xs ((5 * j) + 2)) false) S) ++ (mb_w am km (kS (k_diet S (xs ((5 * j) + 1)) (xs ((5 * j) + 2))) (S_diet S (xs ((5 * j) + 1)) (xs ((5 * j) + 2)) false) S) (k_diet S (xs ((5 * j) + 1)) (xs ((5 * j) + 2))) ++ [(q, .inl (kq, (1, .inr (.inl (f8)))))])) := hD8.sub [0, 1, 2, 3, 4, 5, 6, 7, 8, 9, 10, 11, 12, 13, 14, 15, 16, 17, 18, 19, 21, 22, 23, 24, 25, 26, 27, 28, 29, 30, 31, 32, 33, 34, 35, 20] (by decide) rfl
      refine lv_istore (lv' := [(6, .int r9), (5, .int (nI (k_diet S (xs ((5 * j) + 1)) (xs ((5 * j) + 2))))), (0, .ref b), (1, .ref (a 0)), (2, .ref (am 0)), (3, .ref q), (4, .int (nI (5 * j)))]) hx hb dL_law_1080 hl (by decide) rfl (fun ls hl => ?_)
      refine lv_aload_n hx hb dL_law_1082 rfl (lv_at hl 4 rfl) ?_
      have hPc := hP.sub (ws' := (mb_w am km (kS (k_diet S (xs ((5 * j) + 1)) (xs ((5 * j) + 2))) (S_diet S (xs ((5 * j) + 1)) (xs ((5 * j) + 2)) false) S) (k_diet S (xs ((5 * j) + 1)) (xs ((5 * j) + 2))))) [20, 21, 22, 23, 24, 25, 26, 27, 28, 29, 30, 31, 32, 33, 34] rfl
      have hDc := hD.sub (ws' := (mb_w am km (kS (k_diet S (xs ((5 * j) + 1)) (xs ((5 * j) + 2))) (S_diet S (xs ((5 * j) + 1)) (xs ((5 * j) + 2)) false) S) (k_diet S (xs ((5 * j) + 1)) (xs ((5 * j) + 2))))) [20, 21, 22, 23, 24, 25, 26, 27, 28, 29, 30, 31, 32, 33, 34] (by decide) rfl
      have hKc := hK.sub (tys' := (mb_ty km)) [14, 15, 16, 17, 18, 19, 20, 21, 22, 23, 24, 25, 26, 27] rfl
      refine vp_callSi (W.runV (As := []) (rest := []) ⟨hx, hb, hml, hown, hts⟩ (c_X6_thrown l dC dI am km (kS (k_diet S (xs ((5 * j) + 1)) (xs ((5 * j) + 2))) (S_diet S (xs ((5 * j) + 1)) (xs ((5 * j) + 2)) false) S) (k_diet S (xs ((5 * j) + 1)) (xs ((5 * j) + 2)))) (cwV 0 hts gL_law_X6_thrown rfl rfl rfl (by decide +kernel) ⟨(Nat.le_of_ble_eq_true rfl), (Nat.le_of_ble_eq_true rfl)⟩) ⟨cR_blind, va_recv hKc hPc (ci := 6) (q0 := 0) rfl rfl, fun U hU hW => ⟨rfl, cR_of hKc hPc hU hW⟩⟩ rfl rfl hl.1 rfl (lv_room (Nat.le_of_ble_eq_true rfl)) dL_law_1083 ⟨(by show ((cells + 8) + 0) + 0 ≤ room_1.cells; exact Nat.le_trans (by omega) rm_c), (by show ((slots + 48) + 0) + 0 ≤ room_1.slots; exact Nat.le_trans (by omega) rm_s)⟩) (fun r er => ?_)
      subst er
      refine lv_iload hx hb dL_law_1086 (lv_at hl 1 rfl) ?_
      refine lv_icmp_eq (tgt := 1093) hx hb dL_law_1088 (by decide) (fun c_1088 => ?_) (fun c_1088 => ?_)
      · skip
        refine lv_iload hx hb dL_law_1093 (lv_at hl 1 rfl) ?_
        refine lv_if_ne (tgt := 1117) hx hb dL_law_1095 (by decide) (fun c_1095 => ?_) (fun c_1095 => ?_)
        · skip
          refine lv_goto (tgt := 2067) hx hb dL_law_1117 (by decide) ?_
          refine W.widen (k := cells + 231) (n := slots + 1597) (by omega) (by omega) ?_
          exact kk (kS (k_diet S (xs ((5 * j) + 1)) (xs ((5 * j) + 2))) (S_diet S (xs ((5 * j) + 1)) (xs ((5 * j) + 2)) false) S) (k_diet S (xs ((5 * j) + 1)) (xs ((5 * j) + 2))) f8 H2 _ ls (inv_kS hI (fun h9 => inv_diet hI)) hP hD hS (lv_sub hl [2, 3, 4, 5, 6] rfl)
        · skip
          have h0 := kz kb_diet c_1095
          refine lv_aload_n hx hb dL_law_1098 rfl (lv_at hl 5 rfl) ?_
          refine lv_iconst (v := nI 0) hx hb dL_law_1099 (by decide) ?_
          refine cb_lald hx hb hK hP 35 28 (f := f8) rfl rfl (j := 0) (by omega) (Nat.le_of_ble_eq_true rfl) dL_law_1100 ?_
          refine lv_iload hx hb dL_law_1101 (lv_at hl 0 rfl) ?_
          refine lv_if_eq (tgt := 1110) hx hb dL_law_1103 (by decide) (fun c_1103 => ?_) (fun c_1103 => ?_)
          · skip
            refine lv_lconst (v := lN 0) hx hb dL_law_1110 rfl ?_
            refine W.lcmp hx hb dL_law_1111 ?_
            refine lv_if_eq (tgt := 1117) hx hb dL_law_1112 (by decide) (fun c_1112 => ?_) (fun c_1112 => ?_)
            · have c_1112 : (f8 0) = (lN 0) := lg_cmp_t c_1112
              refine lv_goto (tgt := 2067) hx hb dL_law_1117 (by decide) ?_
              refine W.widen (k := cells + 231) (n := slots + 1597) (by omega) (by omega) ?_
              exact kk (kS (k_diet S (xs ((5 * j) + 1)) (xs ((5 * j) + 2))) (S_diet S (xs ((5 * j) + 1)) (xs ((5 * j) + 2)) false) S) (k_diet S (xs ((5 * j) + 1)) (xs ((5 * j) + 2))) f8 H2 _ ls (inv_kS hI (fun h9 => inv_diet hI)) hP hD hS (lv_sub hl [2, 3, 4, 5, 6] rfl)
            · have c_1112 : ¬ (f8 0) = (lN 0) := lg_cmp_f c_1112
              exact absurd (by rw [hf8 h0]; exact bl_0 ((hr9 h0).symm.trans c_1103)) c_1112
          · skip
            refine lv_lconst (v := lN 1) hx hb dL_law_1106 rfl ?_
            refine lv_goto (tgt := 1111) hx hb dL_law_1107 (by decide) ?_
            refine W.lcmp hx hb dL_law_1111 ?_
            refine lv_if_eq (tgt := 1117) hx hb dL_law_1112 (by decide) (fun c_1112 => ?_) (fun c_1112 => ?_)
            · have c_1112 : (f8 0) = (lN 1) := lg_cmp_t c_1112
              refine lv_goto (tgt := 2067) hx hb dL_law_1117 (by decide) ?_
              refine W.widen (k := cells + 231) (n := slots + 1597) (by omega) (by omega) ?_
              exact kk (kS (k_diet S (xs ((5 * j) + 1)) (xs ((5 * j) + 2))) (S_diet S (xs ((5 * j) + 1)) (xs ((5 * j) + 2)) false) S) (k_diet S (xs ((5 * j) + 1)) (xs ((5 * j) + 2))) f8 H2 _ ls (inv_kS hI (fun h9 => inv_diet hI)) hP hD hS (lv_sub hl [2, 3, 4, 5, 6] rfl)
            · have c_1112 : ¬ (f8 0) = (lN 1) := lg_cmp_f c_1112
              exact absurd (by rw [hf8 h0]; exact bl_1 (fun z => c_1103 ((hr9 h0).trans z))) c_1112
      · skip
        exact absurd rfl c_1088
    · skip
      exact absurd c_1036 c_1069
  · skip
    refine lv_iconst (v := nI 1) hx hb dL_law_1039 (by decide) ?_
    refine lv_goto (tgt := 1044) hx hb dL_law_1040 (by decide) ?_
    refine lv_aload_n hx hb dL_law_1044 rfl (lv_at hl 3 rfl) ?_
    have hPc := hP.sub (ws' := (cb_w a k S ++ [(q, .inl (kq, (1, .inr (.inl (f)))))])) [0, 1, 2, 3, 4, 5, 6, 7, 8, 9, 10, 11, 12, 13, 14, 15, 16, 17, 18, 19, 35] rfl
    have hDc := hD.sub (ws' := (cb_w a k S ++ [(q, .inl (kq, (1, .inr (.inl (f)))))])) [0, 1, 2, 3, 4, 5, 6, 7, 8, 9, 10, 11, 12, 13, 14, 15, 16, 17, 18, 19, 35] (by decide) rfl
    have hKc := hK.sub (tys' := (cb_ty k ++ [(kq, .long)])) [0, 1, 2, 3, 4, 5, 6, 7, 8, 9, 10, 11, 12, 13, 28] rfl
    have hF : ∀ z, va_A (cb_w a k S ++ [(q, .inl (kq, (1, .inr (.inl (f)))))]) H.size z → s.heap.size ≤ z := va_free hD hS hA [0, 1, 2, 3, 4, 5, 6, 7, 8, 9, 10, 11, 12, 13, 14, 15, 16, 17, 18, 19, 35] rfl
    refine va_calli (vx_runSW (As := [.ref (a 0), .int (xs ((5 * j) + 1)), .int (xs ((5 * j) + 2)), .int (nI 1), .ref q]) (rest := []) ⟨hx, hb, hml, hown, hts⟩ (c_L_diet l hl9 dC dI a k S q kq f H.size (xs ((5 * j) + 1)) (xs ((5 * j) + 2)) true hI) (vx_cwSW 5 hts gL_law_L_diet rfl rfl rfl (by decide +kernel) ⟨(Nat.le_of_ble_eq_true rfl), (Nat.le_of_ble_eq_true rfl)⟩) ⟨cV_blind, fun U hU hW => ⟨rfl, cV_of hKc hPc hDc hE hS hU hW hF⟩⟩ rfl rfl hl.1 rfl (lv_room (Nat.le_of_ble_eq_true rfl)) dL_law_1045 ⟨(by show cells + 8 ≤ room_1.cells; exact Nat.le_trans (by omega) rm_c), (by show slots + 48 ≤ room_1.slots; exact Nat.le_trans (by omega) rm_s)⟩) hS (fun z _ h => hF z h) hF (fun r8 f8 t8 H1 L1 ht hvm hw hB hz1 hk1 hS => ?_)
    obtain ⟨hr8, hf8⟩ := hw
    subst hr8
    obtain ⟨hP9, -, hD9⟩ := hB
    rw [ht] at hP9
    obtain ⟨hP8, hD8⟩ := va_join (wc := (cb_w a k S ++ [(q, .inl (kq, (1, .inr (.inl (f)))))])) (wr := (mb_w am km S th)) hP hD [0, 1, 2, 3, 4, 5, 6, 7, 8, 9, 10, 11, 12, 13, 14, 15, 16, 17, 18, 19, 35] [20, 21, 22, 23, 24, 25, 26, 27, 28, 29, 30, 31, 32, 33, 34] rfl rfl (by decide) (by decide) hk1 hF hP9 hD9
    have hP : va_P (dC, dI) vwCl (cb_w a k (kS (k_diet S (xs ((5 * j) + 1)) (xs ((5 * j) + 2))) (S_diet S (xs ((5 * j) + 1)) (xs ((5 * j) + 2)) true) S) ++ (mb_w am km S th ++ [(q, .inl (kq, (1, .inr (.inl (f8)))))])) H1 := hP8.sub [15, 16, 17, 18, 19, 20, 21, 22, 23, 24, 25, 26, 27, 28, 29, 30, 31, 32, 33, 34, 0, 1, 2, 3, 4, 5, 6, 7, 8, 9, 10, 11, 12, 13, 14, 35] rfl
    have hD : va_D (fun z => s.heap.size ≤ z) (cb_w a k (kS (k_diet S (xs ((5 * j) + 1)) (xs ((5 * j) + 2))) (S_diet S (xs ((5 * j) + 1)) (xs ((5 * j) + 2)) true) S) ++ (mb_w am km S th ++ [(q, .inl (kq, (1, .inr (.inl (f8)))))])) := hD8.sub [15, 16, 17, 18, 19, 20, 21, 22, 23, 24, 25, 26, 27, 28, 29, 30, 31, 32, 33, 34, 0, 1, 2, 3, 4, 5, 6, 7, 8, 9, 10, 11, 12, 13, 14, 35] (by decide) rfl
    refine lv_istore (lv' := [(5, .int (nI (k_diet S (xs ((5 * j) + 1)) (xs ((5 * j) + 2))))), (0, .ref b), (1, .ref (a 0)), (2, .ref (am 0)), (3, .ref q), (4, .int (nI (5 * j)))]) hx hb dL_law_1048 hl (by decide) rfl (fun ls hl => ?_)
    refine lv_aload_n hx hb dL_law_1050 rfl (lv_at hl 3 rfl) ?_
    refine lv_aload_n hx hb dL_law_1051 rfl (lv_at hl 1 rfl) ?_
    refine lv_iload hx hb dL_law_1052 (lv_at hl 5 rfl) ?_
    refine lv_iconst (v := nI 1) hx hb dL_law_1054 (by decide) ?_
    refine lv_iadd hx hb dL_law_1055 ?_
    refine cb_topi (nI_add _ _) ?_
    refine va_sld hx hb hX hbl hbA hS (i := nI ((5 * j) + 1)) (vp_in_nI (show (5 * j) + 1 < L by omega) (by omega)) dL_law_1056 ?_
    refine cb_topi (z := xs ((5 * j) + 1)) (congrArg xs (tn (by omega))) ?_
    refine lv_aload_n hx hb dL_law_1057 rfl (lv_at hl 1 rfl) ?_
    refine lv_iload hx hb dL_law_1058 (lv_at hl 5 rfl) ?_
    refine lv_iconst (v := nI 2) hx hb dL_law_1060 (by decide) ?_
    refine lv_iadd hx hb dL_law_1061 ?_
    refine cb_topi (nI_add _ _) ?_
    refine va_sld hx hb hX hbl hbA hS (i := nI ((5 * j) + 2)) (vp_in_nI (show (5 * j) + 2 < L by omega) (by omega)) dL_law_1062 ?_
    refine cb_topi (z := xs ((5 * j) + 2)) (congrArg xs (tn (by omega))) ?_
    refine lv_aload_n hx hb dL_law_1063 rfl (lv_at hl 1 rfl) ?_
    refine lv_iload hx hb dL_law_1064 (lv_at hl 5 rfl) ?_
    refine lv_iconst (v := nI 3) hx hb dL_law_1066 (by decide) ?_
    refine lv_iadd hx hb dL_law_1067 ?_
    refine cb_topi (nI_add _ _) ?_
    refine va_sld hx hb hX hbl hbA hS (i := nI ((5 * j) + 3)) (vp_in_nI (show (5 * j) + 3 < L by omega) (by omega)) dL_law_1068 ?_
    refine cb_topi (z := xs ((5 * j) + 3)) (congrArg xs (tn (by omega))) ?_
    refine lv_if_eq (tgt := 1076) hx hb dL_law_1069 (by decide) (fun c_1069 => ?_) (fun c_1069 => ?_)
    · skip
      exact absurd c_1069 c_1036
    · skip
      refine lv_iconst (v := nI 1) hx hb dL_law_1072 (by decide) ?_
      refine lv_goto (tgt := 1077) hx hb dL_law_1073 (by decide) ?_
      have hPc := hP.sub (ws' := (mb_w am km S th)) [20, 21, 22, 23, 24, 25, 26, 27, 28, 29, 30, 31, 32, 33, 34] rfl
      have hDc := hD.sub (ws' := (mb_w am km S th)) [20, 21, 22, 23, 24, 25, 26, 27, 28, 29, 30, 31, 32, 33, 34] (by decide) rfl
      have hKc := hK.sub (tys' := (mb_ty km)) [14, 15, 16, 17, 18, 19, 20, 21, 22, 23, 24, 25, 26, 27] rfl
      have hF : ∀ z, va_A (mb_w am km S th) H1.size z → s.heap.size ≤ z := va_free hD hS hA [20, 21, 22, 23, 24, 25, 26, 27, 28, 29, 30, 31, 32, 33, 34] rfl
      refine va_calli (va_runV (As := [.int (xs ((5 * j) + 1)), .int (xs ((5 * j) + 2)), .int (nI 1)]) (rest := []) ⟨hx, hb, hml, hown, hts⟩ (c_X6_diet l dC dI am km S th H1.size (xs ((5 * j) + 1)) (xs ((5 * j) + 2)) true hI) (cwV 3 hts gL_law_X6_diet rfl rfl rfl (by decide +kernel) ⟨(Nat.le_of_ble_eq_true rfl), (Nat.le_of_ble_eq_true rfl)⟩) ⟨cT_blind, va_recv hKc hPc (ci := 6) (q0 := 0) rfl rfl, fun U hU hW => ⟨rfl, cT_of hKc hPc hDc hU hW⟩⟩ rfl rfl hl.1 rfl (lv_room (Nat.le_of_ble_eq_true rfl)) dL_law_1077 ⟨(by show (cells + 8) + 0 ≤ room_1.cells; exact Nat.le_trans (by omega) rm_c), (by show (slots + 48) + 0 ≤ room_1.slots; exact Nat.le_trans (by omega) rm_s)⟩) hS (fun z _ h => hF z h) hF (fun r9 u9 t9 H2 L2 ht hvm hr9 hB hz1 hk1 hS => ?_)
      obtain ⟨hP9, -, hD9⟩ := hB
      rw [ht] at hP9
      obtain ⟨hP8, hD8⟩ := va_join (wc := (mb_w am km S th)) (wr := ((cb_w a k (kS (k_diet S (xs ((5 * j) + 1)) (xs ((5 * j) + 2))) (S_diet S (xs ((5 * j) + 1)) (xs ((5 * j) + 2)) true) S)) ++ [(q, .inl (kq, (1, .inr (.inl (f8)))))])) hP hD [20, 21, 22, 23, 24, 25, 26, 27, 28, 29, 30, 31, 32, 33, 34] [0, 1, 2, 3, 4, 5, 6, 7, 8, 9, 10, 11, 12, 13, 14, 15, 16, 17, 18, 19, 35] rfl rfl (by decide) (by decide) hk1 hF hP9 hD9
      have hP : va_P (dC, dI) vwCl (cb_w a k (kS (k_diet S (xs ((5 * j) + 1)) (xs ((5 * j) + 2))) (S_diet S (xs ((5 * j) + 1)) (xs ((5 * j) + 2)) true) S) ++ (mb_w am km (kS (k_diet S (xs ((5 * j) + 1)) (xs ((5 * j) + 2))) (S_diet S (xs ((5 * j) + 1)) (xs ((5 * j) + 2)) true) S) (k_diet S (xs ((5 * j) + 1)) (xs ((5 * j) + 2))) ++ [(q, .inl (kq, (1, .inr (.inl (f8)))))])) H2 := hP8.sub [0, 1, 2, 3, 4, 5, 6, 7, 8, 9, 10, 11, 12, 13, 14, 15, 16, 17, 18, 19, 21, 22, 23, 24, 25, 26, 27, 28, 29, 30, 31, 32, 33, 34, 35, 20] rfl
      have hD : va_D (fun z => s.heap.size ≤ z) (cb_w a k (kS (k_diet S (xs ((5 * j) + 1)) (xs ((5 * j) + 2))) (S_diet S (xs ((5 * j) + 1)) (xs ((5 * j) + 2)) true) S) ++ (mb_w am km (kS (k_diet S (xs ((5 * j) + 1)) (xs ((5 * j) + 2))) (S_diet S (xs ((5 * j) + 1)) (xs ((5 * j) + 2)) true) S) (k_diet S (xs ((5 * j) + 1)) (xs ((5 * j) + 2))) ++ [(q, .inl (kq, (1, .inr (.inl (f8)))))])) := hD8.sub [0, 1, 2, 3, 4, 5, 6, 7, 8, 9, 10, 11, 12, 13, 14, 15, 16, 17, 18, 19, 21, 22, 23, 24, 25, 26, 27, 28, 29, 30, 31, 32, 33, 34, 35, 20] (by decide) rfl
      refine lv_istore (lv' := [(6, .int r9), (5, .int (nI (k_diet S (xs ((5 * j) + 1)) (xs ((5 * j) + 2))))), (0, .ref b), (1, .ref (a 0)), (2, .ref (am 0)), (3, .ref q), (4, .int (nI (5 * j)))]) hx hb dL_law_1080 hl (by decide) rfl (fun ls hl => ?_)
      refine lv_aload_n hx hb dL_law_1082 rfl (lv_at hl 4 rfl) ?_
      have hPc := hP.sub (ws' := (mb_w am km (kS (k_diet S (xs ((5 * j) + 1)) (xs ((5 * j) + 2))) (S_diet S (xs ((5 * j) + 1)) (xs ((5 * j) + 2)) true) S) (k_diet S (xs ((5 * j) + 1)) (xs ((5 * j) + 2))))) [20, 21, 22, 23, 24, 25, 26, 27, 28, 29, 30, 31, 32, 33, 34] rfl
      have hDc := hD.sub (ws' := (mb_w am km (kS (k_diet S (xs ((5 * j) + 1)) (xs ((5 * j) + 2))) (S_diet S (xs ((5 * j) + 1)) (xs ((5 * j) + 2)) true) S) (k_diet S (xs ((5 * j) + 1)) (xs ((5 * j) + 2))))) [20, 21, 22, 23, 24, 25, 26, 27, 28, 29, 30, 31, 32, 33, 34] (by decide) rfl
      have hKc := hK.sub (tys' := (mb_ty km)) [14, 15, 16, 17, 18, 19, 20, 21, 22, 23, 24, 25, 26, 27] rfl
      refine vp_callSi (W.runV (As := []) (rest := []) ⟨hx, hb, hml, hown, hts⟩ (c_X6_thrown l dC dI am km (kS (k_diet S (xs ((5 * j) + 1)) (xs ((5 * j) + 2))) (S_diet S (xs ((5 * j) + 1)) (xs ((5 * j) + 2)) true) S) (k_diet S (xs ((5 * j) + 1)) (xs ((5 * j) + 2)))) (cwV 0 hts gL_law_X6_thrown rfl rfl rfl (by decide +kernel) ⟨(Nat.le_of_ble_eq_true rfl), (Nat.le_of_ble_eq_true rfl)⟩) ⟨cR_blind, va_recv hKc hPc (ci := 6) (q0 := 0) rfl rfl, fun U hU hW => ⟨rfl, cR_of hKc hPc hU hW⟩⟩ rfl rfl hl.1 rfl (lv_room (Nat.le_of_ble_eq_true rfl)) dL_law_1083 ⟨(by show ((cells + 8) + 0) + 0 ≤ room_1.cells; exact Nat.le_trans (by omega) rm_c), (by show ((slots + 48) + 0) + 0 ≤ room_1.slots; exact Nat.le_trans (by omega) rm_s)⟩) (fun r er => ?_)
      subst er
      refine lv_iload hx hb dL_law_1086 (lv_at hl 1 rfl) ?_
      refine lv_icmp_eq (tgt := 1093) hx hb dL_law_1088 (by decide) (fun c_1088 => ?_) (fun c_1088 => ?_)
      · skip
        refine lv_iload hx hb dL_law_1093 (lv_at hl 1 rfl) ?_
        refine lv_if_ne (tgt := 1117) hx hb dL_law_1095 (by decide) (fun c_1095 => ?_) (fun c_1095 => ?_)
        · skip
          refine lv_goto (tgt := 2067) hx hb dL_law_1117 (by decide) ?_
          refine W.widen (k := cells + 231) (n := slots + 1597) (by omega) (by omega) ?_
          exact kk (kS (k_diet S (xs ((5 * j) + 1)) (xs ((5 * j) + 2))) (S_diet S (xs ((5 * j) + 1)) (xs ((5 * j) + 2)) true) S) (k_diet S (xs ((5 * j) + 1)) (xs ((5 * j) + 2))) f8 H2 _ ls (inv_kS hI (fun h9 => inv_diet hI)) hP hD hS (lv_sub hl [2, 3, 4, 5, 6] rfl)
        · skip
          have h0 := kz kb_diet c_1095
          refine lv_aload_n hx hb dL_law_1098 rfl (lv_at hl 5 rfl) ?_
          refine lv_iconst (v := nI 0) hx hb dL_law_1099 (by decide) ?_
          refine cb_lald hx hb hK hP 35 28 (f := f8) rfl rfl (j := 0) (by omega) (Nat.le_of_ble_eq_true rfl) dL_law_1100 ?_
          refine lv_iload hx hb dL_law_1101 (lv_at hl 0 rfl) ?_
          refine lv_if_eq (tgt := 1110) hx hb dL_law_1103 (by decide) (fun c_1103 => ?_) (fun c_1103 => ?_)
          · skip
            refine lv_lconst (v := lN 0) hx hb dL_law_1110 rfl ?_
            refine W.lcmp hx hb dL_law_1111 ?_
            refine lv_if_eq (tgt := 1117) hx hb dL_law_1112 (by decide) (fun c_1112 => ?_) (fun c_1112 => ?_)
            · have c_1112 : (f8 0) = (lN 0) := lg_cmp_t c_1112
              refine lv_goto (tgt := 2067) hx hb dL_law_1117 (by decide) ?_
              refine W.widen (k := cells + 231) (n := slots + 1597) (by omega) (by omega) ?_
              exact kk (kS (k_diet S (xs ((5 * j) + 1)) (xs ((5 * j) + 2))) (S_diet S (xs ((5 * j) + 1)) (xs ((5 * j) + 2)) true) S) (k_diet S (xs ((5 * j) + 1)) (xs ((5 * j) + 2))) f8 H2 _ ls (inv_kS hI (fun h9 => inv_diet hI)) hP hD hS (lv_sub hl [2, 3, 4, 5, 6] rfl)
            · have c_1112 : ¬ (f8 0) = (lN 0) := lg_cmp_f c_1112
              exact absurd (by rw [hf8 h0]; exact bl_0 ((hr9 h0).symm.trans c_1103)) c_1112
          · skip
            refine lv_lconst (v := lN 1) hx hb dL_law_1106 rfl ?_
            refine lv_goto (tgt := 1111) hx hb dL_law_1107 (by decide) ?_
            refine W.lcmp hx hb dL_law_1111 ?_
            refine lv_if_eq (tgt := 1117) hx hb dL_law_1112 (by decide) (fun c_1112 => ?_) (fun c_1112 => ?_)
            · have c_1112 : (f8 0) = (lN 1) := lg_cmp_t c_1112
              refine lv_goto (tgt := 2067) hx hb dL_law_1117 (by decide) ?_
              refine W.widen (k := cells + 231) (n := slots + 1597) (by omega) (by omega) ?_
              exact kk (kS (k_diet S (xs ((5 * j) + 1)) (xs ((5 * j) + 2))) (S_diet S (xs ((5 * j) + 1)) (xs ((5 * j) + 2)) true) S) (k_diet S (xs ((5 * j) + 1)) (xs ((5 * j) + 2))) f8 H2 _ ls (inv_kS hI (fun h9 => inv_diet hI)) hP hD hS (lv_sub hl [2, 3, 4, 5, 6] rfl)
            · have c_1112 : ¬ (f8 0) = (lN 1) := lg_cmp_f c_1112
              exact absurd (by rw [hf8 h0]; exact bl_1 (fun z => c_1103 ((hr9 h0).trans z))) c_1112
      · skip
        exact absurd rfl c_1088
end CBY1
