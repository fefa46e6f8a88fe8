section CBY3
theorem kb_practise {S : cs_S} {x0 : Int32} {x1 : Int32} {x2 : Int32} : k_practise S x0 x1 x2 < 4 := by unfold k_practise; (repeat' split) <;> decide
set_option maxHeartbeats 4000000 in
set_option maxRecDepth 100000 in
theorem lc_practise {p : Program} {l : Launch} {e : Env} {s : State} {m : MethodId} {below : List Frame} {meth : Method} {c : Code} {b L : Nat} {xs : Nat → Int32} {dC : Nat → ClassId} {dI : Nat → Nat → Nat} {a : Nat → Nat} {k : Nat → ClassId} {am : Nat → Nat} {km : Nat → ClassId} {q : Nat} {kq : ClassId} (hl9 : l.stackTraces = false) (C0 : LC p s m c b L xs dC dI k km kq) {S : cs_S} {th : Nat} {f : Nat → Int64} {H : Heap} {locs : List Loc} {j : Nat} {ls : Array Slot} {cells slots : Nat} {Q : State → Prop} (hI : Inv S) (hP : va_P (dC, dI) vwCl (cb_w a k S ++ (mb_w am km S th ++ [(q, .inl (kq, (1, .inr (.inl (f)))))])) H) (hD : va_D (fun z => s.heap.size ≤ z) (cb_w a k S ++ (mb_w am km S th ++ [(q, .inl (kq, (1, .inr (.inl (f)))))]))) (hS : va_S (fun z => s.heap.size ≤ z) s.heap H locs) (hj : 5 * j + 5 ≤ L) (hl : lv_has ls 9 [(0, .ref b), (1, .ref (a 0)), (2, .ref (am 0)), (3, .ref q), (4, .int (nI (5 * j)))]) (hc : cells + 231 ≤ 200000) (hs : slots + 1597 ≤ 2000000) (kk : KK p l e s m below meth c b dC dI a k am km q kq j cells slots Q) : W p l e room_1 s m #[Value.ref b] below meth c H locs cells slots Q (F0 m 1627 ls []) := by
  obtain ⟨hx, hb, hml, hown, hts, hX, hbl, hL, hK, hE⟩ := C0
  have hbA : ¬ (fun z => s.heap.size ≤ z) b := Nat.not_le.mpr hbl
  have hA : ∀ z : Nat, s.heap.size ≤ z → (fun z => s.heap.size ≤ z) z := fun _ h => h
  refine lv_aload_n hx hb dL_law_1627 rfl (lv_at hl 1 rfl) ?_
  refine lv_aload_n hx hb dL_law_1628 rfl (lv_at hl 0 rfl) ?_
  refine lv_iload hx hb dL_law_1629 (lv_at hl 4 rfl) ?_
  refine lv_iconst (v := nI 1) hx hb dL_law_1631 (by decide) ?_
  refine lv_iadd hx hb dL_law_1632 ?_
  refine cb_topi (nI_add _ _) ?_
  refine va_sld hx hb hX hbl hbA hS (i := nI ((5 * j) + 1)) (vp_in_nI (show (5 * j) + 1 < L by omega) (by omega)) dL_law_1633 ?_
  refine cb_topi (z := xs ((5 * j) + 1)) (congrArg xs (tn (by omega))) ?_
  refine lv_aload_n hx hb dL_law_1634 rfl (lv_at hl 0 rfl) ?_
  refine lv_iload hx hb dL_law_1635 (lv_at hl 4 rfl) ?_
  refine lv_iconst (v := nI 2) hx hb dL_law_1637 (by decide) ?_
  refine lv_iadd hx hb dL_law_1638 ?_
  refine cb_topi (nI_add _ _) ?_
  refine va_sld hx hb hX hbl hbA hS (i := nI ((5 * j) + 2)) (vp_in_nI (show (5 * j) + 2 < L by omega) (by omega)) dL_law_1639 ?_
  refine cb_topi (z := xs ((5 * j) + 2)) (congrArg xs (tn (by omega))) ?_
  refine lv_aload_n hx hb dL_law_1640 rfl (lv_at hl 0 rfl) ?_
  refine lv_iload hx hb dL_law_1641 (lv_at hl 4 rfl) ?_
  refine lv_iconst (v := nI 3) hx hb dL_law_1643 (by decide) ?_
  refine lv_iadd hx hb dL_law_1644 ?_
  refine cb_topi (nI_add _ _) ?_
  refine va_sld hx hb hX hbl hbA hS (i := nI ((5 * j) + 3)) (vp_in_nI (show (5 * j) + 3 < L by omega) (by omega)) dL_law_1645 ?_
  refine cb_topi (z := xs ((5 * j) + 3)) (congrArg xs (tn (by omega))) ?_
  refine lv_aload_n hx hb dL_law_1646 rfl (lv_at hl 3 rfl) ?_
  have hPc := hP.sub (ws' := (cb_w a k S ++ [(q, .inl (kq, (1, .inr (.inl (f)))))])) [0, 1, 2, 3, 4, 5, 6, 7, 8, 9, 10, 11, 12, 13, 14, 15, 16, 17, 18, 19, 35] rfl
  have hDc := hD.sub (ws' := (cb_w a k S ++ [(q, .inl (kq, (1, .inr (.inl (f)))))])) [0, 1, 2, 3, 4, 5, 6, 7, 8, 9, 10, 11, 12, 13, 14, 15, 16, 17, 18, 19, 35] (by decide) rfl
  have hKc := hK.sub (tys' := (cb_ty k ++ [(kq, .long)])) [0, 1, 2, 3, 4, 5, 6, 7, 8, 9, 10, 11, 12, 13, 28] rfl
  have hF : ∀ z, va_A (cb_w a k S ++ [(q, .inl (kq, (1, .inr (.inl (f)))))]) H.size z → s.heap.size ≤ z := va_free hD hS hA [0, 1, 2, 3, 4, 5, 6, 7, 8, 9, 10, 11, 12, 13, 14, 15, 16, 17, 18, 19, 35] rfl
  refine va_calli (vx_runSW (As := [.ref (a 0), .int (xs ((5 * j) + 1)), .int (xs ((5 * j) + 2)), .int (xs ((5 * j) + 3)), .ref q]) (rest := []) ⟨hx, hb, hml, hown, hts⟩ (c_L_practise l hl9 dC dI a k S q kq f H.size (xs ((5 * j) + 1)) (xs ((5 * j) + 2)) (xs ((5 * j) + 3)) hI) (vx_cwSW 5 hts gL_law_L_practise rfl rfl rfl (by decide +kernel) ⟨(Nat.le_of_ble_eq_true rfl), (Nat.le_of_ble_eq_true rfl)⟩) ⟨cV_blind, fun U hU hW => ⟨rfl, cV_of hKc hPc hDc hE hS hU hW hF⟩⟩ rfl rfl hl.1 rfl (lv_room (Nat.le_of_ble_eq_true rfl)) dL_law_1647 ⟨(by show cells + 8 ≤ room_1.cells; exact Nat.le_trans (by omega) rm_c), (by show slots + 48 ≤ room_1.slots; exact Nat.le_trans (by omega) rm_s)⟩) hS (fun z _ h => hF z h) hF (fun r8 f8 t8 H1 L1 ht hvm hw hB hz1 hk1 hS => ?_)
  obtain ⟨hr8, hf8⟩ := hw
  subst hr8
  obtain ⟨hP9, -, hD9⟩ := hB
  rw [ht] at hP9
  obtain ⟨hP8, hD8⟩ := va_join (wc := (cb_w a k S ++ [(q, .inl (kq, (1, .inr (.inl (f)))))])) (wr := (mb_w am km S th)) hP hD [0, 1, 2, 3, 4, 5, 6, 7, 8, 9, 10, 11, 12, 13, 14, 15, 16, 17, 18, 19, 35] [20, 21, 22, 23, 24, 25, 26, 27, 28, 29, 30, 31, 32, 33, 34] rfl rfl (by decide) (by decide) hk1 hF hP9 hD9
  have hP : va_P (dC, dI) vwCl (cb_w a k (kS (k_practise S (xs ((5 * j) + 1)) (xs ((5 * j) + 2)) (xs ((5 * j) + 3))) (S_practise S (xs ((5 * j) + 1)) (xs ((5 * j) + 2)) (xs ((5 * j) + 3))) S) ++ (mb_w am km S th ++ [(q, .inl (kq, (1, .inr (.inl (f8)))))])) H1 := hP8.sub [15, 16, 17, 18, 19, 20, 21, 22, 23, 24, 25, 26, 27, 28, 29, 30, 31, 32, 33, 34, 0, 1, 2, 3, 4, 5, 6, 7, 8, 9, 10, 11, 12, 13, 14, 35] rfl
  have hD : va_D (fun z => s.heap.size ≤ z) (cb_w a k (kS (k_practise S (xs ((5 * j) + 1)) (xs ((5 * j) + 2)) (xs ((5 * j) + 3))) (S_practise S (xs ((5 * j) + 1)) (xs ((5 * j) + 2)) (xs ((5 * j) + 3))) S) ++ (mb_w am km S th ++ [(q, .inl (kq, (1, .inr (.inl (f8)))))])) := hD8.sub [15, 16, 17, 18, 19, 20, 21, 22, 23, 24, 25, 26, 27, 28, 29, 30, 31, 32, 33, 34, 0, 1, 2, 3, 4, 5, 6, 7, 8, 9, 10, 11, 12, 13, 14, 35] (by decide) rfl
  refine lv_istore (lv' := [(5, .int (nI (k_practise S (xs ((5 * j) + 1)) (xs ((5 * j) + 2)) (xs ((5 * j) + 3))))), (0, .ref b), (1, .ref (a 0)), (2, .ref (am 0)), (3, .ref q), (4, .int (nI (5 * j)))]) hx hb dL_law_1650 hl (by decide) rfl (fun ls hl => ?_)
  refine lv_aload_n hx hb dL_law_1652 rfl (lv_at hl 3 rfl) ?_
  refine lv_aload_n hx hb dL_law_1653 rfl (lv_at hl 1 rfl) ?_
  refine lv_iload hx hb dL_law_1654 (lv_at hl 5 rfl) ?_
  refine lv_iconst (v := nI 1) hx hb dL_law_1656 (by decide) ?_
  refine lv_iadd hx hb dL_law_1657 ?_
  refine cb_topi (nI_add _ _) ?_
  refine va_sld hx hb hX hbl hbA hS (i := nI ((5 * j) + 1)) (vp_in_nI (show (5 * j) + 1 < L by omega) (by omega)) dL_law_1658 ?_
  refine cb_topi (z := xs ((5 * j) + 1)) (congrArg xs (tn (by omega))) ?_
  refine lv_aload_n hx hb dL_law_1659 rfl (lv_at hl 1 rfl) ?_
  refine lv_iload hx hb dL_law_1660 (lv_at hl 5 rfl) ?_
  refine lv_iconst (v := nI 2) hx hb dL_law_1662 (by decide) ?_
  refine lv_iadd hx hb dL_law_1663 ?_
  refine cb_topi (nI_add _ _) ?_
  refine va_sld hx hb hX hbl hbA hS (i := nI ((5 * j) + 2)) (vp_in_nI (show (5 * j) + 2 < L by omega) (by omega)) dL_law_1664 ?_
  refine cb_topi (z := xs ((5 * j) + 2)) (congrArg xs (tn (by omega))) ?_
  refine lv_aload_n hx hb dL_law_1665 rfl (lv_at hl 1 rfl) ?_
  refine lv_iload hx hb dL_law_1666 (lv_at hl 5 rfl) ?_
  refine lv_iconst (v := nI 3) hx hb dL_law_1668 (by decide) ?_
  refine lv_iadd hx hb dL_law_1669 ?_
  refine cb_topi (nI_add _ _) ?_
  refine va_sld hx hb hX hbl hbA hS (i := nI ((5 * j) + 3)) (vp_in_nI (show (5 * j) + 3 < L by omega) (by omega)) dL_law_1670 ?_
  refine cb_topi (z := xs ((5 * j) + 3)) (congrArg xs (tn (by omega))) ?_
  have hPc := hP.sub (ws' := (mb_w am km S th)) [20, 21, 22, 23, 24, 25, 26, 27, 28, 29, 30, 31, 32, 33, 34] rfl
  have hDc := hD.sub (ws' := (mb_w am km S th)) [20, 21, 22, 23, 24, 25, 26, 27, 28, 29, 30, 31, 32, 33, 34] (by decide) rfl
  have hKc := hK.sub (tys' := (mb_ty km)) [14, 15, 16, 17, 18, 19, 20, 21, 22, 23, 24, 25, 26, 27] rfl
  have hF : ∀ z, va_A (mb_w am km S th) H1.size z → s.heap.size ≤ z := va_free hD hS hA [20, 21, 22, 23, 24, 25, 26, 27, 28, 29, 30, 31, 32, 33, 34] rfl
  refine va_calli (va_runV (As := [.int (xs ((5 * j) + 1)), .int (xs ((5 * j) + 2)), .int (xs ((5 * j) + 3))]) (rest := []) ⟨hx, hb, hml, hown, hts⟩ (c_X6_practise l dC dI am km S th H1.size (xs ((5 * j) + 1)) (xs ((5 * j) + 2)) (xs ((5 * j) + 3)) hI) (cwV 3 hts gL_law_X6_practise rfl rfl rfl (by decide +kernel) ⟨(Nat.le_of_ble_eq_true rfl), (Nat.le_of_ble_eq_true rfl)⟩) ⟨cT_blind, va_recv hKc hPc (ci := 6) (q0 := 0) rfl rfl, fun U hU hW => ⟨rfl, cT_of hKc hPc hDc hU hW⟩⟩ rfl rfl hl.1 rfl (lv_room (Nat.le_of_ble_eq_true rfl)) dL_law_1671 ⟨(by show (cells + 8) + 0 ≤ room_1.cells; exact Nat.le_trans (by omega) rm_c), (by show (slots + 48) + 0 ≤ room_1.slots; exact Nat.le_trans (by omega) rm_s)⟩) hS (fun z _ h => hF z h) hF (fun r9 u9 t9 H2 L2 ht hvm hr9 hB hz1 hk1 hS => ?_)
  obtain ⟨hP9, -, hD9⟩ := hB
  rw [ht] at hP9
  obtain ⟨hP8, hD8⟩ := va_join (wc := (mb_w am km S th)) (wr := ((cb_w a k (kS (k_practise S (xs ((5 * j) + 1)) (xs ((5 * j) + 2)) (xs ((5 * j) + 3))) (S_practise S (xs ((5 * j) + 1)) (xs ((5 * j) + 2)) (xs ((5 * j) + 3))) S)) ++ [(q, .inl (kq, (1, .inr (.inl (f8)))))])) hP hD [20, 21, 22, 23, 24, 25, 26, 27, 28, 29, 30, 31, 32, 33, 34] [0, 1, 2, 3, 4, 5, 6, 7, 8, 9, 10, 11, 12, 13, 14, 15, 16, 17, 18, 19, 35] rfl rfl (by decide) (by decide) hk1 hF hP9 hD9
  have hP : va_P (dC, dI) vwCl (cb_w a k (kS (k_practise S (xs ((5 * j) + 1)) (xs ((5 * j) + 2)) (xs ((5 * j) + 3))) (S_practise S (xs ((5 * j) + 1)) (xs ((5 * j) + 2)) (xs ((5 * j) + 3))) S) ++ (mb_w am km (kS (k_practise S (xs ((5 * j) + 1)) (xs ((5 * j) + 2)) (xs ((5 * j) + 3))) (S_practise S (xs ((5 * j) + 1)) (xs ((5 * j) + 2)) (xs ((5 * j) + 3))) S) (k_practise S (xs ((5 * j) + 1)) (xs ((5 * j) + 2)) (xs ((5 * j) + 3))) ++ [(q, .inl (kq, (1, .inr (.inl (f8)))))])) H2 := hP8.sub [0, 1, 2, 3, 4, 5, 6, 7, 8, 9, 10, 11, 12, 13, 14, 15, 16, 17, 18, 19, 21, 22, 23, 24, 25, 26, 27, 28, 29, 30, 31, 32, 33, 34, 35, 20] rfl
  have hD : va_D (fun z => s.heap.size ≤ z) (cb_w a k (kS (k_practise S (xs ((5 * j) + 1)) (xs ((5 * j) + 2)) (xs ((5 * j) + 3))) (S_practise S (xs ((5 * j) + 1)) (xs ((5 * j) + 2)) (xs ((5 * j) + 3))) S) ++ (mb_w am km (kS (k_practise S (xs ((5 * j) + 1)) (xs ((5 * j) + 2)) (xs ((5 * j) + 3))) (S_practise S (xs ((5 * j) + 1)) (xs ((5 * j) + 2)) (xs ((5 * j) + 3))) S) (k_practise S (xs ((5 * j) + 1)) (xs ((5 * j) + 2)) (xs ((5 * j) + 3))) ++ [(q, .inl (kq, (1, .inr (.inl (f8)))))])) := hD8.sub [0, 1, 2, 3, 4, 5, 6, 7, 8, 9, 10, 11, 12, 13, 14, 15, 16, 17, 18, 19, 21, 22, 23, 24, 25, 26, 27, 28, 29, 30, 31, 32, 33, 34, 35, 20] (by decide) rfl
  refine lv_istore (lv' := [(6, .int r9), (5, .int (nI (k_practise S (xs ((5 * j) + 1)) (xs ((5 * j) + 2)) (xs ((5 * j) + 3))))), (0, .ref b), (1, .ref (a 0)), (2, .ref (am 0)), (3, .ref q), (4, .int (nI (5 * j)))]) hx hb dL_law_1674 hl (by decide) rfl (fun ls hl => ?_)
  refine lv_aload_n hx hb dL_law_1676 rfl (lv_at hl 4 rfl) ?_
  have hPc := hP.sub (ws' := (mb_w am km (kS (k_practise S (xs ((5 * j) + 1)) (xs ((5 * j) + 2)) (xs ((5 * j) + 3))) (S_practise S (xs ((5 * j) + 1)) (xs ((5 * j) + 2)) (xs ((5 * j) + 3))) S) (k_practise S (xs ((5 * j) + 1)) (xs ((5 * j) + 2)) (xs ((5 * j) + 3))))) [20, 21, 22, 23, 24, 25, 26, 27, 28, 29, 30, 31, 32, 33, 34] rfl
  have hDc := hD.sub (ws' := (mb_w am km (kS (k_practise S (xs ((5 * j) + 1)) (xs ((5 * j) + 2)) (xs ((5 * j) + 3))) (S_practise S (xs ((5 * j) + 1)) (xs ((5 * j) + 2)) (xs ((5 * j) + 3))) S) (k_practise S (xs ((5 * j) + 1)) (xs ((5 * j) + 2)) (xs ((5 * j) + 3))))) [20, 21, 22, 23, 24, 25, 26, 27, 28, 29, 30, 31, 32, 33, 34] (by decide) rfl
  have hKc := hK.sub (tys' := (mb_ty km)) [14, 15, 16, 17, 18, 19, 20, 21, 22, 23, 24, 25, 26, 27] rfl
  refine vp_callSi (W.runV (As := []) (rest := []) ⟨hx, hb, hml, hown, hts⟩ (c_X6_thrown l dC dI am km (kS (k_practise S (xs ((5 * j) + 1)) (xs ((5 * j) + 2)) (xs ((5 * j) + 3))) (S_practise S (xs ((5 * j) + 1)) (xs ((5 * j) + 2)) (xs ((5 * j) + 3))) S) (k_practise S (xs ((5 * j) + 1)) (xs ((5 * j) + 2)) (xs ((5 * j) + 3)))) (cwV 0 hts gL_law_X6_thrown rfl rfl rfl (by decide +kernel) ⟨(Nat.le_of_ble_eq_true rfl), (Nat.le_of_ble_eq_true rfl)⟩) ⟨cR_blind, va_recv hKc hPc (ci := 6) (q0 := 0) rfl rfl, fun U hU hW => ⟨rfl, cR_of hKc hPc hU hW⟩⟩ rfl rfl hl.1 rfl (lv_room (Nat.le_of_ble_eq_true rfl)) dL_law_1677 ⟨(by show ((cells + 8) + 0) + 0 ≤ room_1.cells; exact Nat.le_trans (by omega) rm_c), (by show ((slots + 48) + 0) + 0 ≤ room_1.slots; exact Nat.le_trans (by omega) rm_s)⟩) (fun r er => ?_)
  subst er
  refine lv_iload hx hb dL_law_1680 (lv_at hl 1 rfl) ?_
  refine lv_icmp_eq (tgt := 1687) hx hb dL_law_1682 (by decide) (fun c_1682 => ?_) (fun c_1682 => ?_)
  · skip
    refine lv_iload hx hb dL_law_1687 (lv_at hl 1 rfl) ?_
    refine lv_if_ne (tgt := 1704) hx hb dL_law_1689 (by decide) (fun c_1689 => ?_) (fun c_1689 => ?_)
    · skip
      refine lv_goto (tgt := 2067) hx hb dL_law_1704 (by decide) ?_
      refine W.widen (k := cells + 231) (n := slots + 1597) (by omega) (by omega) ?_
      exact kk (kS (k_practise S (xs ((5 * j) + 1)) (xs ((5 * j) + 2)) (xs ((5 * j) + 3))) (S_practise S (xs ((5 * j) + 1)) (xs ((5 * j) + 2)) (xs ((5 * j) + 3))) S) (k_practise S (xs ((5 * j) + 1)) (xs ((5 * j) + 2)) (xs ((5 * j) + 3))) f8 H2 _ ls (inv_kS hI (fun h9 => inv_practise hI)) hP hD hS (lv_sub hl [2, 3, 4, 5, 6] rfl)
    · skip
      have h0 := kz kb_practise c_1689
      refine lv_aload_n hx hb dL_law_1692 rfl (lv_at hl 5 rfl) ?_
      refine lv_iconst (v := nI 0) hx hb dL_law_1693 (by decide) ?_
      refine cb_lald hx hb hK hP 35 28 (f := f8) rfl rfl (j := 0) (by omega) (Nat.le_of_ble_eq_true rfl) dL_law_1694 ?_
      refine lv_iload hx hb dL_law_1695 (lv_at hl 0 rfl) ?_
      refine lv_i2l hx hb dL_law_1697 rfl ?_
      refine W.lcmp hx hb dL_law_1698 ?_
      refine lv_if_eq (tgt := 1704) hx hb dL_law_1699 (by decide) (fun c_1699 => ?_) (fun c_1699 => ?_)
      · have c_1699 : (f8 0) = r9.toInt64 := lg_cmp_t c_1699
        refine lv_goto (tgt := 2067) hx hb dL_law_1704 (by decide) ?_
        refine W.widen (k := cells + 231) (n := slots + 1597) (by omega) (by omega) ?_
        exact kk (kS (k_practise S (xs ((5 * j) + 1)) (xs ((5 * j) + 2)) (xs ((5 * j) + 3))) (S_practise S (xs ((5 * j) + 1)) (xs ((5 * j) + 2)) (xs ((5 * j) + 3))) S) (k_practise S (xs ((5 * j) + 1)) (xs ((5 * j) + 2)) (xs ((5 * j) + 3))) f8 H2 _ ls (inv_kS hI (fun h9 => inv_practise hI)) hP hD hS (lv_sub hl [2, 3, 4, 5, 6] rfl)
      · have c_1699 : ¬ (f8 0) = r9.toInt64 := lg_cmp_f c_1699
        exact absurd (by rw [hf8 h0, hr9 h0]) c_1699
  · skip
    exact absurd rfl c_1682
theorem kb_away {S : cs_S} {x0 : Int32} {x1 : Int32} : k_away S x0 x1 < 4 := by unfold k_away; (repeat' split) <;> decide
set_option maxHeartbeats 4000000 in
set_option maxRecDepth 100000 in
theorem lc_away {p : Program} {l : Launch} {e : Env} {s : State} {m : MethodId} {below : List Frame} {meth : Method} {c : Code} {b L : Nat} {xs : Nat → Int32} {dC : Nat → ClassId} {dI : Nat → Nat → Nat} {a : Nat → Nat} {k : Nat → ClassId} {am : Nat → Nat} {km : Nat → ClassId} {q : Nat} {kq : ClassId} (hl9 : l.stackTraces = false) (C0 : LC p s m c b L xs dC dI k km kq) {S : cs_S} {th : Nat} {f : Nat → Int64} {H : Heap} {locs : List Loc} {j : Nat} {ls : Array Slot} {cells slots : Nat} {Q : State → Prop} (hI : Inv S) (hP : va_P (dC, dI) vwCl (cb_w a k S ++ (mb_w am km S th ++ [(q, .inl (kq, (1, .inr (.inl (f)))))])) H) (hD : va_D (fun z => s.heap.size ≤ z) (cb_w a k S ++ (mb_w am km S th ++ [(q, .inl (kq, (1, .inr (.inl (f)))))]))) (hS : va_S (fun z => s.heap.size ≤ z) s.heap H locs) (hj : 5 * j + 5 ≤ L) (hl : lv_has ls 9 [(0, .ref b), (1, .ref (a 0)), (2, .ref (am 0)), (3, .ref q), (4, .int (nI (5 * j)))]) (hc : cells + 231 ≤ 200000) (hs : slots + 1597 ≤ 2000000) (kk : KK p l e s m below meth c b dC dI a k am km q kq j cells slots Q) : W p l e room_1 s m #[Value.ref b] below meth c H locs cells slots Q (F0 m 1707 ls []) := by
  obtain ⟨hx, hb, hml, hown, hts, hX, hbl, hL, hK, hE⟩ := C0
  have hbA : ¬ (fun z => s.heap.size ≤ z) b := Nat.not_le.mpr hbl
  have hA : ∀ z : Nat, s.heap.size ≤ z → (fun z => s.heap.size ≤ z) z := fun _ h => h
  refine lv_aload_n hx hb dL_law_1707 rfl (lv_at hl 1 rfl) ?_
  refine lv_aload_n hx hb dL_law_1708 rfl (lv_at hl 0 rfl) ?_
  refine lv_iload hx hb dL_law_1709 (lv_at hl 4 rfl) ?_
  refine lv_iconst (v := nI 1) hx hb dL_law_1711 (by decide) ?_
  refine lv_iadd hx hb dL_law_1712 ?_
  refine cb_topi (nI_add _ _) ?_
  refine va_sld hx hb hX hbl hbA hS (i := nI ((5 * j) + 1)) (vp_in_nI (show (5 * j) + 1 < L by omega) (by omega)) dL_law_1713 ?_
  refine cb_topi (z := xs ((5 * j) + 1)) (congrArg xs (tn (by omega))) ?_
  refine lv_aload_n hx hb dL_law_1714 rfl (lv_at hl 0 rfl) ?_
  refine lv_iload hx hb dL_law_1715 (lv_at hl 4 rfl) ?_
  refine lv_iconst (v := nI 2) hx hb dL_law_1717 (by decide) ?_
  refine lv_iadd hx hb dL_law_1718 ?_
  refine cb_topi (nI_add _ _) ?_
  refine va_sld hx hb hX hbl hbA hS (i := nI ((5 * j) + 2)) (vp_in_nI (show (5 * j) + 2 < L by omega) (by omega)) dL_law_1719 ?_
  refine cb_topi (z := xs ((5 * j) + 2)) (congrArg xs (tn (by omega))) ?_
  refine lv_aload_n hx hb dL_law_1720 rfl (lv_at hl 3 rfl) ?_
  have hPc := hP.sub (ws' := (cb_w a k S ++ [(q, .inl (kq, (1, .inr (.inl (f)))))])) [0, 1, 2, 3, 4, 5, 6, 7, 8, 9, 10, 11, 12, 13, 14, 15, 16, 17, 18, 19, 35] rfl
  have hDc := hD.sub (ws' := (cb_w a k S ++ [(q, .inl (kq, (1, .inr (.inl (f)))))])) [0, 1, 2, 3, 4, 5, 6, 7, 8, 9, 10, 11, 12, 13, 14, 15, 16, 17, 18, 19, 35] (by decide) rfl
  have hKc := hK.sub (tys' := (cb_ty k ++ [(kq, .long)])) [0, 1, 2, 3, 4, 5, 6, 7, 8, 9, 10, 11, 12, 13, 28] rfl
  have hF : ∀ z, va_A (cb_w a k S ++ [(q, .inl (kq, (1, .inr (.inl (f)))))]) H.size z → s.heap.size ≤ z := va_free hD hS hA [0, 1, 2, 3, 4, 5, 6, 7, 8, 9, 10, 11, 12, 13, 14, 15, 16, 17, 18, 19, 35] rfl
  refine va_calli (vx_runSW (As := [.ref (a 0), .int (xs ((5 * j) + 1)), .int (xs ((5 * j) + 2)), .ref q]) (rest := []) ⟨hx, hb, hml, hown, hts⟩ (c_L_away l hl9 dC dI a k S q kq f H.size (xs ((5 * j) + 1)) (xs ((5 * j) + 2)) hI) (vx_cwSW 4 hts gL_law_L_away rfl rfl rfl (by decide +kernel) ⟨(Nat.le_of_ble_eq_true rfl), (Nat.le_of_ble_eq_true rfl)⟩) ⟨cV_blind, fun U hU hW => ⟨rfl, cV_of hKc hPc hDc hE hS hU hW hF⟩⟩ rfl rfl hl.1 rfl (lv_room (Nat.le_of_ble_eq_true rfl)) dL_law_1721 ⟨(by show cells + 8 ≤ room_1.cells; exact Nat.le_trans (by omega) rm_c), (by show slots + 48 ≤ room_1.slots; exact Nat.le_trans (by omega) rm_s)⟩) hS (fun z _ h => hF z h) hF (fun r8 f8 t8 H1 L1 ht hvm hw hB hz1 hk1 hS => ?_)
  obtain ⟨hr8, hf8⟩ := hw
  subst hr8
  obtain ⟨hP9, -, hD9⟩ := hB
  rw [ht] at hP9
  obtain ⟨hP8, hD8⟩ := va_join (wc := (cb_w a k S ++ [(q, .inl (kq, (1, .inr (.inl (f)))))])) (wr := (mb_w am km S th)) hP hD [0, 1, 2, 3, 4, 5, 6, 7, 8, 9, 10, 11, 12, 13, 14, 15, 16, 17, 18, 19, 35] [20, 21, 22, 23, 24, 25, 26, 27, 28, 29, 30, 31, 32, 33, 34] rfl rfl (by decide) (by decide) hk1 hF hP9 hD9
  have hP : va_P (dC, dI) vwCl (cb_w a k S ++ (mb_w am km S th ++ [(q, .inl (kq, (1, .inr (.inl (f8)))))])) H1 := hP8.sub [15, 16, 17, 18, 19, 20, 21, 22, 23, 24, 25, 26, 27, 28, 29, 30, 31, 32, 33, 34, 0, 1, 2, 3, 4, 5, 6, 7, 8, 9, 10, 11, 12, 13, 14, 35] rfl
  have hD : va_D (fun z => s.heap.size ≤ z) (cb_w a k S ++ (mb_w am km S th ++ [(q, .inl (kq, (1, .inr (.inl (f8)))))])) := hD8.sub [15, 16, 17, 18, 19, 20, 21, 22, 23, 24, 25, 26, 27, 28, 29, 30, 31, 32, 33, 34, 0, 1, 2, 3, 4, 5, 6, 7, 8, 9, 10, 11, 12, 13, 14, 35] (by decide) rfl
  refine lv_istore (lv' := [(5, .int (nI (k_away S (xs ((5 * j) + 1)) (xs ((5 * j) + 2))))), (0, .ref b), (1, .ref (a 0)), (2, .ref (am 0)), (3, .ref q), (4, .int (nI (5 * j)))]) hx hb dL_law_1724 hl (by decide) rfl (fun ls hl => ?_)
  refine lv_aload_n hx hb dL_law_1726 rfl (lv_at hl 3 rfl) ?_
  refine lv_aload_n hx hb dL_law_1727 rfl (lv_at hl 1 rfl) ?_
  refine lv_iload hx hb dL_law_1728 (lv_at hl 5 rfl) ?_
  refine lv_iconst (v := nI 1) hx hb dL_law_1730 (by decide) ?_
  refine lv_iadd hx hb dL_law_1731 ?_
  refine cb_topi (nI_add _ _) ?_
  refine va_sld hx hb hX hbl hbA hS (i := nI ((5 * j) + 1)) (vp_in_nI (show (5 * j) + 1 < L by omega) (by omega)) dL_law_1732 ?_
  refine cb_topi (z := xs ((5 * j) + 1)) (congrArg xs (tn (by omega))) ?_
  refine lv_aload_n hx hb dL_law_1733 rfl (lv_at hl 1 rfl) ?_
  refine lv_iload hx hb dL_law_1734 (lv_at hl 5 rfl) ?_
  refine lv_iconst (v := nI 2) hx hb dL_law_1736 (by decide) ?_
  refine lv_iadd hx hb dL_law_1737 ?_
  refine cb_topi (nI_add _ _) ?_
  refine va_sld hx hb hX hbl hbA hS (i := nI ((5 * j) + 2)) (vp_in_nI (show (5 * j) + 2 < L by omega) (by omega)) dL_law_1738 ?_
  refine cb_topi (z := xs ((5 * j) + 2)) (congrArg xs (tn (by omega))) ?_
  have hPc := hP.sub (ws' := (mb_w am km S th)) [20, 21, 22, 23, 24, 25, 26, 27, 28, 29, 30, 31, 32, 33, 34] rfl
  have hDc := hD.sub (ws' := (mb_w am km S th)) [20, 21, 22, 23, 24, 25, 26, 27, 28, 29, 30, 31, 32, 33, 34] (by decide) rfl
  have hKc := hK.sub (tys' := (mb_ty km)) [14, 15, 16, 17, 18, 19, 20, 21, 22, 23, 24, 25, 26, 27] rfl
  have hF : ∀ z, va_A (mb_w am km S th) H1.size z → s.heap.size ≤ z := va_free hD hS hA [20, 21, 22, 23, 24, 25, 26, 27, 28, 29, 30, 31, 32, 33, 34] rfl
  refine va_calli (va_runV (As := [.int (xs ((5 * j) + 1)), .int (xs ((5 * j) + 2))]) (rest := []) ⟨hx, hb, hml, hown, hts⟩ (c_X6_away l dC dI am km S th H1.size (xs ((5 * j) + 1)) (xs ((5 * j) + 2)) hI) (cwV 2 hts gL_law_X6_away rfl rfl rfl (by decide +kernel) ⟨(Nat.le_of_ble_eq_true rfl), (Nat.le_of_ble_eq_true rfl)⟩) ⟨cT_blind, va_recv hKc hPc (ci := 6) (q0 := 0) rfl rfl, fun U hU hW => ⟨rfl, cT_of hKc hPc hDc hU hW⟩⟩ rfl rfl hl.1 rfl (lv_room (Nat.le_of_ble_eq_true rfl)) dL_law_1739 ⟨(by show (cells + 8) + 0 ≤ room_1.cells; exact Nat.le_trans (by omega) rm_c), (by show (slots + 48) + 0 ≤ room_1.slots; exact Nat.le_trans (by omega) rm_s)⟩) hS (fun z _ h => hF z h) hF (fun r9 u9 t9 H2 L2 ht hvm hr9 hB hz1 hk1 hS => ?_)
  obtain ⟨hP9, -, hD9⟩ := hB
  rw [ht] at hP9
  obtain ⟨hP8, hD8⟩ := va_join (wc := (mb_w am km S th)) (wr := ((cb_w a k S) ++ [(q, .inl (kq, (1, .inr (.inl (f8)))))])) hP hD [20, 21, 22, 23, 24, 25, 26, 27, 28, 29, 30, 31, 32, 33, 34] [0, 1, 2, 3, 4, 5, 6, 7, 8, 9, 10, 11, 12, 13, 14, 15, 16, 17, 18, 19, 35] rfl rfl (by decide) (by decide) hk1 hF hP9 hD9
  have hP : va_P (dC, dI) vwCl (cb_w a k S ++ (mb_w am km S (k_away S (xs ((5 * j) + 1)) (xs ((5 * j) + 2))) ++ [(q, .inl (kq, (1, .inr (.inl (f8)))))])) H2 := hP8.sub [0, 1, 2, 3, 4, 5, 6, 7, 8, 9, 10, 11, 12, 13, 14, 15, 16, 17, 18, 19, 21, 22, 23, 24, 25, 26, 27, 28, 29, 30, 31, 32, 33, 34, 35, 20] rfl
  have hD : va_D (fun z => s.heap.size ≤ z) (cb_w a k S ++ (mb_w am km S (k_away S (xs ((5 * j) + 1)) (xs ((5 * j) + 2))) ++ [(q, .inl (kq, (1, .inr (.inl (f8)))))])) := hD8.sub [0, 1, 2, 3, 4, 5, 6, 7, 8, 9, 10, 11, 12, 13, 14, 15, 16, 17, 18, 19, 21, 22, 23, 24, 25, 26, 27, 28, 29, 30, 31, 32, 33, 34, 35, 20] (by decide) rfl
  refine lv_istore (lv' := [(6, .int r9), (5, .int (nI (k_away S (xs ((5 * j) + 1)) (xs ((5 * j) + 2))))), (0, .ref b), (1, .ref (a 0)), (2, .ref (am 0)), (3, .ref q), (4, .int (nI (5 * j)))]) hx hb dL_law_1742 hl (by decide) rfl (fun ls hl => ?_)
  refine lv_aload_n hx hb dL_law_1744 rfl (lv_at hl 4 rfl) ?_
  have hPc := hP.sub (ws' := (mb_w am km S (k_away S (xs ((5 * j) + 1)) (xs ((5 * j) + 2))))) [20, 21, 22, 23, 24, 25, 26, 27, 28, 29, 30, 31, 32, 33, 34] rfl
  have hDc := hD.sub (ws' := (mb_w am km S (k_away S (xs ((5 * j) + 1)) (xs ((5 * j) + 2))))) [20, 21, 22, 23, 24, 25, 26, 27, 28, 29, 30, 31, 32, 33, 34] (by decide) rfl
  have hKc := hK.sub (tys' := (mb_ty km)) [14, 15, 16, 17, 18, 19, 20, 21, 22, 23, 24, 25, 26, 27] rfl
  refine vp_callSi (W.runV (As := []) (rest := []) ⟨hx, hb, hml, hown, hts⟩ (c_X6_thrown l dC dI am km S (k_away S (xs ((5 * j) + 1)) (xs ((5 * j) + 2)))) (cwV 0 hts gL_law_X6_thrown rfl rfl rfl (by decide +kernel) ⟨(Nat.le_of_ble_eq_true rfl), (Nat.le_of_ble_eq_true rfl)⟩) ⟨cR_blind, va_recv hKc hPc (ci := 6) (q0 := 0) rfl rfl, fun U hU hW => ⟨rfl, cR_of hKc hPc hU hW⟩⟩ rfl rfl hl.1 rfl (lv_room (Nat.le_of_ble_eq_true rfl)) dL_law_1745 ⟨(by show ((cells + 8) + 0) + 0 ≤ room_1.cells; exact Nat.le_trans (by omega) rm_c), (by show ((slots + 48) + 0) + 0 ≤ room_1.slots; exact Nat.le_trans (by omega) rm_s)⟩) (fun r er => ?_)
  subst er
  refine lv_iload hx hb dL_law_1748 (lv_at hl 1 rfl) ?_
  refine lv_icmp_eq (tgt := 1755) hx hb dL_law_1750 (by decide) (fun c_1750 => ?_) (fun c_1750 => ?_)
  · skip
    refine lv_iload hx hb dL_law_1755 (lv_at hl 1 rfl) ?_
    refine lv_if_ne (tgt := 1772) hx hb dL_law_1757 (by decide) (fun c_1757 => ?_) (fun c_1757 => ?_)
    · skip
      refine lv_goto (tgt := 2067) hx hb dL_law_1772 (by decide) ?_
      refine W.widen (k := cells + 231) (n := slots + 1597) (by omega) (by omega) ?_
      exact kk S (k_away S (xs ((5 * j) + 1)) (xs ((5 * j) + 2))) f8 H2 _ ls hI hP hD hS (lv_sub hl [2, 3, 4, 5, 6] rfl)
    · skip
      have h0 := kz kb_away c_1757
      refine lv_aload_n hx hb dL_law_1760 rfl (lv_at hl 5 rfl) ?_
      refine lv_iconst (v := nI 0) hx hb dL_law_1761 (by decide) ?_
      refine cb_lald hx hb hK hP 35 28 (f := f8) rfl rfl (j := 0) (by omega) (Nat.le_of_ble_eq_true rfl) dL_law_1762 ?_
      refine lv_iload hx hb dL_law_1763 (lv_at hl 0 rfl) ?_
      refine lv_i2l hx hb dL_law_1765 rfl ?_
      refine W.lcmp hx hb dL_law_1766 ?_
      refine lv_if_eq (tgt := 1772) hx hb dL_law_1767 (by decide) (fun c_1767 => ?_) (fun c_1767 => ?_)
      · have c_1767 : (f8 0) = r9.toInt64 := lg_cmp_t c_1767
        refine lv_goto (tgt := 2067) hx hb dL_law_1772 (by decide) ?_
        refine W.widen (k := cells + 231) (n := slots + 1597) (by omega) (by omega) ?_
        exact kk S (k_away S (xs ((5 * j) + 1)) (xs ((5 * j) + 2))) f8 H2 _ ls hI hP hD hS (lv_sub hl [2, 3, 4, 5, 6] rfl)
      · have c_1767 : ¬ (f8 0) = r9.toInt64 := lg_cmp_f c_1767
        exact absurd (by rw [hf8 h0, hr9 h0]) c_1767
  · skip
    exact absurd rfl c_1750
theorem kb_earn {S : cs_S} {x0 : Int32} {x1 : Int32} : k_earn S x0 x1 < 4 := by unfold k_earn; (repeat' split) <;> decide
set_option maxHeartbeats 4000000 in
set_option maxRecDepth 100000 in
theorem lc_earn {p : Program} {l : Launch} {e : Env} {s : State} {m : MethodId} {below : List Frame} {meth : Method} {c : Code} {b L : Nat} {xs : Nat → Int32} {dC : Nat → ClassId} {dI : Nat → Nat → Nat} {a : Nat → Nat} {k : Nat → ClassId} {am : Nat → Nat} {km : Nat → ClassId} {q : Nat} {kq : ClassId} (hl9 : l.stackTraces = false) (C0 : LC p s m c b L xs dC dI k km kq) {S : cs_S} {th : Nat} {f : Nat → Int64} {H : Heap} {locs : List Loc} {j : Nat} {ls : Array Slot} {cells slots : Nat} {Q : State → Prop} (hI : Inv S) (hP : va_P (dC, dI) vwCl (cb_w a k S ++ (mb_w am km S th ++ [(q, .inl (kq, (1, .inr (.inl (f)))))])) H) (hD : va_D (fun z => s.heap.size ≤ z) (cb_w a k S ++ (mb_w am km S th ++ [(q, .inl (kq, (1, .inr (.inl (f)))))]))) (hS : va_S (fun z => s.heap.size ≤ z) s.heap H locs) (hj : 5 * j + 5 ≤ L) (hl : lv_has ls 9 [(0, .ref b), (1, .ref (a 0)), (2, .ref (am 0)), (3, .ref q), (4, .int (nI (5 * j)))]) (hc : cells + 231 ≤ 200000) (hs : slots + 1597 ≤ 2000000) (kk : KK p l e s m below meth c b dC dI a k am km q kq j cells slots Q) : W p l e room_1 s m #[Value.ref b] below meth c H locs cells slots Q (F0 m 1775 ls []) := by
  obtain ⟨hx, hb, hml, hown, hts, hX, hbl, hL, hK, hE⟩ := C0
  have hbA : ¬ (fun z => s.heap.size ≤ z) b := Nat.not_le.mpr hbl
  have hA : ∀ z : Nat, s.heap.size ≤ z → (fun z => s.heap.size ≤ z) z := fun _ h => h
  refine lv_aload_n hx hb dL_law_1775 rfl (lv_at hl 1 rfl) ?_
  refine lv_aload_n hx hb dL_law_1776 rfl (lv_at hl 0 rfl) ?_
  refine lv_iload hx hb dL_law_1777 (lv_at hl 4 rfl) ?_
  refine lv_iconst (v := nI 1) hx hb dL_law_1779 (by decide) ?_
  refine lv_iadd hx hb dL_law_1780 ?_
  refine cb_topi (nI_add _ _) ?_
  refine va_sld hx hb hX hbl hbA hS (i := nI ((5 * j) + 1)) (vp_in_nI (show (5 * j) + 1 < L by omega) (by omega)) dL_law_1781 ?_
  refine cb_topi (z := xs ((5 * j) + 1)) (congrArg xs (tn (by omega))) ?_
  refine lv_aload_n hx hb dL_law_1782 rfl (lv_at hl 0 rfl) ?_
  refine lv_iload hx hb dL_law_1783 (lv_at hl 4 rfl) ?_
  refine lv_iconst (v := nI 2) hx hb dL_law_1785 (by decide) ?_
  refine lv_iadd hx hb dL_law_1786 ?_
  refine cb_topi (nI_add _ _) ?_
  refine va_sld hx hb hX hbl hbA hS (i := nI ((5 * j) + 2)) (vp_in_nI (show (5 * j) + 2 < L by omega) (by omega)) dL_law_1787 ?_
  refine cb_topi (z := xs ((5 * j) + 2)) (congrArg xs (tn (by omega))) ?_
  refine lv_aload_n hx hb dL_law_1788 rfl (lv_at hl 3 rfl) ?_
  have hPc := hP.sub (ws' := (cb_w a k S ++ [(q, .inl (kq, (1, .inr (.inl (f)))))])) [0, 1, 2, 3, 4, 5, 6, 7, 8, 9, 10, 11, 12, 13, 14, 15, 16, 17, 18, 19, 35] rfl
  have hDc := hD.sub (ws' := (cb_w a k S ++ [(q, .inl (kq, (1, .inr (.inl (f)))))])) [0, 1, 2, 3, 4, 5, 6, 7, 8, 9, 10, 11, 12, 13, 14, 15, 16, 17, 18, 19, 35] (by decide) rfl
  have hKc := hK.sub (tys' := (cb_ty k ++ [(kq, .long)])) [0, 1, 2, 3, 4, 5, 6, 7, 8, 9, 10, 11, 12, 13, 28] rfl
  have hF : ∀ z, va_A (cb_w a k S ++ [(q, .inl (kq, (1, .inr (.inl (f)))))]) H.size z → s.heap.size ≤ z := va_free hD hS hA [0, 1, 2, 3, 4, 5, 6, 7, 8, 9, 10, 11, 12, 13, 14, 15, 16, 17, 18, 19, 35] rfl
  refine va_calli (vx_runSW (As := [.ref (a 0), .int (xs ((5 * j) + 1)), .int (xs ((5 * j) + 2)), .ref q]) (rest := []) ⟨hx, hb, hml, hown, hts⟩ (c_L_earn l hl9 dC dI a k S q kq f H.size (xs ((5 * j) + 1)) (xs ((5 * j) + 2)) hI) (vx_cwSW 4 hts gL_law_L_earn rfl rfl rfl (by decide +kernel) ⟨(Nat.le_of_ble_eq_true rfl), (Nat.le_of_ble_eq_true rfl)⟩) ⟨cV_blind, fun U hU hW => ⟨rfl, cV_of hKc hPc hDc hE hS hU hW hF⟩⟩ rfl rfl hl.1 rfl (lv_room (Nat.le_of_ble_eq_true rfl)) dL_law_1789 ⟨(by show cells + 8 ≤ room_1.cells; exact Nat.le_trans (by omega) rm_c), (by show slots + 48 ≤ room_1.slots; exact Nat.le_trans (by omega) rm_s)⟩) hS (fun z _ h => hF z h) hF (fun r8 f8 t8 H1 L1 ht hvm hw hB hz1 hk1 hS => ?_)
  obtain ⟨hr8, hf8⟩ := hw
  subst hr8
  obtain ⟨hP9, -, hD9⟩ := hB
  rw [ht] at hP9
  obtain ⟨hP8, hD8⟩ := va_join (wc := (cb_w a k S ++ [(q, .inl (kq, (1, .inr (.inl (f)))))])) (wr := (mb_w am km S th)) hP hD [0, 1, 2, 3, 4, 5, 6, 7, 8, 9, 10, 11, 12, 13, 14, 15, 16, 17, 18, 19, 35] [20, 21, 22, 23, 24, 25, 26, 27, 28, 29, 30, 31, 32, 33, 34] rfl rfl (by decide) (by decide) hk1 hF hP9 hD9
  have hP : va_P (dC, dI) vwCl (cb_w a k (kS (k_earn S (xs ((5 * j) + 1)) (xs ((5 * j) + 2))) (S_earn S (xs ((5 * j) + 1)) (xs ((5 * j) + 2))) S) ++ (mb_w am km S th ++ [(q, .inl (kq, (1, .inr (.inl (f8)))))])) H1 := hP8.sub [15, 16, 17, 18, 19, 20, 21, 22, 23, 24, 25, 26, 27, 28, 29, 30, 31, 32, 33, 34, 0, 1, 2, 3, 4, 5, 6, 7, 8, 9, 10, 11, 12, 13, 14, 35] rfl
  have hD : va_D (fun z => s.heap.size ≤ z) (cb_w a k (kS (k_earn S (xs ((5 * j) + 1)) (xs ((5 * j) + 2))) (S_earn S (xs ((5 * j) + 1)) (xs ((5 * j) + 2))) S) ++ (mb_w am km S th ++ [(q, .inl (kq, (1, .inr (.inl (f8)))))])) := hD8.sub [15, 16, 17, 18, 19, 20, 21, 22, 23, 24, 25, 26, 27, 28, 29, 30, 31, 32, 33, 34, 0, 1, 2, 3, 4, 5, 6, 7, 8, 9, 10, 11, 12, 13, 14, 35] (by decide) rfl
  refine lv_istore (lv' := [(5, .int (nI (k_earn S (xs ((5 * j) + 1)) (xs ((5 * j) + 2))))), (0, .ref b), (1, .ref (a 0)), (2, .ref (am 0)), (3, .ref q), (4, .int (nI (5 * j)))]) hx hb dL_law_1792 hl (by decide) rfl (fun ls hl => ?_)
  refine lv_aload_n hx hb dL_law_1794 rfl (lv_at hl 3 rfl) ?_
  refine lv_aload_n hx hb dL_law_1795 rfl (lv_at hl 1 rfl) ?_
  refine lv_iload hx hb dL_law_1796 (lv_at hl 5 rfl) ?_
  refine lv_iconst (v := nI 1) hx hb dL_law_1798 (by decide) ?_
  refine lv_iadd hx hb dL_law_1799 ?_
  refine cb_topi (nI_add _ _) ?_
  refine va_sld hx hb hX hbl hbA hS (i := nI ((5 * j) + 1)) (vp_in_nI (show (5 * j) + 1 < L by omega) (by omega)) dL_law_1800 ?_
  refine cb_topi (z := xs ((5 * j) + 1)) (congrArg xs (tn (by omega))) ?_
  refine lv_aload_n hx hb dL_law_1801 rfl (lv_at hl 1 rfl) ?_
  refine lv_iload hx hb dL_law_1802 (lv_at hl 5 rfl) ?_
  refine lv_iconst (v := nI 2) hx hb dL_law_1804 (by decide) ?_
  refine lv_iadd hx hb dL_law_1805 ?_
  refine cb_topi (nI_add _ _) ?_
  refine va_sld hx hb hX hbl hbA hS (i := nI ((5 * j) + 2)) (vp_in_nI (show (5 * j) + 2 < L by omega) (by omega)) dL_law_1806 ?_
  refine cb_topi (z := xs ((5 * j) + 2)) (congrArg xs (tn (by omega))) ?_
  have hPc := hP.sub (ws' := (mb_w am km S th)) [20, 21, 22, 23, 24, 25, 26, 27, 28, 29, 30, 31, 32, 33, 34] rfl
  have hDc := hD.sub (ws' := (mb_w am km S th)) [20, 21, 22, 23, 24, 25, 26, 27, 28, 29, 30, 31, 32, 33, 34] (by decide) rfl
  have hKc := hK.sub (tys' := (mb_ty km)) [14, 15, 16, 17, 18, 19, 20, 21, 22, 23, 24, 25, 26, 27] rfl
  have hF : ∀ z, va_A (mb_w am km S th) H1.size z → s.heap.size ≤ z := va_free hD hS hA [20, 21, 22, 23, 24, 25, 26, 27, 28, 29, 30, 31, 32, 33, 34] rfl
  refine va_calli (va_runV (As := [.int (xs ((5 * j) + 1)), .int (xs ((5 * j) + 2))]) (rest := []) ⟨hx, hb, hml, hown, hts⟩ (c_X6_earn l dC dI am km S th H1.size (xs ((5 * j) + 1)) (xs ((5 * j) + 2)) hI) (cwV 2 hts gL_law_X6_earn rfl rfl rfl (by decide +kernel) ⟨(Nat.le_of_ble_eq_true rfl), (Nat.le_of_ble_eq_true rfl)⟩) ⟨cT_blind, va_recv hKc hPc (ci := 6) (q0 := 0) rfl rfl, fun U hU hW => ⟨rfl, cT_of hKc hPc hDc hU hW⟩⟩ rfl rfl hl.1 rfl (lv_room (Nat.le_of_ble_eq_true rfl)) dL_law_1807 ⟨(by show (cells + 8) + 0 ≤ room_1.cells; exact Nat.le_trans (by omega) rm_c), (by show (slots + 48) + 0 ≤ room_1.slots; exact Nat.le_trans (by omega) rm_s)⟩) hS (fun z _ h => hF z h) hF (fun r9 u9 t9 H2 L2 ht hvm hr9 hB hz1 hk1 hS => ?_)
  obtain ⟨hP9, -, hD9⟩ := hB
  rw [ht] at hP9
  obtain ⟨hP8, hD8⟩ := va_join (wc := (mb_w am km S th)) (wr := ((cb_w a k (kS (k_earn S (xs ((5 * j) + 1)) (xs ((5 * j) + 2))) (S_earn S (xs ((5 * j) + 1)) (xs ((5 * j) + 2))) S)) ++ [(q, .inl (kq, (1, .inr (.inl (f8)))))])) hP hD [20, 21, 22, 23, 24, 25, 26, 27, 28, 29, 30, 31, 32, 33, 34] [0, 1, 2, 3, 4, 5, 6, 7, 8, 9, 10, 11, 12, 13, 14, 15, 16, 17, 18, 19, 35] rfl rfl (by decide) (by decide) hk1 hF hP9 hD9
  have hP : va_P (dC, dI) vwCl (cb_w a k (kS (k_earn S (xs ((5 * j) + 1)) (xs ((5 * j) + 2))) (S_earn S (xs ((5 * j) + 1)) (xs ((5 * j) + 2))) S) ++ (mb_w am km (kS (k_earn S (xs ((5 * j) + 1)) (xs ((5 * j) + 2))) (S_earn S (xs ((5 * j) + 1)) (xs ((5 * j) + 2))) S) (k_earn S (xs ((5 * j) + 1)) (xs ((5 * j) + 2))) ++ [(q, .inl (kq, (1, .inr (.inl (f8)))))])) H2 := hP8.sub [0, 1, 2, 3, 4, 5, 6, 7, 8, 9, 10, 11, 12, 13, 14, 15, 16, 17, 18, 19, 21, 22, 23, 24, 25, 26, 27, 28, 29, 30, 31, 32, 33, 34, 35, 20] rfl
  have hD : va_D (fun z => s.heap.size ≤ z) (cb_w a k (kS (k_earn S (xs ((5 * j) + 1)) (xs ((5 * j) + 2))) (S_earn S (xs ((5 * j) + 1)) (xs ((5 * j) + 2))) S) ++ (mb_w am km (kS (k_earn S (xs ((5 * j) + 1)) (xs ((5 * j) + 2))) (S_earn S (xs ((5 * j) + 1)) (xs ((5 * j) + 2))) S) (k_earn S (xs ((5 * j) + 1)) (xs ((5 * j) + 2))) ++ [(q, .inl (kq, (1, .inr (.inl (f8)))))])) := hD8.sub [0, 1, 2, 3, 4, 5, 6, 7, 8, 9, 10, 11, 12, 13, 14, 15, 16, 17, 18, 19, 21, 22, 23, 24, 25, 26, 27, 28, 29, 30, 31, 32, 33, 34, 35, 20] (by decide) rfl
  refine lv_istore (lv' := [(6, .int r9), (5, .int (nI (k_earn S (xs ((5 * j) + 1)) (xs ((5 * j) + 2))))), (0, .ref b), (1, .ref (a 0)), (2, .ref (am 0)), (3, .ref q), (4, .int (nI (5 * j)))]) hx hb dL_law_1810 hl (by decide) rfl (fun ls hl => ?_)
  refine lv_aload_n hx hb dL_law_1812 rfl (lv_at hl 4 rfl) ?_
  have hPc := hP.sub (ws' := (mb_w am km (kS (k_earn S (xs ((5 * j) + 1)) (xs ((5 * j) + 2))) (S_earn S (xs ((5 * j) + 1)) (xs ((5 * j) + 2))) S) (k_earn S (xs ((5 * j) + 1)) (xs ((5 * j) + 2))))) [20, 21, 22, 23, 24, 25, 26, 27, 28, 29, 30, 31, 32, 33, 34] rfl
  have hDc := hD.sub (ws' := (mb_w am km (kS (k_earn S (xs ((5 * j) + 1)) (xs ((5 * j) + 2))) (S_earn S (xs ((5 * j) + 1)) (xs ((5 * j) + 2))) S) (k_earn S (xs ((5 * j) + 1)) (xs ((5 * j) + 2))))) [20, 21, 22, 23, 24, 25, 26, 27, 28, 29, 30, 31, 32, 33, 34] (by decide) rfl
  have hKc := hK.sub (tys' := (mb_ty km)) [14, 15, 16, 17, 18, 19, 20, 21, 22, 23, 24, 25, 26, 27] rfl
  refine vp_callSi (W.runV (As := []) (rest := []) ⟨hx, hb, hml, hown, hts⟩ (c_X6_thrown l dC dI am km (kS (k_earn S (xs ((5 * j) + 1)) (xs ((5 * j) + 2))) (S_earn S (xs ((5 * j) + 1)) (xs ((5 * j) + 2))) S) (k_earn S (xs ((5 * j) + 1)) (xs ((5 * j) + 2)))) (cwV 0 hts gL_law_X6_thrown rfl rfl rfl (by decide +kernel) ⟨(Nat.le_of_ble_eq_true rfl), (Nat.le_of_ble_eq_true rfl)⟩) ⟨cR_blind, va_recv hKc hPc (ci := 6) (q0 := 0) rfl rfl, fun U hU hW => ⟨rfl, cR_of hKc hPc hU hW⟩⟩ rfl rfl hl.1 rfl (lv_room (Nat.le_of_ble_eq_true rfl)) dL_law_1813 ⟨(by show ((cells + 8) + 0) + 0 ≤ room_1.cells; exact Nat.le_trans (by omega) rm_c), (by show ((slots + 48) + 0) + 0 ≤ room_1.slots; exact Nat.le_trans (by omega) rm_s)⟩) (fun r er => ?_)
  subst er
  refine lv_iload hx hb dL_law_1816 (lv_at hl 1 rfl) ?_
  refine lv_icmp_eq (tgt := 1823) hx hb dL_law_1818 (by decide) (fun c_1818 => ?_) (fun c_1818 => ?_)
  · skip
    refine lv_iload hx hb dL_law_1823 (lv_at hl 1 rfl) ?_
    refine lv_if_ne (tgt := 1840) hx hb dL_law_1825 (by decide) (fun c_1825 => ?_) (fun c_1825 => ?_)
    · skip
      refine lv_goto (tgt := 2067) hx hb dL_law_1840 (by decide) ?_
      refine W.widen (k := cells + 231) (n := slots + 1597) (by omega) (by omega) ?_
      exact kk (kS (k_earn S (xs ((5 * j) + 1)) (xs ((5 * j) + 2))) (S_earn S (xs ((5 * j) + 1)) (xs ((5 * j) + 2))) S) (k_earn S (xs ((5 * j) + 1)) (xs ((5 * j) + 2))) f8 H2 _ ls (inv_kS hI (fun h9 => inv_earn hI h9)) hP hD hS (lv_sub hl [2, 3, 4, 5, 6] rfl)
    · skip
      have h0 := kz kb_earn c_1825
      refine lv_aload_n hx hb dL_law_1828 rfl (lv_at hl 5 rfl) ?_
      refine lv_iconst (v := nI 0) hx hb dL_law_1829 (by decide) ?_
      refine cb_lald hx hb hK hP 35 28 (f := f8) rfl rfl (j := 0) (by omega) (Nat.le_of_ble_eq_true rfl) dL_law_1830 ?_
      refine lv_iload hx hb dL_law_1831 (lv_at hl 0 rfl) ?_
      refine lv_i2l hx hb dL_law_1833 rfl ?_
      refine W.lcmp hx hb dL_law_1834 ?_
      refine lv_if_eq (tgt := 1840) hx hb dL_law_1835 (by decide) (fun c_1835 => ?_) (fun c_1835 => ?_)
      · have c_1835 : (f8 0) = r9.toInt64 := lg_cmp_t c_1835
        refine lv_goto (tgt := 2067) hx hb dL_law_1840 (by decide) ?_
        refine W.widen (k := cells + 231) (n := slots + 1597) (by omega) (by omega) ?_
        exact kk (kS (k_earn S (xs ((5 * j) + 1)) (xs ((5 * j) + 2))) (S_earn S (xs ((5 * j) + 1)) (xs ((5 * j) + 2))) S) (k_earn S (xs ((5 * j) + 1)) (xs ((5 * j) + 2))) f8 H2 _ ls (inv_kS hI (fun h9 => inv_earn hI h9)) hP hD hS (lv_sub hl [2, 3, 4, 5, 6] rfl)
      · have c_1835 : ¬ (f8 0) = r9.toInt64 := lg_cmp_f c_1835
        exact absurd (by rw [hf8 h0, hr9 h0]) c_1835
  · skip
    exact absurd rfl c_1818
theorem kb_hike {S : cs_S} {y : Int64} {x1 : Int32} {x2 : Int32} : k_hike S y x1 x2 < 4 := by unfold k_hike; (repeat' split) <;> decide
set_option maxHeartbeats 4000000 in
set_option maxRecDepth 100000 in
theorem lc_hike {p : Program} {l : Launch} {e : Env} {s : State} {m : MethodId} {below : List Frame} {meth : Method} {c : Code} {b L : Nat} {xs : Nat → Int32} {dC : Nat → ClassId} {dI : Nat → Nat → Nat} {a : Nat → Nat} {k : Nat → ClassId} {am : Nat → Nat} {km : Nat → ClassId} {q : Nat} {kq : ClassId} (hl9 : l.stackTraces = false) (C0 : LC p s m c b L xs dC dI k km kq) {S : cs_S} {th : Nat} {f : Nat → Int64} {H : Heap} {locs : List Loc} {j : Nat} {ls : Array Slot} {cells slots : Nat} {Q : State → Prop} (hI : Inv S) (hP : va_P (dC, dI) vwCl (cb_w a k S ++ (mb_w am km S th ++ [(q, .inl (kq, (1, .inr (.inl (f)))))])) H) (hD : va_D (fun z => s.heap.size ≤ z) (cb_w a k S ++ (mb_w am km S th ++ [(q, .inl (kq, (1, .inr (.inl (f)))))]))) (hS : va_S (fun z => s.heap.size ≤ z) s.heap H locs) (hj : 5 * j + 5 ≤ L) (hl : lv_has ls 9 [(0, .ref b), (1, .ref (a 0)), (2, .ref (am 0)), (3, .ref q), (4, .int (nI (5 * j)))]) (hc : cells + 231 ≤ 200000) (hs : slots + 1597 ≤ 2000000) (kk : KK p l e s m below meth c b dC dI a k am km q kq j cells slots Q) : W p l e room_1 s m #[Value.ref b] below meth c H locs cells slots Q (F0 m 1843 ls []) := by
  obtain ⟨hx, hb, hml, hown, hts, hX, hbl, hL, hK, hE⟩ := C0
  have hbA : ¬ (fun z => s.heap.size ≤ z) b := Nat.not_le.mpr hbl
  have hA : ∀ z : Nat, s.heap.size ≤ z → (fun z => s.heap.size ≤ z) z := fun _ h => h
  have f_0 := hts (.constantLong RL 200 (4294967295)) (by decide +kernel)
  refine lv_aload_n hx hb dL_law_1843 rfl (lv_at hl 1 rfl) ?_
  refine lv_aload_n hx hb dL_law_1844 rfl (lv_at hl 0 rfl) ?_
  refine lv_iload hx hb dL_law_1845 (lv_at hl 4 rfl) ?_
  refine lv_iconst (v := nI 1) hx hb dL_law_1847 (by decide) ?_
  refine lv_iadd hx hb dL_law_1848 ?_
  refine cb_topi (nI_add _ _) ?_
  refine va_sld hx hb hX hbl hbA hS (i := nI ((5 * j) + 1)) (vp_in_nI (show (5 * j) + 1 < L by omega) (by omega)) dL_law_1849 ?_
  refine cb_topi (z := xs ((5 * j) + 1)) (congrArg xs (tn (by omega))) ?_
  refine lv_i2l hx hb dL_law_1850 rfl ?_
  refine lv_bipush (v := nI 32) hx hb dL_law_1851 (by decide) ?_
  refine lv_lshl hx hb dL_law_1853 rfl ?_
  refine lv_aload_n hx hb dL_law_1854 rfl (lv_at hl 0 rfl) ?_
  refine lv_iload hx hb dL_law_1855 (lv_at hl 4 rfl) ?_
  refine lv_iconst (v := nI 2) hx hb dL_law_1857 (by decide) ?_
  refine lv_iadd hx hb dL_law_1858 ?_
  refine cb_topi (nI_add _ _) ?_
  refine va_sld hx hb hX hbl hbA hS (i := nI ((5 * j) + 2)) (vp_in_nI (show (5 * j) + 2 < L by omega) (by omega)) dL_law_1859 ?_
  refine cb_topi (z := xs ((5 * j) + 2)) (congrArg xs (tn (by omega))) ?_
  refine lv_i2l hx hb dL_law_1860 rfl ?_
  refine lv_ldc2 hx hb hown f_0 dL_law_1861 ?_
  refine lv_land hx hb dL_law_1864 ?_
  refine lv_lor hx hb dL_law_1865 ?_
  refine lv_aload_n hx hb dL_law_1866 rfl (lv_at hl 0 rfl) ?_
  refine lv_iload hx hb dL_law_1867 (lv_at hl 4 rfl) ?_
  refine lv_iconst (v := nI 3) hx hb dL_law_1869 (by decide) ?_
  refine lv_iadd hx hb dL_law_1870 ?_
  refine cb_topi (nI_add _ _) ?_
  refine va_sld hx hb hX hbl hbA hS (i := nI ((5 * j) + 3)) (vp_in_nI (show (5 * j) + 3 < L by omega) (by omega)) dL_law_1871 ?_
  refine cb_topi (z := xs ((5 * j) + 3)) (congrArg xs (tn (by omega))) ?_
  refine lv_aload_n hx hb dL_law_1872 rfl (lv_at hl 0 rfl) ?_
  refine lv_iload hx hb dL_law_1873 (lv_at hl 4 rfl) ?_
  refine lv_iconst (v := nI 4) hx hb dL_law_1875 (by decide) ?_
  refine lv_iadd hx hb dL_law_1876 ?_
  refine cb_topi (nI_add _ _) ?_
  refine va_sld hx hb hX hbl hbA hS (i := nI ((5 * j) + 4)) (vp_in_nI (show (5 * j) + 4 < L by omega) (by omega)) dL_law_1877 ?_
  refine cb_topi (z := xs ((5 * j) + 4)) (congrArg xs (tn (by omega))) ?_
  refine lv_aload_n hx hb dL_law_1878 rfl (lv_at hl 3 rfl) ?_
  have hPc := hP.sub (ws' := (cb_w a k S ++ [(q, .inl (kq, (1, .inr (.inl (f)))))])) [0, 1, 2, 3, 4, 5, 6, 7, 8, 9, 10, 11, 12, 13, 14, 15, 16, 17, 18, 19, 35] rfl
  have hDc := hD.sub (ws' := (cb_w a k S ++ [(q, .inl (kq, (1, .inr (.inl (f)))))])) [0, 1, 2, 3, 4, 5, 6, 7, 8, 9, 10, 11, 12, 13, 14, 15, 16, 17, 18, 19, 35] (by decide) rfl
  have hKc := hK.sub (tys' := (cb_ty k ++ [(kq, .long)])) [0, 1, 2, 3, 4, 5, 6, 7, 8, 9, 10, 11, 12, 13, 28] rfl
  have hF : ∀ z, va_A (cb_w a k S ++ [(q, .inl (kq, (1, .inr (.inl (f)))))]) H.size z → s.heap.size ≤ z := va_free hD hS hA [0, 1, 2, 3, 4, 5, 6, 7, 8, 9, 10, 11, 12, 13, 14, 15, 16, 17, 18, 19, 35] rfl
  refine va_calli (vx_runSW (As := [.ref (a 0), .long ((((xs ((5 * j) + 1)).toInt64) <<< ((nI 32).toInt64 &&& 63)) ||| (((xs ((5 * j) + 2)).toInt64) &&& (4294967295))), .int (xs ((5 * j) + 3)), .int (xs ((5 * j) + 4)), .ref q]) (rest := []) ⟨hx, hb, hml, hown, hts⟩ (c_L_hike l hl9 dC dI a k S q kq f H.size ((((xs ((5 * j) + 1)).toInt64) <<< ((nI 32).toInt64 &&& 63)) ||| (((xs ((5 * j) + 2)).toInt64) &&& (4294967295))) (xs ((5 * j) + 3)) (xs ((5 * j) + 4)) hI) (vx_cwSW 5 hts gL_law_L_hike rfl rfl rfl (by decide +kernel) ⟨(Nat.le_of_ble_eq_true rfl), (Nat.le_of_ble_eq_true rfl)⟩) ⟨cV_blind, fun U hU hW => ⟨rfl, cV_of hKc hPc hDc hE hS hU hW hF⟩⟩ rfl rfl hl.1 rfl (lv_room (Nat.le_of_ble_eq_true rfl)) dL_law_1879 ⟨(by show cells + 8 ≤ room_1.cells; exact Nat.le_trans (by omega) rm_c), (by show slots + 48 ≤ room_1.slots; exact Nat.le_trans (by omega) rm_s)⟩) hS (fun z _ h => hF z h) hF (fun r8 f8 t8 H1 L1 ht hvm hw hB hz1 hk1 hS => ?_)
  obtain ⟨hr8, hf8⟩ := hw
  subst hr8
  obtain ⟨hP9, -, hD9⟩ := hB
  rw [ht] at hP9
  obtain ⟨hP8, hD8⟩ := va_join (wc := (cb_w a k S ++ [(q, .inl (kq, (1, .inr (.inl (f)))))])) (wr := (mb_w am km S th)) hP hD [0, 1, 2, 3, 4, 5, 6, 7, 8, 9, 10, 11, 12, 13, 14, 15, 16, 17, 18, 19, 35] [20, 21, 22, 23, 24, 25, 26, 27, 28, 29, 30, 31, 32, 33, 34] rfl rfl (by decide) (by decide) hk1 hF hP9 hD9
  have hP : va_P (dC, dI) vwCl (cb_w a k S ++ (mb_w am km S th ++ [(q, .inl (kq, (1, .inr (.inl (f8)))))])) H1 := hP8.sub [15, 16, 17, 18, 19, 20, 21, 22, 23, 24, 25, 26, 27, 28, 29, 30, 31, 32, 33, 34, 0, 1, 2, 3, 4, 5, 6, 7, 8, 9, 10, 11, 12, 13, 14, 35] rfl
  have hD : va_D (fun z => s.heap.size ≤ z) (cb_w a k S ++ (mb_w am km S th ++ [(q, .inl (kq, (1, .inr (.inl (f8)))))])) := hD8.sub [15, 16, 17, 18, 19, 20, 21, 22, 23, 24, 25, 26, 27, 28, 29, 30, 31, 32, 33, 34, 0, 1, 2, 3, 4, 5, 6, 7, 8, 9, 10, 11, 12, 13, 14, 35] (by decide) rfl
  refine lv_istore (lv' := [(5, .int (nI (k_hike S ((((xs ((5 * j) + 1)).toInt64) <<< ((nI 32).toInt64 &&& 63)) ||| (((xs ((5 * j) + 2)).toInt64) &&& (4294967295))) (xs ((5 * j) + 3)) (xs ((5 * j) + 4))))), (0, .ref b), (1, .ref (a 0)), (2, .ref (am 0)), (3, .ref q), (4, .int (nI (5 * j)))]) hx hb dL_law_1882 hl (by decide) rfl (fun ls hl => ?_)
  refine lv_aload_n hx hb dL_law_1884 rfl (lv_at hl 3 rfl) ?_
  refine lv_aload_n hx hb dL_law_1885 rfl (lv_at hl 1 rfl) ?_
  refine lv_iload hx hb dL_law_1886 (lv_at hl 5 rfl) ?_
  refine lv_iconst (v := nI 1) hx hb dL_law_1888 (by decide) ?_
  refine lv_iadd hx hb dL_law_1889 ?_
  refine cb_topi (nI_add _ _) ?_
  refine va_sld hx hb hX hbl hbA hS (i := nI ((5 * j) + 1)) (vp_in_nI (show (5 * j) + 1 < L by omega) (by omega)) dL_law_1890 ?_
  refine cb_topi (z := xs ((5 * j) + 1)) (congrArg xs (tn (by omega))) ?_
  refine lv_i2l hx hb dL_law_1891 rfl ?_
  refine lv_bipush (v := nI 32) hx hb dL_law_1892 (by decide) ?_
  refine lv_lshl hx hb dL_law_1894 rfl ?_
  refine lv_aload_n hx hb dL_law_1895 rfl (lv_at hl 1 rfl) ?_
  refine lv_iload hx hb dL_law_1896 (lv_at hl 5 rfl) ?_
  refine lv_iconst (v := nI 2) hx hb dL_law_1898 (by decide) ?_
  refine lv_iadd hx hb dL_law_1899 ?_
  refine cb_topi (nI_add _ _) ?_
  refine va_sld hx hb hX hbl hbA hS (i := nI ((5 * j) + 2)) (vp_in_nI (show (5 * j) + 2 < L by omega) (by omega)) dL_law_1900 ?_
  refine cb_topi (z := xs ((5 * j) + 2)) (congrArg xs (tn (by omega))) ?_
  refine lv_i2l hx hb dL_law_1901 rfl ?_
  refine lv_ldc2 hx hb hown f_0 dL_law_1902 ?_
  refine lv_land hx hb dL_law_1905 ?_
  refine lv_lor hx hb dL_law_1906 ?_
  refine lv_aload_n hx hb dL_law_1907 rfl (lv_at hl 1 rfl) ?_
  refine lv_iload hx hb dL_law_1908 (lv_at hl 5 rfl) ?_
  refine lv_iconst (v := nI 3) hx hb dL_law_1910 (by decide) ?_
  refine lv_iadd hx hb dL_law_1911 ?_
  refine cb_topi (nI_add _ _) ?_
  refine va_sld hx hb hX hbl hbA hS (i := nI ((5 * j) + 3)) (vp_in_nI (show (5 * j) + 3 < L by omega) (by omega)) dL_law_1912 ?_
  refine cb_topi (z := xs ((5 * j) + 3)) (congrArg xs (tn (by omega))) ?_
  refine lv_aload_n hx hb dL_law_1913 rfl (lv_at hl 1 rfl) ?_
  refine lv_iload hx hb dL_law_1914 (lv_at hl 5 rfl) ?_
  refine lv_iconst (v := nI 4) hx hb dL_law_1916 (by decide) ?_
  refine lv_iadd hx hb dL_law_1917 ?_
  refine cb_topi (nI_add _ _) ?_
  refine va_sld hx hb hX hbl hbA hS (i := nI ((5 * j) + 4)) (vp_in_nI (show (5 * j) + 4 < L by omega) (by omega)) dL_law_1918 ?_
  refine cb_topi (z := xs ((5 * j) + 4)) (congrArg xs (tn (by omega))) ?_
  have hPc := hP.sub (ws' := (mb_w am km S th)) [20, 21, 22, 23, 24, 25, 26, 27, 28, 29, 30, 31, 32, 33, 34] rfl
  have hDc := hD.sub (ws' := (mb_w am km S th)) [20, 21, 22, 23, 24, 25, 26, 27, 28, 29, 30, 31, 32, 33, 34] (by decide) rfl
  have hKc := hK.sub (tys' := (mb_ty km)) [14, 15, 16, 17, 18, 19, 20, 21, 22, 23, 24, 25, 26, 27] rfl
  have hF : ∀ z, va_A (mb_w am km S th) H1.size z → s.heap.size ≤ z := va_free hD hS hA [20, 21, 22, 23, 24, 25, 26, 27, 28, 29, 30, 31, 32, 33, 34] rfl
  refine va_calli (va_runV (As := [.long ((((xs ((5 * j) + 1)).toInt64) <<< ((nI 32).toInt64 &&& 63)) ||| (((xs ((5 * j) + 2)).toInt64) &&& (4294967295))), .int (xs ((5 * j) + 3)), .int (xs ((5 * j) + 4))]) (rest := []) ⟨hx, hb, hml, hown, hts⟩ (c_X6_hike l dC dI am km S th H1.size ((((xs ((5 * j) + 1)).toInt64) <<< ((nI 32).toInt64 &&& 63)) ||| (((xs ((5 * j) + 2)).toInt64) &&& (4294967295))) (xs ((5 * j) + 3)) (xs ((5 * j) + 4)) hI) (cwV 3 hts gL_law_X6_hike rfl rfl rfl (by decide +kernel) ⟨(Nat.le_of_ble_eq_true rfl), (Nat.le_of_ble_eq_true rfl)⟩) ⟨cT_blind, va_recv hKc hPc (ci := 6) (q0 := 0) rfl rfl, fun U hU hW => ⟨rfl, cT_of hKc hPc hDc hU hW⟩⟩ rfl rfl hl.1 rfl (lv_room (Nat.le_of_ble_eq_true rfl)) dL_law_1919 ⟨(by show (cells + 8) + 0 ≤ room_1.cells; exact Nat.le_trans (by omega) rm_c), (by show (slots + 48) + 0 ≤ room_1.slots; exact Nat.le_trans (by omega) rm_s)⟩) hS (fun z _ h => hF z h) hF (fun r9 u9 t9 H2 L2 ht hvm hr9 hB hz1 hk1 hS => ?_)
  obtain ⟨hP9, -, hD9⟩ := hB
  rw [ht] at hP9
  obtain ⟨hP8, hD8⟩ := va_join (wc := (mb_w am km S th)) (wr := ((cb_w a k S) ++ [(q, .inl (kq, (1, .inr (.inl (f8)))))])) hP hD [20, 21, 22, 23, 24, 25, 26, 27, 28, 29, 30, 31, 32, 33, 34] [0, 1, 2, 3, 4, 5, 6, 7, 8, 9, 10, 11, 12, 13, 14, 15, 16, 17, 18, 19, 35] rfl rfl (by decide) (by decide) hk1 hF hP9 hD9
  have hP : va_P (dC, dI) vwCl (cb_w a k S ++ (mb_w am km S (k_hike S ((((xs ((5 * j) + 1)).toInt64) <<< ((nI 32).toInt64 &&& 63)) ||| (((xs ((5 * j) + 2)).toInt64) &&& (4294967295))) (xs ((5 * j) + 3)) (xs ((5 * j) + 4))) ++ [(q, .inl (kq, (1, .inr (.inl (f8)))))])) H2 := hP8.sub [0, 1, 2, 3, 4, 5, 6, 7, 8, 9, 10, 11, 12, 13, 14, 15, 16, 17, 18, 19, 21, 22, 23, 24, 25, 26, 27, 28, 29, 30, 31, 32, 33, 34, 35, 20] rfl
  have hD : va_D (fun z => s.heap.size ≤ z) (cb_w a k S ++ (mb_w am km S (k_hike S ((((xs ((5 * j) + 1)).toInt64) <<< ((nI 32).toInt64 &&& 63)) ||| (((xs ((5 * j) + 2)).toInt64) &&& (4294967295))) (xs ((5 * j) + 3)) (xs ((5 * j) + 4))) ++ [(q, .inl (kq, (1, .inr (.inl (f8)))))])) := hD8.sub [0, 1, 2, 3, 4, 5, 6, 7, 8, 9, 10, 11, 12, 13, 14, 15, 16, 17, 18, 19, 21, 22, 23, 24, 25, 26, 27, 28, 29, 30, 31, 32, 33, 34, 35, 20] (by decide) rfl
  refine lv_istore (lv' := [(6, .int r9), (5, .int (nI (k_hike S ((((xs ((5 * j) + 1)).toInt64) <<< ((nI 32).toInt64 &&& 63)) ||| (((xs ((5 * j) + 2)).toInt64) &&& (4294967295))) (xs ((5 * j) + 3)) (xs ((5 * j) + 4))))), (0, .ref b), (1, .ref (a 0)), (2, .ref (am 0)), (3, .ref q), (4, .int (nI (5 * j)))]) hx hb dL_law_1922 hl (by decide) rfl (fun ls hl => ?_)
  refine lv_aload_n hx hb dL_law_1924 rfl (lv_at hl 4 rfl) ?_
  have hPc := hP.sub (ws' := (mb_w am km S (k_hike S ((((xs ((5 * j) + 1)).toInt64) <<< ((nI 32).toInt64 &&& 63)) ||| (((xs ((5 * j) + 2)).toInt64) &&& (4294967295))) (xs ((5 * j) + 3)) (xs ((5 * j) + 4))))) [20, 21, 22, 23, 24, 25, 26, 27, 28, 29, 30, 31, 32, 33, 34] rfl
  have hDc := hD.sub (ws' := (mb_w am km S (k_hike S ((((xs ((5 * j) + 1)).toInt64) <<< ((nI 32).toInt64 &&& 63)) ||| (((xs ((5 * j) + 2)).toInt64) &&& (4294967295))) (xs ((5 * j) + 3)) (xs ((5 * j) + 4))))) [20, 21, 22, 23, 24, 25, 26, 27, 28, 29, 30, 31, 32, 33, 34] (by decide) rfl
  have hKc := hK.sub (tys' := (mb_ty km)) [14, 15, 16, 17, 18, 19, 20, 21, 22, 23, 24, 25, 26, 27] rfl
  refine vp_callSi (W.runV (As := []) (rest := []) ⟨hx, hb, hml, hown, hts⟩ (c_X6_thrown l dC dI am km S (k_hike S ((((xs ((5 * j) + 1)).toInt64) <<< ((nI 32).toInt64 &&& 63)) ||| (((xs ((5 * j) + 2)).toInt64) &&& (4294967295))) (xs ((5 * j) + 3)) (xs ((5 * j) + 4)))) (cwV 0 hts gL_law_X6_thrown rfl rfl rfl (by decide +kernel) ⟨(Nat.le_of_ble_eq_true rfl), (Nat.le_of_ble_eq_true rfl)⟩) ⟨cR_blind, va_recv hKc hPc (ci := 6) (q0 := 0) rfl rfl, fun U hU hW => ⟨rfl, cR_of hKc hPc hU hW⟩⟩ rfl rfl hl.1 rfl (lv_room (Nat.le_of_ble_eq_true rfl)) dL_law_1925 ⟨(by show ((cells + 8) + 0) + 0 ≤ room_1.cells; exact Nat.le_trans (by omega) rm_c), (by show ((slots + 48) + 0) + 0 ≤ room_1.slots; exact Nat.le_trans (by omega) rm_s)⟩) (fun r er => ?_)
  subst er
  refine lv_iload hx hb dL_law_1928 (lv_at hl 1 rfl) ?_
  refine lv_icmp_eq (tgt := 1935) hx hb dL_law_1930 (by decide) (fun c_1930 => ?_) (fun c_1930 => ?_)
  · skip
    refine lv_iload hx hb dL_law_1935 (lv_at hl 1 rfl) ?_
    refine lv_if_ne (tgt := 1952) hx hb dL_law_1937 (by decide) (fun c_1937 => ?_) (fun c_1937 => ?_)
    · skip
      refine lv_goto (tgt := 2067) hx hb dL_law_1952 (by decide) ?_
      refine W.widen (k := cells + 231) (n := slots + 1597) (by omega) (by omega) ?_
      exact kk S (k_hike S ((((xs ((5 * j) + 1)).toInt64) <<< ((nI 32).toInt64 &&& 63)) ||| (((xs ((5 * j) + 2)).toInt64) &&& (4294967295))) (xs ((5 * j) + 3)) (xs ((5 * j) + 4))) f8 H2 _ ls hI hP hD hS (lv_sub hl [2, 3, 4, 5, 6] rfl)
    · skip
      have h0 := kz kb_hike c_1937
      refine lv_aload_n hx hb dL_law_1940 rfl (lv_at hl 5 rfl) ?_
      refine lv_iconst (v := nI 0) hx hb dL_law_1941 (by decide) ?_
      refine cb_lald hx hb hK hP 35 28 (f := f8) rfl rfl (j := 0) (by omega) (Nat.le_of_ble_eq_true rfl) dL_law_1942 ?_
      refine lv_iload hx hb dL_law_1943 (lv_at hl 0 rfl) ?_
      refine lv_i2l hx hb dL_law_1945 rfl ?_
      refine W.lcmp hx hb dL_law_1946 ?_
      refine lv_if_eq (tgt := 1952) hx hb dL_law_1947 (by decide) (fun c_1947 => ?_) (fun c_1947 => ?_)
      · have c_1947 : (f8 0) = r9.toInt64 := lg_cmp_t c_1947
        refine lv_goto (tgt := 2067) hx hb dL_law_1952 (by decide) ?_
        refine W.widen (k := cells + 231) (n := slots + 1597) (by omega) (by omega) ?_
        exact kk S (k_hike S ((((xs ((5 * j) + 1)).toInt64) <<< ((nI 32).toInt64 &&& 63)) ||| (((xs ((5 * j) + 2)).toInt64) &&& (4294967295))) (xs ((5 * j) + 3)) (xs ((5 * j) + 4))) f8 H2 _ ls hI hP hD hS (lv_sub hl [2, 3, 4, 5, 6] rfl)
      · have c_1947 : ¬ (f8 0) = r9.toInt64 := lg_cmp_f c_1947
        exact absurd (by rw [hf8 h0, hr9 h0]) c_1947
  · skip
    exact absurd rfl c_1930
theorem kb_end {S : cs_S}  : k_end S < 4 := by unfold k_end; (repeat' split) <;> decide
set_option maxHeartbeats 4000000 in
set_option maxRecDepth 100000 in
theorem lc_end {p : Program} {l : Launch} {e : Env} {s : State} {m : MethodId} {below : List Frame} {meth : Method} {c : Code} {b L : Nat} {xs : Nat → Int32} {dC : Nat → ClassId} {dI : Nat → Nat → Nat} {a : Nat → Nat} {k : Nat → ClassId} {am : Nat → Nat} {km : Nat → ClassId} {q : Nat} {kq : ClassId} (hl9 : l.stackTraces = false) (C0 : LC p s m c b L xs dC dI k km kq) {S : cs_S} {th : Nat} {f : Nat → Int64} {H : Heap} {locs : List Loc} {j : Nat} {ls : Array Slot} {cells slots : Nat} {Q : State → Prop} (hI : Inv S) (hP : va_P (dC, dI) vwCl (cb_w a k S ++ (mb_w am km S th ++ [(q, .inl (kq, (1, .inr (.inl (f)))))])) H) (hD : va_D (fun z => s.heap.size ≤ z) (cb_w a k S ++ (mb_w am km S th ++ [(q, .inl (kq, (1, .inr (.inl (f)))))]))) (hS : va_S (fun z => s.heap.size ≤ z) s.heap H locs) (hj : 5 * j + 5 ≤ L) (hl : lv_has ls 9 [(0, .ref b), (1, .ref (a 0)), (2, .ref (am 0)), (3, .ref q), (4, .int (nI (5 * j)))]) (hc : cells + 231 ≤ 200000) (hs : slots + 1597 ≤ 2000000) (kk : KK p l e s m below meth c b dC dI a k am km q kq j cells slots Q) : W p l e room_1 s m #[Value.ref b] below meth c H locs cells slots Q (F0 m 1955 ls []) := by
  obtain ⟨hx, hb, hml, hown, hts, hX, hbl, hL, hK, hE⟩ := C0
  have hbA : ¬ (fun z => s.heap.size ≤ z) b := Nat.not_le.mpr hbl
  have hA : ∀ z : Nat, s.heap.size ≤ z → (fun z => s.heap.size ≤ z) z := fun _ h => h
  refine lv_aload_n hx hb dL_law_1955 rfl (lv_at hl 1 rfl) ?_
  refine lv_aload_n hx hb dL_law_1956 rfl (lv_at hl 3 rfl) ?_
  have hPc := hP.sub (ws' := (cb_w a k S ++ [(q, .inl (kq, (1, .inr (.inl (f)))))])) [0, 1, 2, 3, 4, 5, 6, 7, 8, 9, 10, 11, 12, 13, 14, 15, 16, 17, 18, 19, 35] rfl
  have hDc := hD.sub (ws' := (cb_w a k S ++ [(q, .inl (kq, (1, .inr (.inl (f)))))])) [0, 1, 2, 3, 4, 5, 6, 7, 8, 9, 10, 11, 12, 13, 14, 15, 16, 17, 18, 19, 35] (by decide) rfl
  have hKc := hK.sub (tys' := (cb_ty k ++ [(kq, .long)])) [0, 1, 2, 3, 4, 5, 6, 7, 8, 9, 10, 11, 12, 13, 28] rfl
  have hF : ∀ z, va_A (cb_w a k S ++ [(q, .inl (kq, (1, .inr (.inl (f)))))]) H.size z → s.heap.size ≤ z := va_free hD hS hA [0, 1, 2, 3, 4, 5, 6, 7, 8, 9, 10, 11, 12, 13, 14, 15, 16, 17, 18, 19, 35] rfl
  refine va_calli (vx_runSW (As := [.ref (a 0), .ref q]) (rest := []) ⟨hx, hb, hml, hown, hts⟩ (c_L_end l hl9 dC dI a k S q kq f H.size  hI) (vx_cwSW 2 hts gL_law_L_end rfl rfl rfl (by decide +kernel) ⟨(Nat.le_of_ble_eq_true rfl), (Nat.le_of_ble_eq_true rfl)⟩) ⟨cV_blind, fun U hU hW => ⟨rfl, cV_of hKc hPc hDc hE hS hU hW hF⟩⟩ rfl rfl hl.1 rfl (lv_room (Nat.le_of_ble_eq_true rfl)) dL_law_1957 ⟨(by show cells + 8 ≤ room_1.cells; exact Nat.le_trans (by omega) rm_c), (by show slots + 48 ≤ room_1.slots; exact Nat.le_trans (by omega) rm_s)⟩) hS (fun z _ h => hF z h) hF (fun r8 f8 t8 H1 L1 ht hvm hw hB hz1 hk1 hS => ?_)
  obtain ⟨hr8, hf8⟩ := hw
  subst hr8
  obtain ⟨hP9, -, hD9⟩ := hB
  rw [ht] at hP9
  obtain ⟨hP8, hD8⟩ := va_join (wc := (cb_w a k S ++ [(q, .inl (kq, (1, .inr (.inl (f)))))])) (wr := (mb_w am km S th)) hP hD [0, 1, 2, 3, 4, 5, 6, 7, 8, 9, 10, 11, 12, 13, 14, 15, 16, 17, 18, 19, 35] [20, 21, 22, 23, 24, 25, 26, 27, 28, 29, 30, 31, 32, 33, 34] rfl rfl (by decide) (by decide) hk1 hF hP9 hD9
  have hP : va_P (dC, dI) vwCl (cb_w a k (kS (k_end S) (S_end S) S) ++ (mb_w am km S th ++ [(q, .inl (kq, (1, .inr (.inl (f8)))))])) H1 := hP8.sub [15, 16, 17, 18, 19, 20, 21, 22, 23, 24, 25, 26, 27, 28, 29, 30, 31, 32, 33, 34, 0, 1, 2, 3, 4, 5, 6, 7, 8, 9, 10, 11, 12, 13, 14, 35] rfl
  have hD : va_D (fun z => s.heap.size ≤ z) (cb_w a k (kS (k_end S) (S_end S) S) ++ (mb_w am km S th ++ [(q, .inl (kq, (1, .inr (.inl (f8)))))])) := hD8.sub [15, 16, 17, 18, 19, 20, 21, 22, 23, 24, 25, 26, 27, 28, 29, 30, 31, 32, 33, 34, 0, 1, 2, 3, 4, 5, 6, 7, 8, 9, 10, 11, 12, 13, 14, 35] (by decide) rfl
  refine lv_istore (lv' := [(5, .int (nI (k_end S))), (0, .ref b), (1, .ref (a 0)), (2, .ref (am 0)), (3, .ref q), (4, .int (nI (5 * j)))]) hx hb dL_law_1960 hl (by decide) rfl (fun ls hl => ?_)
  refine lv_aload_n hx hb dL_law_1962 rfl (lv_at hl 3 rfl) ?_
  have hPc := hP.sub (ws' := (mb_w am km S th)) [20, 21, 22, 23, 24, 25, 26, 27, 28, 29, 30, 31, 32, 33, 34] rfl
  have hDc := hD.sub (ws' := (mb_w am km S th)) [20, 21, 22, 23, 24, 25, 26, 27, 28, 29, 30, 31, 32, 33, 34] (by decide) rfl
  have hKc := hK.sub (tys' := (mb_ty km)) [14, 15, 16, 17, 18, 19, 20, 21, 22, 23, 24, 25, 26, 27] rfl
  have hF : ∀ z, va_A (mb_w am km S th) H1.size z → s.heap.size ≤ z := va_free hD hS hA [20, 21, 22, 23, 24, 25, 26, 27, 28, 29, 30, 31, 32, 33, 34] rfl
  refine va_calli (va_runV (As := []) (rest := []) ⟨hx, hb, hml, hown, hts⟩ (c_X6_end l dC dI am km S th H1.size hI) (cwV 0 hts gL_law_X6_end rfl rfl rfl (by decide +kernel) ⟨(Nat.le_of_ble_eq_true rfl), (Nat.le_of_ble_eq_true rfl)⟩) ⟨cT_blind, va_recv hKc hPc (ci := 6) (q0 := 0) rfl rfl, fun U hU hW => ⟨rfl, cT_of hKc hPc hDc hU hW⟩⟩ rfl rfl hl.1 rfl (lv_room (Nat.le_of_ble_eq_true rfl)) dL_law_1963 ⟨(by show (cells + 8) + 0 ≤ room_1.cells; exact Nat.le_trans (by omega) rm_c), (by show (slots + 48) + 0 ≤ room_1.slots; exact Nat.le_trans (by omega) rm_s)⟩) hS (fun z _ h => hF z h) hF (fun r9 u9 t9 H2 L2 ht hvm hr9 hB hz1 hk1 hS => ?_)
  obtain ⟨hP9, -, hD9⟩ := hB
  rw [ht] at hP9
  obtain ⟨hP8, hD8⟩ := va_join (wc := (mb_w am km S th)) (wr := ((cb_w a k (kS (k_end S) (S_end S) S)) ++ [(q, .inl (kq, (1, .inr (.inl (f8)))))])) hP hD [20, 21, 22, 23, 24, 25, 26, 27, 28, 29, 30, 31, 32, 33, 34] [0, 1, 2, 3, 4, 5, 6, 7, 8, 9, 10, 11, 12, 13, 14, 15, 16, 17, 18, 19, 35] rfl rfl (by decide) (by decide) hk1 hF hP9 hD9
  have hP : va_P (dC, dI) vwCl (cb_w a k (kS (k_end S) (S_end S) S) ++ (mb_w am km (kS (k_end S) (S_end S) S) (k_end S) ++ [(q, .inl (kq, (1, .inr (.inl (f8)))))])) H2 := hP8.sub [0, 1, 2, 3, 4, 5, 6, 7, 8, 9, 10, 11, 12, 13, 14, 15, 16, 17, 18, 19, 21, 22, 23, 24, 25, 26, 27, 28, 29, 30, 31, 32, 33, 34, 35, 20] rfl
  have hD : va_D (fun z => s.heap.size ≤ z) (cb_w a k (kS (k_end S) (S_end S) S) ++ (mb_w am km (kS (k_end S) (S_end S) S) (k_end S) ++ [(q, .inl (kq, (1, .inr (.inl (f8)))))])) := hD8.sub [0, 1, 2, 3, 4, 5, 6, 7, 8, 9, 10, 11, 12, 13, 14, 15, 16, 17, 18, 19, 21, 22, 23, 24, 25, 26, 27, 28, 29, 30, 31, 32, 33, 34, 35, 20] (by decide) rfl
  refine lv_istore (lv' := [(6, .int r9), (5, .int (nI (k_end S))), (0, .ref b), (1, .ref (a 0)), (2, .ref (am 0)), (3, .ref q), (4, .int (nI (5 * j)))]) hx hb dL_law_1966 hl (by decide) rfl (fun ls hl => ?_)
  refine lv_aload_n hx hb dL_law_1968 rfl (lv_at hl 4 rfl) ?_
  have hPc := hP.sub (ws' := (mb_w am km (kS (k_end S) (S_end S) S) (k_end S))) [20, 21, 22, 23, 24, 25, 26, 27, 28, 29, 30, 31, 32, 33, 34] rfl
  have hDc := hD.sub (ws' := (mb_w am km (kS (k_end S) (S_end S) S) (k_end S))) [20, 21, 22, 23, 24, 25, 26, 27, 28, 29, 30, 31, 32, 33, 34] (by decide) rfl
  have hKc := hK.sub (tys' := (mb_ty km)) [14, 15, 16, 17, 18, 19, 20, 21, 22, 23, 24, 25, 26, 27] rfl
  refine vp_callSi (W.runV (As := []) (rest := []) ⟨hx, hb, hml, hown, hts⟩ (c_X6_thrown l dC dI am km (kS (k_end S) (S_end S) S) (k_end S)) (cwV 0 hts gL_law_X6_thrown rfl rfl rfl (by decide +kernel) ⟨(Nat.le_of_ble_eq_true rfl), (Nat.le_of_ble_eq_true rfl)⟩) ⟨cR_blind, va_recv hKc hPc (ci := 6) (q0 := 0) rfl rfl, fun U hU hW => ⟨rfl, cR_of hKc hPc hU hW⟩⟩ rfl rfl hl.1 rfl (lv_room (Nat.le_of_ble_eq_true rfl)) dL_law_1969 ⟨(by show ((cells + 8) + 0) + 0 ≤ room_1.cells; exact Nat.le_trans (by omega) rm_c), (by show ((slots + 48) + 0) + 0 ≤ room_1.slots; exact Nat.le_trans (by omega) rm_s)⟩) (fun r er => ?_)
  subst er
  refine lv_iload hx hb dL_law_1972 (lv_at hl 1 rfl) ?_
  refine lv_icmp_eq (tgt := 1979) hx hb dL_law_1974 (by decide) (fun c_1974 => ?_) (fun c_1974 => ?_)
  · skip
    refine lv_iload hx hb dL_law_1979 (lv_at hl 1 rfl) ?_
    refine lv_if_ne (tgt := 1996) hx hb dL_law_1981 (by decide) (fun c_1981 => ?_) (fun c_1981 => ?_)
    · skip
      refine lv_goto (tgt := 2067) hx hb dL_law_1996 (by decide) ?_
      refine W.widen (k := cells + 231) (n := slots + 1597) (by omega) (by omega) ?_
      exact kk (kS (k_end S) (S_end S) S) (k_end S) f8 H2 _ ls (inv_kS hI (fun h9 => inv_end hI h9)) hP hD hS (lv_sub hl [2, 3, 4, 5, 6] rfl)
    · skip
      have h0 := kz kb_end c_1981
      refine lv_aload_n hx hb dL_law_1984 rfl (lv_at hl 5 rfl) ?_
      refine lv_iconst (v := nI 0) hx hb dL_law_1985 (by decide) ?_
      refine cb_lald hx hb hK hP 35 28 (f := f8) rfl rfl (j := 0) (by omega) (Nat.le_of_ble_eq_true rfl) dL_law_1986 ?_
      refine lv_iload hx hb dL_law_1987 (lv_at hl 0 rfl) ?_
      refine lv_i2l hx hb dL_law_1989 rfl ?_
      refine W.lcmp hx hb dL_law_1990 ?_
      refine lv_if_eq (tgt := 1996) hx hb dL_law_1991 (by decide) (fun c_1991 => ?_) (fun c_1991 => ?_)
      · have c_1991 : (f8 0) = r9.toInt64 := lg_cmp_t c_1991
        refine lv_goto (tgt := 2067) hx hb dL_law_1996 (by decide) ?_
        refine W.widen (k := cells + 231) (n := slots + 1597) (by omega) (by omega) ?_
        exact kk (kS (k_end S) (S_end S) S) (k_end S) f8 H2 _ ls (inv_kS hI (fun h9 => inv_end hI h9)) hP hD hS (lv_sub hl [2, 3, 4, 5, 6] rfl)
      · have c_1991 : ¬ (f8 0) = r9.toInt64 := lg_cmp_f c_1991
        exact absurd (by rw [hf8 h0, hr9 h0]) c_1991
  · skip
    exact absurd rfl c_1974
set_option maxHeartbeats 4000000 in
set_option maxRecDepth 100000 in
theorem lc_day {p : Program} {l : Launch} {e : Env} {s : State} {m : MethodId} {below : List Frame} {meth : Method} {c : Code} {b L : Nat} {xs : Nat → Int32} {dC : Nat → ClassId} {dI : Nat → Nat → Nat} {a : Nat → Nat} {k : Nat → ClassId} {am : Nat → Nat} {km : Nat → ClassId} {q : Nat} {kq : ClassId} (hl9 : l.stackTraces = false) (C0 : LC p s m c b L xs dC dI k km kq) {S : cs_S} {th : Nat} {f : Nat → Int64} {H : Heap} {locs : List Loc} {j : Nat} {ls : Array Slot} {cells slots : Nat} {Q : State → Prop} (hI : Inv S) (hP : va_P (dC, dI) vwCl (cb_w a k S ++ (mb_w am km S th ++ [(q, .inl (kq, (1, .inr (.inl (f)))))])) H) (hD : va_D (fun z => s.heap.size ≤ z) (cb_w a k S ++ (mb_w am km S th ++ [(q, .inl (kq, (1, .inr (.inl (f)))))]))) (hS : va_S (fun z => s.heap.size ≤ z) s.heap H locs) (hj : 5 * j + 5 ≤ L) (hl : lv_has ls 9 [(0, .ref b), (1, .ref (a 0)), (2, .ref (am 0)), (3, .ref q), (4, .int (nI (5 * j)))]) (hc : cells + 231 ≤ 200000) (hs : slots + 1597 ≤ 2000000) (kk : KK p l e s m below meth c b dC dI a k am km q kq j cells slots Q) : W p l e room_1 s m #[Value.ref b] below meth c H locs cells slots Q (F0 m 1999 ls []) := by
  obtain ⟨hx, hb, hml, hown, hts, hX, hbl, hL, hK, hE⟩ := C0
  have hbA : ¬ (fun z => s.heap.size ≤ z) b := Nat.not_le.mpr hbl
  have hA : ∀ z : Nat, s.heap.size ≤ z → (fun z => s.heap.size ≤ z) z := fun _ h => h
  refine lv_aload_n hx hb dL_law_1999 rfl (lv_at hl 1 rfl) ?_
  have hPc := hP.sub (ws' := (cb_w a k S)) [0, 1, 2, 3, 4, 5, 6, 7, 8, 9, 10, 11, 12, 13, 14, 15, 16, 17, 18, 19] rfl
  have hDc := hD.sub (ws' := (cb_w a k S)) [0, 1, 2, 3, 4, 5, 6, 7, 8, 9, 10, 11, 12, 13, 14, 15, 16, 17, 18, 19] (by decide) rfl
  have hKc := hK.sub (tys' := (cb_ty k)) [0, 1, 2, 3, 4, 5, 6, 7, 8, 9, 10, 11, 12, 13] rfl
  refine vp_callSi (W.runV (As := []) (rest := []) ⟨hx, hb, hml, hown, hts⟩ (c_X5_day l dC dI a k S ) (cwV 0 hts gL_law_X5_day rfl rfl rfl (by decide +kernel) ⟨(Nat.le_of_ble_eq_true rfl), (Nat.le_of_ble_eq_true rfl)⟩) ⟨cR_blind, va_recv hKc hPc (ci := 5) (q0 := 0) rfl rfl, fun U hU hW => ⟨rfl, cR_of hKc hPc hU hW⟩⟩ rfl rfl hl.1 rfl (lv_room (Nat.le_of_ble_eq_true rfl)) dL_law_2000 ⟨(by show cells + 0 ≤ room_1.cells; exact Nat.le_trans (by omega) rm_c), (by show slots + 0 ≤ room_1.slots; exact Nat.le_trans (by omega) rm_s)⟩) (fun r er => ?_)
  subst er
  refine lv_aload_n hx hb dL_law_2003 rfl (lv_at hl 2 rfl) ?_
  have hPc := hP.sub (ws' := (mb_w am km S th)) [20, 21, 22, 23, 24, 25, 26, 27, 28, 29, 30, 31, 32, 33, 34] rfl
  have hDc := hD.sub (ws' := (mb_w am km S th)) [20, 21, 22, 23, 24, 25, 26, 27, 28, 29, 30, 31, 32, 33, 34] (by decide) rfl
  have hKc := hK.sub (tys' := (mb_ty km)) [14, 15, 16, 17, 18, 19, 20, 21, 22, 23, 24, 25, 26, 27] rfl
  have hF : ∀ z, va_A (mb_w am km S th) H.size z → s.heap.size ≤ z := va_free hD hS hA [20, 21, 22, 23, 24, 25, 26, 27, 28, 29, 30, 31, 32, 33, 34] rfl
  refine va_calli (va_runV (As := []) (rest := [.int (nI (c_day S))]) ⟨hx, hb, hml, hown, hts⟩ (c_X6_day l dC dI am km S th H.size ) (cwV 0 hts gL_law_X6_day rfl rfl rfl (by decide +kernel) ⟨(Nat.le_of_ble_eq_true rfl), (Nat.le_of_ble_eq_true rfl)⟩) ⟨cT_blind, va_recv hKc hPc (ci := 6) (q0 := 0) rfl rfl, fun U hU hW => ⟨rfl, cT_of hKc hPc hDc hU hW⟩⟩ rfl rfl hl.1 rfl (lv_room (Nat.le_of_ble_eq_true rfl)) dL_law_2004 ⟨(by show cells + 0 ≤ room_1.cells; exact Nat.le_trans (by omega) rm_c), (by show slots + 0 ≤ room_1.slots; exact Nat.le_trans (by omega) rm_s)⟩) hS (fun z _ h => hF z h) hF (fun r9 u9 t9 H2 L2 ht hvm hr9 hB hz1 hk1 hS => ?_)
  obtain ⟨hP9, -, hD9⟩ := hB
  rw [ht] at hP9
  obtain ⟨hP8, hD8⟩ := va_join (wc := (mb_w am km S th)) (wr := ((cb_w a k S) ++ [(q, .inl (kq, (1, .inr (.inl (f)))))])) hP hD [20, 21, 22, 23, 24, 25, 26, 27, 28, 29, 30, 31, 32, 33, 34] [0, 1, 2, 3, 4, 5, 6, 7, 8, 9, 10, 11, 12, 13, 14, 15, 16, 17, 18, 19, 35] rfl rfl (by decide) (by decide) hk1 hF hP9 hD9
  have hP : va_P (dC, dI) vwCl (cb_w a k S ++ (mb_w am km S 0 ++ [(q, .inl (kq, (1, .inr (.inl (f)))))])) H2 := hP8.sub [0, 1, 2, 3, 4, 5, 6, 7, 8, 9, 10, 11, 12, 13, 14, 15, 16, 17, 18, 19, 21, 22, 23, 24, 25, 26, 27, 28, 29, 30, 31, 32, 33, 34, 35, 20] rfl
  have hD : va_D (fun z => s.heap.size ≤ z) (cb_w a k S ++ (mb_w am km S 0 ++ [(q, .inl (kq, (1, .inr (.inl (f)))))])) := hD8.sub [0, 1, 2, 3, 4, 5, 6, 7, 8, 9, 10, 11, 12, 13, 14, 15, 16, 17, 18, 19, 21, 22, 23, 24, 25, 26, 27, 28, 29, 30, 31, 32, 33, 34, 35, 20] (by decide) rfl
  subst hr9
  refine lv_icmp_eq (tgt := 2067) hx hb dL_law_2007 (by decide) (fun c_2007 => ?_) (fun c_2007 => ?_)
  · skip
    refine W.widen (k := cells + 231) (n := slots + 1597) (by omega) (by omega) ?_
    exact kk S 0 f H2 _ ls hI hP hD hS (lv_sub hl [0, 1, 2, 3, 4] rfl)
  · skip
    exact absurd rfl c_2007
set_option maxHeartbeats 4000000 in
set_option maxRecDepth 100000 in
theorem lc_meanAge {p : Program} {l : Launch} {e : Env} {s : State} {m : MethodId} {below : List Frame} {meth : Method} {c : Code} {b L : Nat} {xs : Nat → Int32} {dC : Nat → ClassId} {dI : Nat → Nat → Nat} {a : Nat → Nat} {k : Nat → ClassId} {am : Nat → Nat} {km : Nat → ClassId} {q : Nat} {kq : ClassId} (hl9 : l.stackTraces = false) (C0 : LC p s m c b L xs dC dI k km kq) {S : cs_S} {th : Nat} {f : Nat → Int64} {H : Heap} {locs : List Loc} {j : Nat} {ls : Array Slot} {cells slots : Nat} {Q : State → Prop} (hI : Inv S) (hP : va_P (dC, dI) vwCl (cb_w a k S ++ (mb_w am km S th ++ [(q, .inl (kq, (1, .inr (.inl (f)))))])) H) (hD : va_D (fun z => s.heap.size ≤ z) (cb_w a k S ++ (mb_w am km S th ++ [(q, .inl (kq, (1, .inr (.inl (f)))))]))) (hS : va_S (fun z => s.heap.size ≤ z) s.heap H locs) (hj : 5 * j + 5 ≤ L) (hl : lv_has ls 9 [(0, .ref b), (1, .ref (a 0)), (2, .ref (am 0)), (3, .ref q), (4, .int (nI (5 * j)))]) (hc : cells + 231 ≤ 200000) (hs : slots + 1597 ≤ 2000000) (kk : KK p l e s m below meth c b dC dI a k am km q kq j cells slots Q) : W p l e room_1 s m #[Value.ref b] below meth c H locs cells slots Q (F0 m 2012 ls []) := by
  obtain ⟨hx, hb, hml, hown, hts, hX, hbl, hL, hK, hE⟩ := C0
  have hbA : ¬ (fun z => s.heap.size ≤ z) b := Nat.not_le.mpr hbl
  have hA : ∀ z : Nat, s.heap.size ≤ z → (fun z => s.heap.size ≤ z) z := fun _ h => h
  refine lv_aload_n hx hb dL_law_2012 rfl (lv_at hl 1 rfl) ?_
  have hPc := hP.sub (ws' := (cb_w a k S)) [0, 1, 2, 3, 4, 5, 6, 7, 8, 9, 10, 11, 12, 13, 14, 15, 16, 17, 18, 19] rfl
  have hDc := hD.sub (ws' := (cb_w a k S)) [0, 1, 2, 3, 4, 5, 6, 7, 8, 9, 10, 11, 12, 13, 14, 15, 16, 17, 18, 19] (by decide) rfl
  have hKc := hK.sub (tys' := (cb_ty k)) [0, 1, 2, 3, 4, 5, 6, 7, 8, 9, 10, 11, 12, 13] rfl
  refine vp_callSd (W.runV (As := []) (rest := []) ⟨hx, hb, hml, hown, hts⟩ (c_X5_meanAge l dC dI a k S hI) (cwV 0 hts gL_law_X5_meanAge rfl rfl rfl (by decide +kernel) ⟨(Nat.le_of_ble_eq_true rfl), (Nat.le_of_ble_eq_true rfl)⟩) ⟨cR_blind, va_recv hKc hPc (ci := 5) (q0 := 0) rfl rfl, fun U hU hW => ⟨rfl, cR_of hKc hPc hU hW⟩⟩ rfl rfl hl.1 rfl (lv_room (Nat.le_of_ble_eq_true rfl)) dL_law_2013 ⟨(by show cells + 0 ≤ room_1.cells; exact Nat.le_trans (by omega) rm_c), (by show slots + 0 ≤ room_1.slots; exact Nat.le_trans (by omega) rm_s)⟩) (fun r er => ?_)
  subst er
  refine lv_dstore (lv' := [(5, .double (mean S)), (0, .ref b), (1, .ref (a 0)), (2, .ref (am 0)), (3, .ref q), (4, .int (nI (5 * j)))]) hx hb dL_law_2016 hl (by decide) rfl (fun ls hl => ?_)
  refine lv_aload_n hx hb dL_law_2018 rfl (lv_at hl 3 rfl) ?_
  have hPc := hP.sub (ws' := (mb_w am km S th)) [20, 21, 22, 23, 24, 25, 26, 27, 28, 29, 30, 31, 32, 33, 34] rfl
  have hDc := hD.sub (ws' := (mb_w am km S th)) [20, 21, 22, 23, 24, 25, 26, 27, 28, 29, 30, 31, 32, 33, 34] (by decide) rfl
  have hKc := hK.sub (tys' := (mb_ty km)) [14, 15, 16, 17, 18, 19, 20, 21, 22, 23, 24, 25, 26, 27] rfl
  have hF : ∀ z, va_A (mb_w am km S th) H.size z → s.heap.size ≤ z := va_free hD hS hA [20, 21, 22, 23, 24, 25, 26, 27, 28, 29, 30, 31, 32, 33, 34] rfl
  refine va_calld (va_runV (As := []) (rest := []) ⟨hx, hb, hml, hown, hts⟩ (c_X6_meanAge l dC dI am km S th H.size hI) (cwV 0 hts gL_law_X6_meanAge rfl rfl rfl (by decide +kernel) ⟨(Nat.le_of_ble_eq_true rfl), (Nat.le_of_ble_eq_true rfl)⟩) ⟨cT_blind, va_recv hKc hPc (ci := 6) (q0 := 0) rfl rfl, fun U hU hW => ⟨rfl, cT_of hKc hPc hDc hU hW⟩⟩ rfl rfl hl.1 rfl (lv_room (Nat.le_of_ble_eq_true rfl)) dL_law_2019 ⟨(by show cells + 0 ≤ room_1.cells; exact Nat.le_trans (by omega) rm_c), (by show slots + 0 ≤ room_1.slots; exact Nat.le_trans (by omega) rm_s)⟩) hS (fun z _ h => hF z h) hF (fun r9 u9 t9 H2 L2 ht hvm hr9 hB hz1 hk1 hS => ?_)
  obtain ⟨hP9, -, hD9⟩ := hB
  rw [ht] at hP9
  obtain ⟨hP8, hD8⟩ := va_join (wc := (mb_w am km S th)) (wr := ((cb_w a k S) ++ [(q, .inl (kq, (1, .inr (.inl (f)))))])) hP hD [20, 21, 22, 23, 24, 25, 26, 27, 28, 29, 30, 31, 32, 33, 34] [0, 1, 2, 3, 4, 5, 6, 7, 8, 9, 10, 11, 12, 13, 14, 15, 16, 17, 18, 19, 35] rfl rfl (by decide) (by decide) hk1 hF hP9 hD9
  have hP : va_P (dC, dI) vwCl (cb_w a k S ++ (mb_w am km S 0 ++ [(q, .inl (kq, (1, .inr (.inl (f)))))])) H2 := hP8.sub [0, 1, 2, 3, 4, 5, 6, 7, 8, 9, 10, 11, 12, 13, 14, 15, 16, 17, 18, 19, 21, 22, 23, 24, 25, 26, 27, 28, 29, 30, 31, 32, 33, 34, 35, 20] rfl
  have hD : va_D (fun z => s.heap.size ≤ z) (cb_w a k S ++ (mb_w am km S 0 ++ [(q, .inl (kq, (1, .inr (.inl (f)))))])) := hD8.sub [0, 1, 2, 3, 4, 5, 6, 7, 8, 9, 10, 11, 12, 13, 14, 15, 16, 17, 18, 19, 21, 22, 23, 24, 25, 26, 27, 28, 29, 30, 31, 32, 33, 34, 35, 20] (by decide) rfl
  subst hr9
  refine lv_dstore (lv' := [(7, .double (mean S)), (5, .double (mean S)), (0, .ref b), (1, .ref (a 0)), (2, .ref (am 0)), (3, .ref q), (4, .int (nI (5 * j)))]) hx hb dL_law_2022 hl (by decide) rfl (fun ls hl => ?_)
  refine lv_dload hx hb dL_law_2024 (lv_at hl 1 rfl) ?_
  refine lv_dload hx hb dL_law_2026 (lv_at hl 0 rfl) ?_
  refine lv_dcmp hx hb dL_law_2028 ?_
  refine lv_if_eq (tgt := 2050) hx hb dL_law_2029 (by decide) (fun c_2029 => ?_) (fun c_2029 => ?_)
  · skip
    refine lv_goto (tgt := 2067) hx hb dL_law_2050 (by decide) ?_
    refine W.widen (k := cells + 231) (n := slots + 1597) (by omega) (by omega) ?_
    exact kk S 0 f H2 _ ls hI hP hD hS (lv_sub hl [2, 3, 4, 5, 6] rfl)
  · skip
    refine lv_dload hx hb dL_law_2032 (lv_at hl 1 rfl) ?_
    refine lv_dload hx hb dL_law_2034 (lv_at hl 1 rfl) ?_
    refine lv_dcmp hx hb dL_law_2036 ?_
    refine lv_if_eq (tgt := 2048) hx hb dL_law_2037 (by decide) (fun c_2037 => ?_) (fun c_2037 => ?_)
    · skip
      exact absurd c_2037 c_2029
    · skip
      refine lv_dload hx hb dL_law_2040 (lv_at hl 0 rfl) ?_
      refine lv_dload hx hb dL_law_2042 (lv_at hl 0 rfl) ?_
      refine lv_dcmp hx hb dL_law_2044 ?_
      refine lv_if_ne (tgt := 2050) hx hb dL_law_2045 (by decide) (fun c_2045 => ?_) (fun c_2045 => ?_)
      · skip
        refine lv_goto (tgt := 2067) hx hb dL_law_2050 (by decide) ?_
        refine W.widen (k := cells + 231) (n := slots + 1597) (by omega) (by omega) ?_
        exact kk S 0 f H2 _ ls hI hP hD hS (lv_sub hl [2, 3, 4, 5, 6] rfl)
      · skip
        exact absurd c_2045 c_2029
set_option maxHeartbeats 4000000 in
set_option maxRecDepth 100000 in
theorem lc_digest {p : Program} {l : Launch} {e : Env} {s : State} {m : MethodId} {below : List Frame} {meth : Method} {c : Code} {b L : Nat} {xs : Nat → Int32} {dC : Nat → ClassId} {dI : Nat → Nat → Nat} {a : Nat → Nat} {k : Nat → ClassId} {am : Nat → Nat} {km : Nat → ClassId} {q : Nat} {kq : ClassId} (hl9 : l.stackTraces = false) (C0 : LC p s m c b L xs dC dI k km kq) {S : cs_S} {th : Nat} {f : Nat → Int64} {H : Heap} {locs : List Loc} {j : Nat} {ls : Array Slot} {cells slots : Nat} {Q : State → Prop} (hI : Inv S) (hP : va_P (dC, dI) vwCl (cb_w a k S ++ (mb_w am km S th ++ [(q, .inl (kq, (1, .inr (.inl (f)))))])) H) (hD : va_D (fun z => s.heap.size ≤ z) (cb_w a k S ++ (mb_w am km S th ++ [(q, .inl (kq, (1, .inr (.inl (f)))))]))) (hS : va_S (fun z => s.heap.size ≤ z) s.heap H locs) (hj : 5 * j + 5 ≤ L) (hl : lv_has ls 9 [(0, .ref b), (1, .ref (a 0)), (2, .ref (am 0)), (3, .ref q), (4, .int (nI (5 * j)))]) (hc : cells + 231 ≤ 200000) (hs : slots + 1597 ≤ 2000000) (kk : KK p l e s m below meth c b dC dI a k am km q kq j cells slots Q) : W p l e room_1 s m #[Value.ref b] below meth c H locs cells slots Q (F0 m 2053 ls []) := by
  obtain ⟨hx, hb, hml, hown, hts, hX, hbl, hL, hK, hE⟩ := C0
  have hbA : ¬ (fun z => s.heap.size ≤ z) b := Nat.not_le.mpr hbl
  have hA : ∀ z : Nat, s.heap.size ≤ z → (fun z => s.heap.size ≤ z) z := fun _ h => h
  refine lv_aload_n hx hb dL_law_2053 rfl (lv_at hl 1 rfl) ?_
  have hPc := hP.sub (ws' := (cb_w a k S)) [0, 1, 2, 3, 4, 5, 6, 7, 8, 9, 10, 11, 12, 13, 14, 15, 16, 17, 18, 19] rfl
  have hDc := hD.sub (ws' := (cb_w a k S)) [0, 1, 2, 3, 4, 5, 6, 7, 8, 9, 10, 11, 12, 13, 14, 15, 16, 17, 18, 19] (by decide) rfl
  have hKc := hK.sub (tys' := (cb_ty k)) [0, 1, 2, 3, 4, 5, 6, 7, 8, 9, 10, 11, 12, 13] rfl
  refine vp_callSl (W.runV (As := []) (rest := []) ⟨hx, hb, hml, hown, hts⟩ (c_X5_digest l dC dI a k S hI) (cwV 0 hts gL_law_X5_digest rfl rfl rfl (by decide +kernel) ⟨(Nat.le_of_ble_eq_true rfl), (Nat.le_of_ble_eq_true rfl)⟩) ⟨cR_blind, va_recv hKc hPc (ci := 5) (q0 := 0) rfl rfl, fun U hU hW => ⟨rfl, cR_of hKc hPc hU hW⟩⟩ rfl rfl hl.1 rfl (lv_room (Nat.le_of_ble_eq_true rfl)) dL_law_2054 ⟨(by show cells + 0 ≤ room_1.cells; exact Nat.le_trans (by omega) rm_c), (by show slots + 0 ≤ room_1.slots; exact Nat.le_trans (by omega) rm_s)⟩) (fun r er => ?_)
  subst er
  refine lv_aload_n hx hb dL_law_2057 rfl (lv_at hl 2 rfl) ?_
  have hPc := hP.sub (ws' := (mb_w am km S th)) [20, 21, 22, 23, 24, 25, 26, 27, 28, 29, 30, 31, 32, 33, 34] rfl
  have hDc := hD.sub (ws' := (mb_w am km S th)) [20, 21, 22, 23, 24, 25, 26, 27, 28, 29, 30, 31, 32, 33, 34] (by decide) rfl
  have hKc := hK.sub (tys' := (mb_ty km)) [14, 15, 16, 17, 18, 19, 20, 21, 22, 23, 24, 25, 26, 27] rfl
  have hF : ∀ z, va_A (mb_w am km S th) H.size z → s.heap.size ≤ z := va_free hD hS hA [20, 21, 22, 23, 24, 25, 26, 27, 28, 29, 30, 31, 32, 33, 34] rfl
  refine va_calll (va_runV (As := []) (rest := [.long (dig S)]) ⟨hx, hb, hml, hown, hts⟩ (c_X6_digest l dC dI am km S th H.size hI) (cwV 0 hts gL_law_X6_digest rfl rfl rfl (by decide +kernel) ⟨(Nat.le_of_ble_eq_true rfl), (Nat.le_of_ble_eq_true rfl)⟩) ⟨cT_blind, va_recv hKc hPc (ci := 6) (q0 := 0) rfl rfl, fun U hU hW => ⟨rfl, cT_of hKc hPc hDc hU hW⟩⟩ rfl rfl hl.1 rfl (lv_room (Nat.le_of_ble_eq_true rfl)) dL_law_2058 ⟨(by show cells + 223 ≤ room_1.cells; exact Nat.le_trans (by omega) rm_c), (by show slots + 1549 ≤ room_1.slots; exact Nat.le_trans (by omega) rm_s)⟩) hS (fun z _ h => hF z h) hF (fun r9 u9 t9 H2 L2 ht hvm hr9 hB hz1 hk1 hS => ?_)
  obtain ⟨hP9, -, hD9⟩ := hB
  rw [ht] at hP9
  obtain ⟨hP8, hD8⟩ := va_join (wc := (mb_w am km S th)) (wr := ((cb_w a k S) ++ [(q, .inl (kq, (1, .inr (.inl (f)))))])) hP hD [20, 21, 22, 23, 24, 25, 26, 27, 28, 29, 30, 31, 32, 33, 34] [0, 1, 2, 3, 4, 5, 6, 7, 8, 9, 10, 11, 12, 13, 14, 15, 16, 17, 18, 19, 35] rfl rfl (by decide) (by decide) hk1 hF hP9 hD9
  have hP : va_P (dC, dI) vwCl (cb_w a k S ++ (mb_w am km S 0 ++ [(q, .inl (kq, (1, .inr (.inl (f)))))])) H2 := hP8.sub [0, 1, 2, 3, 4, 5, 6, 7, 8, 9, 10, 11, 12, 13, 14, 15, 16, 17, 18, 19, 21, 22, 23, 24, 25, 26, 27, 28, 29, 30, 31, 32, 33, 34, 35, 20] rfl
  have hD : va_D (fun z => s.heap.size ≤ z) (cb_w a k S ++ (mb_w am km S 0 ++ [(q, .inl (kq, (1, .inr (.inl (f)))))])) := hD8.sub [0, 1, 2, 3, 4, 5, 6, 7, 8, 9, 10, 11, 12, 13, 14, 15, 16, 17, 18, 19, 21, 22, 23, 24, 25, 26, 27, 28, 29, 30, 31, 32, 33, 34, 35, 20] (by decide) rfl
  subst hr9
  refine W.lcmp hx hb dL_law_2061 ?_
  refine lv_if_eq (tgt := 2067) hx hb dL_law_2062 (by decide) (fun c_2062 => ?_) (fun c_2062 => ?_)
  · have c_2062 : (dig S) = (dig S) := lg_cmp_t c_2062
    refine W.widen (k := cells + 231) (n := slots + 1597) (by omega) (by omega) ?_
    exact kk S 0 f H2 _ ls hI hP hD hS (lv_sub hl [0, 1, 2, 3, 4] rfl)
  · have c_2062 : ¬ (dig S) = (dig S) := lg_cmp_f c_2062
    exact absurd rfl c_2062
end CBY3
