/-! p35: the law: the duties of a day -/
section CBV5
set_option maxHeartbeats 4000000 in
set_option maxRecDepth 100000 in
theorem lp_duties {p : Program} {l : Launch} {e : Env} {s : State} {m : MethodId} {below : List Frame} {meth : Method} {c : Code} {b L : Nat} {xs : Nat → Int32} {dC : Nat → ClassId} {dI : Nat → Nat → Nat} {a : Nat → Nat} {k : Nat → ClassId} {qt : Nat} {kt : ClassId} {tl : Nat → Int32} {qp : Nat} {kp : ClassId} {pl : Nat → Int32} {np ns nt dy hq cells slots cE sE : Nat} {Q : State → Prop} {S : cs_S} {x8 : Int32} {qo : Nat} {ko : ClassId} (hl9 : l.stackTraces = false) (C0 : LC p s m c b L xs dC dI k kt kp) (hB : BD np ns nt) (h1 : cells + 80 ≤ cE) (h2 : slots + 480 ≤ sE) (hc : cE ≤ 200000) (hs : sE ≤ 2000000) (hC : Cp dy np ns nt 4 3 1 hq 12 tl pl S) (hK3 : va_K (dC, dI) vwCl (cb_ty k ++ [(kt, .int), (kp, .int), (ko, .int)]) s) (hd : dy < 12) (kk : ∀ (og : Nat → Int32) (H : Heap) (locs : List Loc) (ls : Array Slot), va_P (dC, dI) vwCl (cb_w a k S ++ [(qt, .inl (kt, (90, .inl tl))), (qp, .inl (kp, (10, .inl pl))), (qo, .inl (ko, (6, .inl og)))]) H → va_D (fun z => s.heap.size ≤ z) (cb_w a k S ++ [(qt, .inl (kt, (90, .inl tl))), (qp, .inl (kp, (10, .inl pl))), (qo, .inl (ko, (6, .inl og)))]) → va_S (fun z => s.heap.size ≤ z) s.heap H locs → lv_has ls 19 [(0, .ref b), (1, .ref (a 0)), (2, .int (nI np)), (3, .ref qt), (4, .int (nI ns)), (5, .ref qp), (6, .int (nI nt)), (7, .int (nI dy)), (8, .int x8), (12, .int (nI (frE S dy 5))), (13, .ref qo)] → W p l e room_1 s m #[Value.ref b] below meth c H locs cE sE Q (F0 m 638 ls [])) : ∀ (n kd : Nat), kd ≤ 5 → 5 + 1 ≤ kd + n → ∀ (og : Nat → Int32) (H : Heap) (locs : List Loc) (ls : Array Slot), OfI S dy kd og → va_P (dC, dI) vwCl (cb_w a k S ++ [(qt, .inl (kt, (90, .inl tl))), (qp, .inl (kp, (10, .inl pl))), (qo, .inl (ko, (6, .inl og)))]) H → va_D (fun z => s.heap.size ≤ z) (cb_w a k S ++ [(qt, .inl (kt, (90, .inl tl))), (qp, .inl (kp, (10, .inl pl))), (qo, .inl (ko, (6, .inl og)))]) → va_S (fun z => s.heap.size ≤ z) s.heap H locs → lv_has ls 19 [(0, .ref b), (1, .ref (a 0)), (2, .int (nI np)), (3, .ref qt), (4, .int (nI ns)), (5, .ref qp), (6, .int (nI nt)), (7, .int (nI dy)), (8, .int x8), (12, .int (nI (frE S dy kd))), (13, .ref qo), (14, .int (nI kd))] → W p l e room_1 s m #[Value.ref b] below meth c H locs (cells + 16 * kd) (slots + 96 * kd) Q (F0 m 553 ls []) := by
  have C1 := C0
  obtain ⟨hx, hb, hml, hown, hts, hX, hbl, hL, hK, hE⟩ := C0
  have hbA : ¬ (fun z => s.heap.size ≤ z) b := Nat.not_le.mpr hbl
  have hA : ∀ q : Nat, s.heap.size ≤ q → (fun z => s.heap.size ≤ z) q := fun q h => h
  have hBD := hB
  obtain ⟨hp1, hp6, hn2, hn29, ht1, ht8⟩ := hB
  have hK := hK3
  intro n
  induction n with
  | zero => intro kd h1 h2; exact absurd h2 (by omega)
  | succ n ih =>
    intro kd hle hfu og H locs ls hOf hP hD hS hl
    refine lv_iload hx hb dL_law_553 (lv_at hl 11 rfl) ?_
    refine lv_iconst (v := nI 5) hx hb dL_law_555 (by decide) ?_
    refine lv_icmp_ge (tgt := 638) hx hb dL_law_556 (by decide) (fun c_556 => ?_) (fun c_556 => ?_)
    · have c_556 : 5 ≤ kd := cb_ge (by omega) (by omega) c_556
      rw [show kd = 5 by omega] at hl
      refine W.widen (k := cE) (n := sE) (by omega) (by omega) ?_
      exact kk og H locs ls hP hD hS (lv_sub hl [0, 1, 2, 3, 4, 5, 6, 7, 8, 9, 10] rfl)
    · have c_556 : kd < 5 := cb_nge (by omega) (by omega) c_556
      refine lv_aload_n hx hb dL_law_559 rfl (lv_at hl 1 rfl) ?_
      refine lv_iload hx hb dL_law_560 (lv_at hl 7 rfl) ?_
      refine lv_iload hx hb dL_law_562 (lv_at hl 11 rfl) ?_
      have hPc := hP.sub (ws' := (cb_w a k S)) [0, 1, 2, 3, 4, 5, 6, 7, 8, 9, 10, 11, 12, 13, 14, 15, 16, 17, 18, 19] rfl
      have hDc := hD.sub (ws' := (cb_w a k S)) [0, 1, 2, 3, 4, 5, 6, 7, 8, 9, 10, 11, 12, 13, 14, 15, 16, 17, 18, 19] (by decide) rfl
      have hKc := hK.sub (tys' := (cb_ty k)) [0, 1, 2, 3, 4, 5, 6, 7, 8, 9, 10, 11, 12, 13] rfl
      have hF : ∀ z, va_A (cb_w a k S) H.size z → (fun z => s.heap.size ≤ z) z := va_free hD hS hA [0, 1, 2, 3, 4, 5, 6, 7, 8, 9, 10, 11, 12, 13, 14, 15, 16, 17, 18, 19] rfl
      refine vx_calli (vx_runV (As := [.int (nI dy), .int (nI kd)]) (rest := []) ⟨hx, hb, hml, hown, hts⟩ (c_X5_duty l hl9 dC dI a k S H.size (nI dy) (nI kd) hC.1) (cwV 2 hts gL_law_X5_duty rfl rfl rfl (by decide +kernel) ⟨(Nat.le_of_ble_eq_true rfl), (Nat.le_of_ble_eq_true rfl)⟩) ⟨cU_blind, va_recv hKc hPc (ci := 5) (q0 := 0) rfl rfl, fun U hU hW => ⟨rfl, cU_of hKc hPc hDc hE hS hU hW hF⟩⟩ rfl rfl hl.1 rfl (lv_room (Nat.le_of_ble_eq_true rfl)) dL_law_564 ⟨(by show (cells + 16 * kd) + 8 ≤ room_1.cells; exact Nat.le_trans (by omega) rm_c), (by show (slots + 96 * kd) + 48 ≤ room_1.slots; exact Nat.le_trans (by omega) rm_s)⟩) hS (fun z _ h => hF z h) hF (fun z _ h => hF z h) (fun E ce q9 u8 t8 H1 L1 ht hvm _ hB hz1 hk1 hS hce hcv hcl => absurd hB.1.1 (by rw [kz_duty (by omega) (by omega)]; decide)) (fun r9 u8 t8 H1 L1 ht hvm hw hB hz1 hk1 hS => ?_)
      obtain ⟨hP9, -, hD9⟩ := hB
      rw [ht] at hP9
      obtain ⟨hP8, hD8⟩ := va_join (wc := (cb_w a k S)) (wr := [(qt, .inl (kt, (90, .inl tl))), (qp, .inl (kp, (10, .inl pl))), (qo, .inl (ko, (6, .inl og)))]) hP hD [0, 1, 2, 3, 4, 5, 6, 7, 8, 9, 10, 11, 12, 13, 14, 15, 16, 17, 18, 19] [20, 21, 22] rfl rfl (by decide) (by decide) hk1 hF hP9 hD9
      have hP : va_P (dC, dI) vwCl (cb_w a k S ++ [(qt, .inl (kt, (90, .inl tl))), (qp, .inl (kp, (10, .inl pl))), (qo, .inl (ko, (6, .inl og)))]) H1 := hP8.sub [3, 4, 5, 6, 7, 8, 9, 10, 11, 12, 13, 14, 15, 16, 17, 18, 19, 20, 21, 22, 0, 1, 2] rfl
      have hD : va_D (fun z => s.heap.size ≤ z) (cb_w a k S ++ [(qt, .inl (kt, (90, .inl tl))), (qp, .inl (kp, (10, .inl pl))), (qo, .inl (ko, (6, .inl og)))]) := hD8.sub [3, 4, 5, 6, 7, 8, 9, 10, 11, 12, 13, 14, 15, 16, 17, 18, 19, 20, 21, 22, 0, 1, 2] (by decide) rfl
      obtain ⟨-, hr9⟩ := hw
      subst hr9
      refine cb_topi (z := c_hld S (dy * 5 + kd)) (rs_duty (by omega) (by omega)) ?_
      rcases hld_or (q := kd) hC.1 (show dy ≤ 60 by omega) c_556 with eh | ⟨pp, hpp, eh⟩
      · refine cb_topi (z := (-1)) eh ?_
        refine lv_istore (lv' := [(15, .int (-1)), (0, .ref b), (1, .ref (a 0)), (2, .int (nI np)), (3, .ref qt), (4, .int (nI ns)), (5, .ref qp), (6, .int (nI nt)), (7, .int (nI dy)), (8, .int x8), (12, .int (nI (frE S dy kd))), (13, .ref qo), (14, .int (nI kd))]) hx hb dL_law_567 hl (by decide) rfl (fun ls hl => ?_)
        refine lv_iload hx hb dL_law_569 (lv_at hl 10 rfl) ?_
        refine lv_iload hx hb dL_law_571 (lv_at hl 0 rfl) ?_
        refine lv_if_ge (tgt := 580) hx hb dL_law_573 (by decide) (fun c_573 => ?_) (fun c_573 => ?_)
        · skip
          exact absurd c_573 (by decide)
        · skip
          refine lv_iconst (v := nI 1) hx hb dL_law_576 (by decide) ?_
          refine lv_goto (tgt := 581) hx hb dL_law_577 (by decide) ?_
          refine lv_isub hx hb dL_law_581 ?_
          refine cb_topi (z := nI (frE S dy (kd + 1))) (frE_t c_556 eh) ?_
          refine lv_istore (lv' := [(12, .int (nI (frE S dy (kd + 1)))), (15, .int (-1)), (0, .ref b), (1, .ref (a 0)), (2, .int (nI np)), (3, .ref qt), (4, .int (nI ns)), (5, .ref qp), (6, .int (nI nt)), (7, .int (nI dy)), (8, .int x8), (13, .ref qo), (14, .int (nI kd))]) hx hb dL_law_582 hl (by decide) rfl (fun ls hl => ?_)
          refine lv_iload hx hb dL_law_584 (lv_at hl 1 rfl) ?_
          refine lv_if_ge (tgt := 592) hx hb dL_law_586 (by decide) (fun c_586 => ?_) (fun c_586 => ?_)
          · skip
            exact absurd c_586 (by decide)
          · skip
            refine lv_goto (tgt := 632) hx hb dL_law_589 (by decide) ?_
            refine lv_iinc (v := nI (kd + 1)) (lv' := [(14, .int (nI (kd + 1))), (12, .int (nI (frE S dy (kd + 1)))), (15, .int (-1)), (0, .ref b), (1, .ref (a 0)), (2, .int (nI np)), (3, .ref qt), (4, .int (nI ns)), (5, .ref qp), (6, .int (nI nt)), (7, .int (nI dy)), (8, .int x8), (13, .ref qo)]) hx hb dL_law_632 hl (k := 12) rfl (nI_1 _) (by decide) rfl (fun ls hl => ?_)
            refine lv_goto (tgt := 553) hx hb dL_law_635 (by decide) ?_
            refine W.widen (k := cells + 16 * (kd + 1)) (n := slots + 96 * (kd + 1)) (by omega) (by omega) ?_
            exact ih (kd + 1) (by omega) (by omega) og H1 L1 ls (of_none hOf) hP hD hS (lv_sub hl [3, 4, 5, 6, 7, 8, 9, 10, 11, 1, 12, 0] rfl)
      · have hpp6 : pp < 6 := by have := hC.2.1.2.1; omega
        refine cb_topi (z := nI pp) eh ?_
        refine lv_istore (lv' := [(15, .int (nI pp)), (0, .ref b), (1, .ref (a 0)), (2, .int (nI np)), (3, .ref qt), (4, .int (nI ns)), (5, .ref qp), (6, .int (nI nt)), (7, .int (nI dy)), (8, .int x8), (12, .int (nI (frE S dy kd))), (13, .ref qo), (14, .int (nI kd))]) hx hb dL_law_567 hl (by decide) rfl (fun ls hl => ?_)
        refine lv_iload hx hb dL_law_569 (lv_at hl 10 rfl) ?_
        refine lv_iload hx hb dL_law_571 (lv_at hl 0 rfl) ?_
        refine lv_if_ge (tgt := 580) hx hb dL_law_573 (by decide) (fun c_573 => ?_) (fun c_573 => ?_)
        · have c_573 : 0 ≤ pp := cb_ge (by omega) (by omega) c_573
          refine lv_iconst (v := nI 0) hx hb dL_law_580 (by decide) ?_
          refine lv_isub hx hb dL_law_581 ?_
          refine cb_topi (z := nI (frE S dy (kd + 1))) (frE_f (by rw [eh]; exact fun z => nI_m1 (by omega) z.symm)) ?_
          refine lv_istore (lv' := [(12, .int (nI (frE S dy (kd + 1)))), (15, .int (nI pp)), (0, .ref b), (1, .ref (a 0)), (2, .int (nI np)), (3, .ref qt), (4, .int (nI ns)), (5, .ref qp), (6, .int (nI nt)), (7, .int (nI dy)), (8, .int x8), (13, .ref qo), (14, .int (nI kd))]) hx hb dL_law_582 hl (by decide) rfl (fun ls hl => ?_)
          refine lv_iload hx hb dL_law_584 (lv_at hl 1 rfl) ?_
          refine lv_if_ge (tgt := 592) hx hb dL_law_586 (by decide) (fun c_586 => ?_) (fun c_586 => ?_)
          · have c_586 : 0 ≤ pp := cb_ge (by omega) (by omega) c_586
            refine lv_aload hx hb dL_law_592 (lv_at hl 11 rfl) ?_
            refine lv_iload hx hb dL_law_594 (lv_at hl 1 rfl) ?_
            refine lv_dup2_11 hx hb dL_law_596 rfl rfl ?_
            refine cb_iald hx hb hK hP 22 16 (f := og) rfl rfl (j := pp) (by omega) (Nat.le_of_ble_eq_true rfl) dL_law_597 ?_
            refine cb_topi (z := nI 0) (of_some hC.2.2.2.2.1 (by omega) c_556 hpp6 eh hOf).1 ?_
            refine lv_iconst (v := nI 1) hx hb dL_law_598 (by decide) ?_
            refine lv_iadd hx hb dL_law_599 ?_
            refine cb_topi (nI_add _ _) ?_
            refine cb_topi (z := nI 1) rfl ?_
            refine cb_iast hx hb hK hP hD hS 22 16 (f := og) rfl rfl (j := pp) (by omega) (Nat.le_of_ble_eq_true rfl) dL_law_600 (fun H locs hP hD hS => ?_)
            have hP : va_P (dC, dI) vwCl (cb_w a k S ++ [(qt, .inl (kt, (90, .inl tl))), (qp, .inl (kp, (10, .inl pl))), (qo, .inl (ko, (6, .inl (upd og pp (nI 1)))))]) H := hP
            have hD : va_D (fun z => s.heap.size ≤ z) (cb_w a k S ++ [(qt, .inl (kt, (90, .inl tl))), (qp, .inl (kp, (10, .inl pl))), (qo, .inl (ko, (6, .inl (upd og pp (nI 1)))))]) := hD
            refine lv_aload hx hb dL_law_601 (lv_at hl 11 rfl) ?_
            refine lv_iload hx hb dL_law_603 (lv_at hl 1 rfl) ?_
            refine cb_iald hx hb hK hP 22 16 (f := upd og pp (nI 1)) rfl rfl (j := pp) (by omega) (Nat.le_of_ble_eq_true rfl) dL_law_605 ?_
            refine cb_topi (z := nI 1) pk_us ?_
            refine lv_iconst (v := nI 1) hx hb dL_law_606 (by decide) ?_
            refine lv_icmp_gt (tgt := 630) hx hb dL_law_607 (by decide) (fun c_607 => ?_) (fun c_607 => ?_)
            · exact absurd c_607 (by decide)
            · skip
              refine lv_iload hx hb dL_law_610 (lv_at hl 9 rfl) ?_
              refine lv_if_le (tgt := 632) hx hb dL_law_612 (by decide) (fun c_612 => ?_) (fun c_612 => ?_)
              · have c_612 : dy ≤ 0 := cb_le (by omega) (by omega) c_612
                refine lv_iinc (v := nI (kd + 1)) (lv' := [(14, .int (nI (kd + 1))), (12, .int (nI (frE S dy (kd + 1)))), (15, .int (nI pp)), (0, .ref b), (1, .ref (a 0)), (2, .int (nI np)), (3, .ref qt), (4, .int (nI ns)), (5, .ref qp), (6, .int (nI nt)), (7, .int (nI dy)), (8, .int x8), (13, .ref qo)]) hx hb dL_law_632 hl (k := 12) rfl (nI_1 _) (by decide) rfl (fun ls hl => ?_)
                refine lv_goto (tgt := 553) hx hb dL_law_635 (by decide) ?_
                refine W.widen (k := cells + 16 * (kd + 1)) (n := slots + 96 * (kd + 1)) (by omega) (by omega) ?_
                exact ih (kd + 1) (by omega) (by omega) (upd og pp (nI 1)) H locs ls (of_some hC.2.2.2.2.1 (by omega) c_556 hpp6 eh hOf).2 hP hD hS (lv_sub hl [3, 4, 5, 6, 7, 8, 9, 10, 11, 1, 12, 0] rfl)
              · have c_612 : 0 < dy := cb_nle (by omega) (by omega) c_612
                refine lv_aload_n hx hb dL_law_615 rfl (lv_at hl 3 rfl) ?_
                refine lv_iload hx hb dL_law_616 (lv_at hl 9 rfl) ?_
                refine lv_iconst (v := nI 1) hx hb dL_law_618 (by decide) ?_
                refine lv_isub hx hb dL_law_619 ?_
                refine cb_topi (z := nI (dy - 1)) (pk_sub (by omega)) ?_
                refine lv_iload hx hb dL_law_620 (lv_at hl 12 rfl) ?_
                have hPc := hP.sub (ws' := (cb_w a k S)) [0, 1, 2, 3, 4, 5, 6, 7, 8, 9, 10, 11, 12, 13, 14, 15, 16, 17, 18, 19] rfl
                have hDc := hD.sub (ws' := (cb_w a k S)) [0, 1, 2, 3, 4, 5, 6, 7, 8, 9, 10, 11, 12, 13, 14, 15, 16, 17, 18, 19] (by decide) rfl
                have hKc := hK.sub (tys' := (cb_ty k)) [0, 1, 2, 3, 4, 5, 6, 7, 8, 9, 10, 11, 12, 13] rfl
                have hF : ∀ z, va_A (cb_w a k S) H.size z → (fun z => s.heap.size ≤ z) z := va_free hD hS hA [0, 1, 2, 3, 4, 5, 6, 7, 8, 9, 10, 11, 12, 13, 14, 15, 16, 17, 18, 19] rfl
                refine vx_calli (vx_runV (As := [.int (nI (dy - 1)), .int (nI kd)]) (rest := []) ⟨hx, hb, hml, hown, hts⟩ (c_X5_duty l hl9 dC dI a k S H.size (nI (dy - 1)) (nI kd) hC.1) (cwV 2 hts gL_law_X5_duty rfl rfl rfl (by decide +kernel) ⟨(Nat.le_of_ble_eq_true rfl), (Nat.le_of_ble_eq_true rfl)⟩) ⟨cU_blind, va_recv hKc hPc (ci := 5) (q0 := 0) rfl rfl, fun U hU hW => ⟨rfl, cU_of hKc hPc hDc hE hS hU hW hF⟩⟩ rfl rfl hl.1 rfl (lv_room (Nat.le_of_ble_eq_true rfl)) dL_law_622 ⟨(by show ((cells + 16 * kd) + 8) + 8 ≤ room_1.cells; exact Nat.le_trans (by omega) rm_c), (by show ((slots + 96 * kd) + 48) + 48 ≤ room_1.slots; exact Nat.le_trans (by omega) rm_s)⟩) hS (fun z _ h => hF z h) hF (fun z _ h => hF z h) (fun E ce q9 u8 t8 H1 L1 ht hvm _ hB hz1 hk1 hS hce hcv hcl => absurd hB.1.1 (by rw [kz_duty (by omega) (by omega)]; decide)) (fun r9 u8 t8 H1 L1 ht hvm hw hB hz1 hk1 hS => ?_)
                obtain ⟨hP9, -, hD9⟩ := hB
                rw [ht] at hP9
                obtain ⟨hP8, hD8⟩ := va_join (wc := (cb_w a k S)) (wr := [(qt, .inl (kt, (90, .inl tl))), (qp, .inl (kp, (10, .inl pl))), (qo, .inl (ko, (6, .inl (upd og pp (nI 1)))))]) hP hD [0, 1, 2, 3, 4, 5, 6, 7, 8, 9, 10, 11, 12, 13, 14, 15, 16, 17, 18, 19] [20, 21, 22] rfl rfl (by decide) (by decide) hk1 hF hP9 hD9
                have hP : va_P (dC, dI) vwCl (cb_w a k S ++ [(qt, .inl (kt, (90, .inl tl))), (qp, .inl (kp, (10, .inl pl))), (qo, .inl (ko, (6, .inl (upd og pp (nI 1)))))]) H1 := hP8.sub [3, 4, 5, 6, 7, 8, 9, 10, 11, 12, 13, 14, 15, 16, 17, 18, 19, 20, 21, 22, 0, 1, 2] rfl
                have hD : va_D (fun z => s.heap.size ≤ z) (cb_w a k S ++ [(qt, .inl (kt, (90, .inl tl))), (qp, .inl (kp, (10, .inl pl))), (qo, .inl (ko, (6, .inl (upd og pp (nI 1)))))]) := hD8.sub [3, 4, 5, 6, 7, 8, 9, 10, 11, 12, 13, 14, 15, 16, 17, 18, 19, 20, 21, 22, 0, 1, 2] (by decide) rfl
                obtain ⟨-, hr9⟩ := hw
                subst hr9
                refine cb_topi (z := c_hld S ((dy - 1) * 5 + kd)) (rs_duty (by omega) (by omega)) ?_
                refine lv_iload hx hb dL_law_625 (lv_at hl 1 rfl) ?_
                refine lv_icmp_ne (tgt := 632) hx hb dL_law_627 (by decide) (fun c_627 => ?_) (fun c_627 => ?_)
                · skip
                  refine lv_iinc (v := nI (kd + 1)) (lv' := [(14, .int (nI (kd + 1))), (12, .int (nI (frE S dy (kd + 1)))), (15, .int (nI pp)), (0, .ref b), (1, .ref (a 0)), (2, .int (nI np)), (3, .ref qt), (4, .int (nI ns)), (5, .ref qp), (6, .int (nI nt)), (7, .int (nI dy)), (8, .int x8), (13, .ref qo)]) hx hb dL_law_632 hl (k := 12) rfl (nI_1 _) (by decide) rfl (fun ls hl => ?_)
                  refine lv_goto (tgt := 553) hx hb dL_law_635 (by decide) ?_
                  refine W.widen (k := cells + 16 * (kd + 1)) (n := slots + 96 * (kd + 1)) (by omega) (by omega) ?_
                  exact ih (kd + 1) (by omega) (by omega) (upd og pp (nI 1)) H1 L1 ls (of_some hC.2.2.2.2.1 (by omega) c_556 hpp6 eh hOf).2 hP hD hS (lv_sub hl [3, 4, 5, 6, 7, 8, 9, 10, 11, 1, 12, 0] rfl)
                · skip
                  exact absurd c_627 (duty_twice hC.2.2.2.2.1 (d := dy - 1) (by omega) c_556 hpp6 (by rw [show dy - 1 + 1 = dy by omega]; exact eh))
          · have c_586 : pp < 0 := cb_nge (by omega) (by omega) c_586
            exact absurd c_586 (by omega)
        · have c_573 : pp < 0 := cb_nge (by omega) (by omega) c_573
          exact absurd c_573 (by omega)
end CBV5
