/-! p35: the law: hours and badges; stores -/
section CBV2
set_option maxHeartbeats 4000000 in
set_option maxRecDepth 100000 in
theorem lp_hours {p : Program} {l : Launch} {e : Env} {s : State} {m : MethodId} {below : List Frame} {meth : Method} {c : Code} {b L : Nat} {xs : Nat → Int32} {dC : Nat → ClassId} {dI : Nat → Nat → Nat} {a : Nat → Nat} {k : Nat → ClassId} {qt : Nat} {kt : ClassId} {tl : Nat → Int32} {qp : Nat} {kp : ClassId} {pl : Nat → Int32} {np ns nt dy hq cells slots cE sE : Nat} {Q : State → Prop} (hl9 : l.stackTraces = false) (C0 : LC p s m c b L xs dC dI k kt kp) (hB : BD np ns nt) (h1 : cells + 1200 ≤ cE) (h2 : slots + 7200 ≤ sE) (hc : cE ≤ 200000) (hs : sE ≤ 2000000) (hb2 : hq < 200) (kk : KD p l e s m below meth c b dC dI a k qt kt tl qp kp pl np ns nt dy hq [] 883 cE sE Q) : ∀ (n u : Nat), u ≤ ns → ns + 1 ≤ u + n → ∀ (S : cs_S) (H : Heap) (locs : List Loc) (ls : Array Slot), Cp dy np ns nt 4 3 1 hq 12 tl pl S → va_P (dC, dI) vwCl (cb_w a k S ++ [(qt, .inl (kt, (90, .inl tl))), (qp, .inl (kp, (10, .inl pl)))]) H → va_D (fun z => s.heap.size ≤ z) (cb_w a k S ++ [(qt, .inl (kt, (90, .inl tl))), (qp, .inl (kp, (10, .inl pl)))]) → va_S (fun z => s.heap.size ≤ z) s.heap H locs → lv_has ls 19 [(0, .ref b), (1, .ref (a 0)), (2, .int (nI np)), (3, .ref qt), (4, .int (nI ns)), (5, .ref qp), (6, .int (nI nt)), (7, .int (nI dy)), (16, .int (nI u))] → W p l e room_1 s m #[Value.ref b] below meth c H locs (cells + 40 * u) (slots + 240 * u) Q (F0 m 774 ls []) := by
  have C1 := C0
  obtain ⟨hx, hb, hml, hown, hts, hX, hbl, hL, hK, hE⟩ := C0
  have hbA : ¬ (fun z => s.heap.size ≤ z) b := Nat.not_le.mpr hbl
  have hA : ∀ q : Nat, s.heap.size ≤ q → (fun z => s.heap.size ≤ z) q := fun q h => h
  have hBD := hB
  obtain ⟨hp1, hp6, hn2, hn29, ht1, ht8⟩ := hB
  intro n
  induction n with
  | zero => intro u h1 h2; exact absurd h2 (by omega)
  | succ n ih =>
    intro u hle hfu S H locs ls hC hP hD hS hl
    refine lv_iload hx hb dL_law_774 (lv_at hl 8 rfl) ?_
    refine lv_iload hx hb dL_law_776 (lv_at hl 4 rfl) ?_
    refine lv_icmp_ge (tgt := 883) hx hb dL_law_778 (by decide) (fun c_778 => ?_) (fun c_778 => ?_)
    · have c_778 : ns ≤ u := cb_ge (by omega) (by omega) c_778
      refine W.widen (k := cE) (n := sE) (by omega) (by omega) ?_
      exact kk S H locs ls hC hP hD hS (lv_sub hl [0, 1, 2, 3, 4, 5, 6, 7] rfl)
    · have c_778 : u < ns := cb_nge (by omega) (by omega) c_778
      refine lv_aload_n hx hb dL_law_781 rfl (lv_at hl 1 rfl) ?_
      refine lv_iload hx hb dL_law_782 (lv_at hl 8 rfl) ?_
      refine lv_iconst (v := nI 0) hx hb dL_law_784 (by decide) ?_
      have hPc := hP.sub (ws' := (cb_w a k S)) [0, 1, 2, 3, 4, 5, 6, 7, 8, 9, 10, 11, 12, 13, 14, 15, 16, 17, 18, 19] rfl
      have hDc := hD.sub (ws' := (cb_w a k S)) [0, 1, 2, 3, 4, 5, 6, 7, 8, 9, 10, 11, 12, 13, 14, 15, 16, 17, 18, 19] (by decide) rfl
      have hKc := hK.sub (tys' := (cb_ty k)) [0, 1, 2, 3, 4, 5, 6, 7, 8, 9, 10, 11, 12, 13] rfl
      have hF : ∀ z, va_A (cb_w a k S) H.size z → (fun z => s.heap.size ≤ z) z := va_free hD hS hA [0, 1, 2, 3, 4, 5, 6, 7, 8, 9, 10, 11, 12, 13, 14, 15, 16, 17, 18, 19] rfl
      refine vx_calli (vx_runV (As := [.int (nI u), .int (nI 0)]) (rest := []) ⟨hx, hb, hml, hown, hts⟩ (c_X5_away l hl9 dC dI a k S H.size (nI u) (nI 0) hC.1) (cwV 2 hts gL_law_X5_away rfl rfl rfl (by decide +kernel) ⟨(Nat.le_of_ble_eq_true rfl), (Nat.le_of_ble_eq_true rfl)⟩) ⟨cU_blind, va_recv hKc hPc (ci := 5) (q0 := 0) rfl rfl, fun U hU hW => ⟨rfl, cU_of hKc hPc hDc hE hS hU hW hF⟩⟩ rfl rfl hl.1 rfl (lv_room (Nat.le_of_ble_eq_true rfl)) dL_law_785 ⟨(by show (cells + 40 * u) + 8 ≤ room_1.cells; exact Nat.le_trans (by omega) rm_c), (by show (slots + 240 * u) + 48 ≤ room_1.slots; exact Nat.le_trans (by omega) rm_s)⟩) hS (fun z _ h => hF z h) hF (fun z _ h => hF z h) (fun E ce q9 u8 t8 H1 L1 ht hvm _ hB hz1 hk1 hS hce hcv hcl => absurd hB.1.1 (by rw [kz_away hC.2.1.2.2.1 (by omega) c_778 hC.2.1.2.2.2.2.2.2 rfl]; decide)) (fun r9 u8 t8 H1 L1 ht hvm hw hB hz1 hk1 hS => ?_)
      obtain ⟨hP9, -, hD9⟩ := hB
      rw [ht] at hP9
      obtain ⟨hP8, hD8⟩ := va_join (wc := (cb_w a k S)) (wr := [(qt, .inl (kt, (90, .inl tl))), (qp, .inl (kp, (10, .inl pl)))]) hP hD [0, 1, 2, 3, 4, 5, 6, 7, 8, 9, 10, 11, 12, 13, 14, 15, 16, 17, 18, 19] [20, 21] rfl rfl (by decide) (by decide) hk1 hF hP9 hD9
      have hP : va_P (dC, dI) vwCl (cb_w a k S ++ [(qt, .inl (kt, (90, .inl tl))), (qp, .inl (kp, (10, .inl pl)))]) H1 := hP8.sub [2, 3, 4, 5, 6, 7, 8, 9, 10, 11, 12, 13, 14, 15, 16, 17, 18, 19, 20, 21, 0, 1] rfl
      have hD : va_D (fun z => s.heap.size ≤ z) (cb_w a k S ++ [(qt, .inl (kt, (90, .inl tl))), (qp, .inl (kp, (10, .inl pl)))]) := hD8.sub [2, 3, 4, 5, 6, 7, 8, 9, 10, 11, 12, 13, 14, 15, 16, 17, 18, 19, 20, 21, 0, 1] (by decide) rfl
      obtain ⟨-, hr9⟩ := hw
      subst hr9
      refine cb_topi (z := dist S u 0) (rs_away (by omega)) ?_
      refine lv_topi (fun y1 ey1 => ?_)
      refine lv_istore (lv' := [(17, .int y1), (0, .ref b), (1, .ref (a 0)), (2, .int (nI np)), (3, .ref qt), (4, .int (nI ns)), (5, .ref qp), (6, .int (nI nt)), (7, .int (nI dy)), (16, .int (nI u))]) hx hb dL_law_788 hl (by decide) rfl (fun ls hl => ?_)
      refine lv_iload hx hb dL_law_790 (lv_at hl 0 rfl) ?_
      refine lv_if_ne (tgt := 808) hx hb dL_law_792 (by decide) (fun c_792 => ?_) (fun c_792 => ?_)
      · skip
        refine lv_iload hx hb dL_law_808 (lv_at hl 0 rfl) ?_
        refine lv_if_ne (tgt := 839) hx hb dL_law_810 (by decide) (fun c_810 => ?_) (fun c_810 => ?_)
        · skip
          refine lv_aload_n hx hb dL_law_839 rfl (lv_at hl 2 rfl) ?_
          refine lv_iload hx hb dL_law_840 (lv_at hl 9 rfl) ?_
          refine lv_iconst (v := nI 5) hx hb dL_law_842 (by decide) ?_
          have hPc := hP.sub (ws' := (cb_w a k S)) [0, 1, 2, 3, 4, 5, 6, 7, 8, 9, 10, 11, 12, 13, 14, 15, 16, 17, 18, 19] rfl
          have hDc := hD.sub (ws' := (cb_w a k S)) [0, 1, 2, 3, 4, 5, 6, 7, 8, 9, 10, 11, 12, 13, 14, 15, 16, 17, 18, 19] (by decide) rfl
          have hKc := hK.sub (tys' := (cb_ty k)) [0, 1, 2, 3, 4, 5, 6, 7, 8, 9, 10, 11, 12, 13] rfl
          have hF : ∀ z, va_A (cb_w a k S) H1.size z → (fun z => s.heap.size ≤ z) z := va_free hD hS hA [0, 1, 2, 3, 4, 5, 6, 7, 8, 9, 10, 11, 12, 13, 14, 15, 16, 17, 18, 19] rfl
          refine vx_calli (vx_runV (As := [.int (nI u), .int (nI 5)]) (rest := []) ⟨hx, hb, hml, hown, hts⟩ (c_X5_scout l hl9 dC dI a k S H1.size (nI u) (nI 5) hC.1) (cwV 2 hts gL_law_X5_scout rfl rfl rfl (by decide +kernel) ⟨(Nat.le_of_ble_eq_true rfl), (Nat.le_of_ble_eq_true rfl)⟩) ⟨cU_blind, va_recv hKc hPc (ci := 5) (q0 := 0) rfl rfl, fun U hU hW => ⟨rfl, cU_of hKc hPc hDc hE hS hU hW hF⟩⟩ rfl rfl hl.1 rfl (lv_room (Nat.le_of_ble_eq_true rfl)) dL_law_843 ⟨(by show ((cells + 40 * u) + 8) + 8 ≤ room_1.cells; exact Nat.le_trans (by omega) rm_c), (by show ((slots + 240 * u) + 48) + 48 ≤ room_1.slots; exact Nat.le_trans (by omega) rm_s)⟩) hS (fun z _ h => hF z h) hF (fun z _ h => hF z h) (fun E ce q9 u8 t8 H1 L1 ht hvm _ hB hz1 hk1 hS hce hcv hcl => absurd hB.1.1 (by rw [kz_scout hC.2.1.2.2.1 (by omega) c_778 (by omega)]; decide)) (fun r9 u8 t8 H1 L1 ht hvm hw hB hz1 hk1 hS => ?_)
          obtain ⟨hP9, -, hD9⟩ := hB
          rw [ht] at hP9
          obtain ⟨hP8, hD8⟩ := va_join (wc := (cb_w a k S)) (wr := [(qt, .inl (kt, (90, .inl tl))), (qp, .inl (kp, (10, .inl pl)))]) hP hD [0, 1, 2, 3, 4, 5, 6, 7, 8, 9, 10, 11, 12, 13, 14, 15, 16, 17, 18, 19] [20, 21] rfl rfl (by decide) (by decide) hk1 hF hP9 hD9
          have hP : va_P (dC, dI) vwCl (cb_w a k S ++ [(qt, .inl (kt, (90, .inl tl))), (qp, .inl (kp, (10, .inl pl)))]) H1 := hP8.sub [2, 3, 4, 5, 6, 7, 8, 9, 10, 11, 12, 13, 14, 15, 16, 17, 18, 19, 20, 21, 0, 1] rfl
          have hD : va_D (fun z => s.heap.size ≤ z) (cb_w a k S ++ [(qt, .inl (kt, (90, .inl tl))), (qp, .inl (kp, (10, .inl pl)))]) := hD8.sub [2, 3, 4, 5, 6, 7, 8, 9, 10, 11, 12, 13, 14, 15, 16, 17, 18, 19, 20, 21, 0, 1] (by decide) rfl
          obtain ⟨-, hr9⟩ := hw
          subst hr9
          refine cb_topi (z := c_bad S u) (rs_bad (by omega)) ?_
          refine lv_iconst (v := nI 1) hx hb dL_law_846 (by decide) ?_
          refine lv_icmp_ne (tgt := 854) hx hb dL_law_847 (by decide) (fun c_847 => ?_) (fun c_847 => ?_)
          · skip
            refine lv_iconst (v := nI 0) hx hb dL_law_854 (by decide) ?_
            refine lv_aload_n hx hb dL_law_855 rfl (lv_at hl 2 rfl) ?_
            refine lv_iload hx hb dL_law_856 (lv_at hl 9 rfl) ?_
            refine lv_iconst (v := nI 0) hx hb dL_law_858 (by decide) ?_
            have hPc := hP.sub (ws' := (cb_w a k S)) [0, 1, 2, 3, 4, 5, 6, 7, 8, 9, 10, 11, 12, 13, 14, 15, 16, 17, 18, 19] rfl
            have hDc := hD.sub (ws' := (cb_w a k S)) [0, 1, 2, 3, 4, 5, 6, 7, 8, 9, 10, 11, 12, 13, 14, 15, 16, 17, 18, 19] (by decide) rfl
            have hKc := hK.sub (tys' := (cb_ty k)) [0, 1, 2, 3, 4, 5, 6, 7, 8, 9, 10, 11, 12, 13] rfl
            have hF : ∀ z, va_A (cb_w a k S) H1.size z → (fun z => s.heap.size ≤ z) z := va_free hD hS hA [0, 1, 2, 3, 4, 5, 6, 7, 8, 9, 10, 11, 12, 13, 14, 15, 16, 17, 18, 19] rfl
            refine vx_calli (vx_runV (As := [.int (nI u), .int (nI 0)]) (rest := [.int (nI 0)]) ⟨hx, hb, hml, hown, hts⟩ (c_X5_away l hl9 dC dI a k S H1.size (nI u) (nI 0) hC.1) (cwV 2 hts gL_law_X5_away rfl rfl rfl (by decide +kernel) ⟨(Nat.le_of_ble_eq_true rfl), (Nat.le_of_ble_eq_true rfl)⟩) ⟨cU_blind, va_recv hKc hPc (ci := 5) (q0 := 0) rfl rfl, fun U hU hW => ⟨rfl, cU_of hKc hPc hDc hE hS hU hW hF⟩⟩ rfl rfl hl.1 rfl (lv_room (Nat.le_of_ble_eq_true rfl)) dL_law_859 ⟨(by show (((cells + 40 * u) + 8) + 8) + 8 ≤ room_1.cells; exact Nat.le_trans (by omega) rm_c), (by show (((slots + 240 * u) + 48) + 48) + 48 ≤ room_1.slots; exact Nat.le_trans (by omega) rm_s)⟩) hS (fun z _ h => hF z h) hF (fun z _ h => hF z h) (fun E ce q9 u8 t8 H1 L1 ht hvm _ hB hz1 hk1 hS hce hcv hcl => absurd hB.1.1 (by rw [kz_away hC.2.1.2.2.1 (by omega) c_778 hC.2.1.2.2.2.2.2.2 rfl]; decide)) (fun r9 u8 t8 H1 L1 ht hvm hw hB hz1 hk1 hS => ?_)
            obtain ⟨hP9, -, hD9⟩ := hB
            rw [ht] at hP9
            obtain ⟨hP8, hD8⟩ := va_join (wc := (cb_w a k S)) (wr := [(qt, .inl (kt, (90, .inl tl))), (qp, .inl (kp, (10, .inl pl)))]) hP hD [0, 1, 2, 3, 4, 5, 6, 7, 8, 9, 10, 11, 12, 13, 14, 15, 16, 17, 18, 19] [20, 21] rfl rfl (by decide) (by decide) hk1 hF hP9 hD9
            have hP : va_P (dC, dI) vwCl (cb_w a k S ++ [(qt, .inl (kt, (90, .inl tl))), (qp, .inl (kp, (10, .inl pl)))]) H1 := hP8.sub [2, 3, 4, 5, 6, 7, 8, 9, 10, 11, 12, 13, 14, 15, 16, 17, 18, 19, 20, 21, 0, 1] rfl
            have hD : va_D (fun z => s.heap.size ≤ z) (cb_w a k S ++ [(qt, .inl (kt, (90, .inl tl))), (qp, .inl (kp, (10, .inl pl)))]) := hD8.sub [2, 3, 4, 5, 6, 7, 8, 9, 10, 11, 12, 13, 14, 15, 16, 17, 18, 19, 20, 21, 0, 1] (by decide) rfl
            obtain ⟨-, hr9⟩ := hw
            subst hr9
            refine cb_topi (z := dist S u 0) (rs_away (by omega)) ?_
            refine lv_bipush (v := (-2)) hx hb dL_law_862 (by decide) ?_
            refine lv_icmp_ne (tgt := 871) hx hb dL_law_864 (by decide) (fun c_864 => ?_) (fun c_864 => ?_)
            · skip
              refine lv_iconst (v := nI 0) hx hb dL_law_871 (by decide) ?_
              refine lv_icmp_eq (tgt := 877) hx hb dL_law_872 (by decide) (fun c_872 => ?_) (fun c_872 => ?_)
              · skip
                refine lv_iinc (v := nI (u + 1)) (lv' := [(16, .int (nI (u + 1))), (17, .int y1), (0, .ref b), (1, .ref (a 0)), (2, .int (nI np)), (3, .ref qt), (4, .int (nI ns)), (5, .ref qp), (6, .int (nI nt)), (7, .int (nI dy))]) hx hb dL_law_877 hl (k := 9) rfl (nI_1 _) (by decide) rfl (fun ls hl => ?_)
                refine lv_goto (tgt := 774) hx hb dL_law_880 (by decide) ?_
                refine W.widen (k := cells + 40 * (u + 1)) (n := slots + 240 * (u + 1)) (by omega) (by omega) ?_
                exact ih (u + 1) (by omega) (by omega) S H1 L1 ls hC hP hD hS (lv_sub hl [2, 3, 4, 5, 6, 7, 8, 9, 0] rfl)
              · exact absurd c_872 (by decide)
            · skip
              exact absurd ((away_2i hC hb2 c_778).mp c_864) c_847
          · skip
            refine lv_iconst (v := nI 1) hx hb dL_law_850 (by decide) ?_
            refine lv_goto (tgt := 855) hx hb dL_law_851 (by decide) ?_
            refine lv_aload_n hx hb dL_law_855 rfl (lv_at hl 2 rfl) ?_
            refine lv_iload hx hb dL_law_856 (lv_at hl 9 rfl) ?_
            refine lv_iconst (v := nI 0) hx hb dL_law_858 (by decide) ?_
            have hPc := hP.sub (ws' := (cb_w a k S)) [0, 1, 2, 3, 4, 5, 6, 7, 8, 9, 10, 11, 12, 13, 14, 15, 16, 17, 18, 19] rfl
            have hDc := hD.sub (ws' := (cb_w a k S)) [0, 1, 2, 3, 4, 5, 6, 7, 8, 9, 10, 11, 12, 13, 14, 15, 16, 17, 18, 19] (by decide) rfl
            have hKc := hK.sub (tys' := (cb_ty k)) [0, 1, 2, 3, 4, 5, 6, 7, 8, 9, 10, 11, 12, 13] rfl
            have hF : ∀ z, va_A (cb_w a k S) H1.size z → (fun z => s.heap.size ≤ z) z := va_free hD hS hA [0, 1, 2, 3, 4, 5, 6, 7, 8, 9, 10, 11, 12, 13, 14, 15, 16, 17, 18, 19] rfl
            refine vx_calli (vx_runV (As := [.int (nI u), .int (nI 0)]) (rest := [.int (nI 1)]) ⟨hx, hb, hml, hown, hts⟩ (c_X5_away l hl9 dC dI a k S H1.size (nI u) (nI 0) hC.1) (cwV 2 hts gL_law_X5_away rfl rfl rfl (by decide +kernel) ⟨(Nat.le_of_ble_eq_true rfl), (Nat.le_of_ble_eq_true rfl)⟩) ⟨cU_blind, va_recv hKc hPc (ci := 5) (q0 := 0) rfl rfl, fun U hU hW => ⟨rfl, cU_of hKc hPc hDc hE hS hU hW hF⟩⟩ rfl rfl hl.1 rfl (lv_room (Nat.le_of_ble_eq_true rfl)) dL_law_859 ⟨(by show (((cells + 40 * u) + 8) + 8) + 8 ≤ room_1.cells; exact Nat.le_trans (by omega) rm_c), (by show (((slots + 240 * u) + 48) + 48) + 48 ≤ room_1.slots; exact Nat.le_trans (by omega) rm_s)⟩) hS (fun z _ h => hF z h) hF (fun z _ h => hF z h) (fun E ce q9 u8 t8 H1 L1 ht hvm _ hB hz1 hk1 hS hce hcv hcl => absurd hB.1.1 (by rw [kz_away hC.2.1.2.2.1 (by omega) c_778 hC.2.1.2.2.2.2.2.2 rfl]; decide)) (fun r9 u8 t8 H1 L1 ht hvm hw hB hz1 hk1 hS => ?_)
            obtain ⟨hP9, -, hD9⟩ := hB
            rw [ht] at hP9
            obtain ⟨hP8, hD8⟩ := va_join (wc := (cb_w a k S)) (wr := [(qt, .inl (kt, (90, .inl tl))), (qp, .inl (kp, (10, .inl pl)))]) hP hD [0, 1, 2, 3, 4, 5, 6, 7, 8, 9, 10, 11, 12, 13, 14, 15, 16, 17, 18, 19] [20, 21] rfl rfl (by decide) (by decide) hk1 hF hP9 hD9
            have hP : va_P (dC, dI) vwCl (cb_w a k S ++ [(qt, .inl (kt, (90, .inl tl))), (qp, .inl (kp, (10, .inl pl)))]) H1 := hP8.sub [2, 3, 4, 5, 6, 7, 8, 9, 10, 11, 12, 13, 14, 15, 16, 17, 18, 19, 20, 21, 0, 1] rfl
            have hD : va_D (fun z => s.heap.size ≤ z) (cb_w a k S ++ [(qt, .inl (kt, (90, .inl tl))), (qp, .inl (kp, (10, .inl pl)))]) := hD8.sub [2, 3, 4, 5, 6, 7, 8, 9, 10, 11, 12, 13, 14, 15, 16, 17, 18, 19, 20, 21, 0, 1] (by decide) rfl
            obtain ⟨-, hr9⟩ := hw
            subst hr9
            refine cb_topi (z := dist S u 0) (rs_away (by omega)) ?_
            refine lv_bipush (v := (-2)) hx hb dL_law_862 (by decide) ?_
            refine lv_icmp_ne (tgt := 871) hx hb dL_law_864 (by decide) (fun c_864 => ?_) (fun c_864 => ?_)
            · skip
              exact absurd ((away_2i hC hb2 c_778).mpr c_847) c_864
            · skip
              refine lv_iconst (v := nI 1) hx hb dL_law_867 (by decide) ?_
              refine lv_goto (tgt := 872) hx hb dL_law_868 (by decide) ?_
              refine lv_icmp_eq (tgt := 877) hx hb dL_law_872 (by decide) (fun c_872 => ?_) (fun c_872 => ?_)
              · skip
                refine lv_iinc (v := nI (u + 1)) (lv' := [(16, .int (nI (u + 1))), (17, .int y1), (0, .ref b), (1, .ref (a 0)), (2, .int (nI np)), (3, .ref qt), (4, .int (nI ns)), (5, .ref qp), (6, .int (nI nt)), (7, .int (nI dy))]) hx hb dL_law_877 hl (k := 9) rfl (nI_1 _) (by decide) rfl (fun ls hl => ?_)
                refine lv_goto (tgt := 774) hx hb dL_law_880 (by decide) ?_
                refine W.widen (k := cells + 40 * (u + 1)) (n := slots + 240 * (u + 1)) (by omega) (by omega) ?_
                exact ih (u + 1) (by omega) (by omega) S H1 L1 ls hC hP hD hS (lv_sub hl [2, 3, 4, 5, 6, 7, 8, 9, 0] rfl)
              · exact absurd c_872 (by decide)
        · skip
          exact absurd c_810 c_792
      · skip
        refine lv_aload_n hx hb dL_law_795 rfl (lv_at hl 2 rfl) ?_
        refine lv_iload hx hb dL_law_796 (lv_at hl 9 rfl) ?_
        refine lv_iconst (v := nI 0) hx hb dL_law_798 (by decide) ?_
        have hz := cp_earn hC hb2 c_778 (ey1.symm.trans c_792)
        obtain ⟨hag, ⟨h9, hh9, hh12, hall0⟩, -⟩ := away_0 hC hb2 c_778 (ey1.symm.trans c_792)
        have hall := hz.2.2.2.2.trans hall0
        have hbd := hz.2.2.2.1
        have hPc := hP.sub (ws' := (cb_w a k S)) [0, 1, 2, 3, 4, 5, 6, 7, 8, 9, 10, 11, 12, 13, 14, 15, 16, 17, 18, 19] rfl
        have hDc := hD.sub (ws' := (cb_w a k S)) [0, 1, 2, 3, 4, 5, 6, 7, 8, 9, 10, 11, 12, 13, 14, 15, 16, 17, 18, 19] (by decide) rfl
        have hKc := hK.sub (tys' := (cb_ty k)) [0, 1, 2, 3, 4, 5, 6, 7, 8, 9, 10, 11, 12, 13] rfl
        have hF : ∀ z, va_A (cb_w a k S) H1.size z → (fun z => s.heap.size ≤ z) z := va_free hD hS hA [0, 1, 2, 3, 4, 5, 6, 7, 8, 9, 10, 11, 12, 13, 14, 15, 16, 17, 18, 19] rfl
        refine vx_calli (vx_runV (As := [.int (nI u), .int (nI 0)]) (rest := []) ⟨hx, hb, hml, hown, hts⟩ (c_X5_earn l hl9 dC dI a k S H1.size (nI u) (nI 0) hC.1) (cwV 2 hts gL_law_X5_earn rfl rfl rfl (by decide +kernel) ⟨(Nat.le_of_ble_eq_true rfl), (Nat.le_of_ble_eq_true rfl)⟩) ⟨cU_blind, va_recv hKc hPc (ci := 5) (q0 := 0) rfl rfl, fun U hU hW => ⟨rfl, cU_of hKc hPc hDc hE hS hU hW hF⟩⟩ rfl rfl hl.1 rfl (lv_room (Nat.le_of_ble_eq_true rfl)) dL_law_799 ⟨(by show ((cells + 40 * u) + 8) + 8 ≤ room_1.cells; exact Nat.le_trans (by omega) rm_c), (by show ((slots + 240 * u) + 48) + 48 ≤ room_1.slots; exact Nat.le_trans (by omega) rm_s)⟩) hS (fun z _ h => hF z h) hF (fun z _ h => hF z h) (fun E ce q9 u8 t8 H1 L1 ht hvm _ hB hz1 hk1 hS hce hcv hcl => absurd hB.1.1 (by rw [hz.1]; decide)) (fun r9 u8 t8 H1 L1 ht hvm hw hB hz1 hk1 hS => ?_)
        obtain ⟨hP9, -, hD9⟩ := hB
        rw [ht] at hP9
        obtain ⟨hP8, hD8⟩ := va_join (wc := (cb_w a k S)) (wr := [(qt, .inl (kt, (90, .inl tl))), (qp, .inl (kp, (10, .inl pl)))]) hP hD [0, 1, 2, 3, 4, 5, 6, 7, 8, 9, 10, 11, 12, 13, 14, 15, 16, 17, 18, 19] [20, 21] rfl rfl (by decide) (by decide) hk1 hF hP9 hD9
        have hP : va_P (dC, dI) vwCl (cb_w a k (S_earn S (nI u) (nI 0)) ++ [(qt, .inl (kt, (90, .inl tl))), (qp, .inl (kp, (10, .inl pl)))]) H1 := hP8.sub [2, 3, 4, 5, 6, 7, 8, 9, 10, 11, 12, 13, 14, 15, 16, 17, 18, 19, 20, 21, 0, 1] rfl
        have hD : va_D (fun z => s.heap.size ≤ z) (cb_w a k (S_earn S (nI u) (nI 0)) ++ [(qt, .inl (kt, (90, .inl tl))), (qp, .inl (kp, (10, .inl pl)))]) := hD8.sub [2, 3, 4, 5, 6, 7, 8, 9, 10, 11, 12, 13, 14, 15, 16, 17, 18, 19, 20, 21, 0, 1] (by decide) rfl
        obtain ⟨-, hr9⟩ := hw
        subst hr9
        refine cb_topi (z := nI 1) hz.2.1 ?_
        have hC := hz.2.2.1
        generalize S_earn S (nI u) (nI 0) = S at hP hD hC hall hbd
        refine lv_iconst (v := nI 1) hx hb dL_law_802 (by decide) ?_
        refine lv_icmp_eq (tgt := 808) hx hb dL_law_803 (by decide) (fun c_803 => ?_) (fun c_803 => ?_)
        · skip
          refine lv_iload hx hb dL_law_808 (lv_at hl 0 rfl) ?_
          refine lv_if_ne (tgt := 839) hx hb dL_law_810 (by decide) (fun c_810 => ?_) (fun c_810 => ?_)
          · skip
            exact absurd c_792 c_810
          · skip
            refine lv_aload_n hx hb dL_law_813 rfl (lv_at hl 4 rfl) ?_
            refine lv_iconst (v := nI 3) hx hb dL_law_814 (by decide) ?_
            refine lv_iload hx hb dL_law_815 (lv_at hl 9 rfl) ?_
            refine lv_imul hx hb dL_law_817 ?_
            refine cb_topi (pk_mul _ _) ?_
            refine lv_iconst (v := nI 1) hx hb dL_law_818 (by decide) ?_
            refine lv_iadd hx hb dL_law_819 ?_
            refine cb_topi (nI_add _ _) ?_
            refine cb_iald hx hb hK hP 20 14 (f := tl) rfl rfl (j := (3 * u) + 1) (by omega) (Nat.le_of_ble_eq_true rfl) dL_law_820 ?_
            refine lv_bipush (v := nI 10) hx hb dL_law_821 (by decide) ?_
            refine lv_icmp_lt (tgt := 875) hx hb dL_law_823 (by decide) (fun c_823 => ?_) (fun c_823 => ?_)
            · skip
              exact absurd hag (Int32.not_le.mpr c_823)
            · skip
              refine lv_aload_n hx hb dL_law_826 rfl (lv_at hl 2 rfl) ?_
              refine lv_iload hx hb dL_law_827 (lv_at hl 9 rfl) ?_
              refine lv_bipush (v := nI 6) hx hb dL_law_829 (by decide) ?_
              have hPc := hP.sub (ws' := (cb_w a k S)) [0, 1, 2, 3, 4, 5, 6, 7, 8, 9, 10, 11, 12, 13, 14, 15, 16, 17, 18, 19] rfl
              have hDc := hD.sub (ws' := (cb_w a k S)) [0, 1, 2, 3, 4, 5, 6, 7, 8, 9, 10, 11, 12, 13, 14, 15, 16, 17, 18, 19] (by decide) rfl
              have hKc := hK.sub (tys' := (cb_ty k)) [0, 1, 2, 3, 4, 5, 6, 7, 8, 9, 10, 11, 12, 13] rfl
              have hF : ∀ z, va_A (cb_w a k S) H1.size z → (fun z => s.heap.size ≤ z) z := va_free hD hS hA [0, 1, 2, 3, 4, 5, 6, 7, 8, 9, 10, 11, 12, 13, 14, 15, 16, 17, 18, 19] rfl
              refine vx_calli (vx_runV (As := [.int (nI u), .int (nI 6)]) (rest := []) ⟨hx, hb, hml, hown, hts⟩ (c_X5_scout l hl9 dC dI a k S H1.size (nI u) (nI 6) hC.1) (cwV 2 hts gL_law_X5_scout rfl rfl rfl (by decide +kernel) ⟨(Nat.le_of_ble_eq_true rfl), (Nat.le_of_ble_eq_true rfl)⟩) ⟨cU_blind, va_recv hKc hPc (ci := 5) (q0 := 0) rfl rfl, fun U hU hW => ⟨rfl, cU_of hKc hPc hDc hE hS hU hW hF⟩⟩ rfl rfl hl.1 rfl (lv_room (Nat.le_of_ble_eq_true rfl)) dL_law_831 ⟨(by show (((cells + 40 * u) + 8) + 8) + 8 ≤ room_1.cells; exact Nat.le_trans (by omega) rm_c), (by show (((slots + 240 * u) + 48) + 48) + 48 ≤ room_1.slots; exact Nat.le_trans (by omega) rm_s)⟩) hS (fun z _ h => hF z h) hF (fun z _ h => hF z h) (fun E ce q9 u8 t8 H1 L1 ht hvm _ hB hz1 hk1 hS hce hcv hcl => absurd hB.1.1 (by rw [kz_scout hC.2.1.2.2.1 (by omega) c_778 (by omega)]; decide)) (fun r9 u8 t8 H1 L1 ht hvm hw hB hz1 hk1 hS => ?_)
              obtain ⟨hP9, -, hD9⟩ := hB
              rw [ht] at hP9
              obtain ⟨hP8, hD8⟩ := va_join (wc := (cb_w a k S)) (wr := [(qt, .inl (kt, (90, .inl tl))), (qp, .inl (kp, (10, .inl pl)))]) hP hD [0, 1, 2, 3, 4, 5, 6, 7, 8, 9, 10, 11, 12, 13, 14, 15, 16, 17, 18, 19] [20, 21] rfl rfl (by decide) (by decide) hk1 hF hP9 hD9
              have hP : va_P (dC, dI) vwCl (cb_w a k S ++ [(qt, .inl (kt, (90, .inl tl))), (qp, .inl (kp, (10, .inl pl)))]) H1 := hP8.sub [2, 3, 4, 5, 6, 7, 8, 9, 10, 11, 12, 13, 14, 15, 16, 17, 18, 19, 20, 21, 0, 1] rfl
              have hD : va_D (fun z => s.heap.size ≤ z) (cb_w a k S ++ [(qt, .inl (kt, (90, .inl tl))), (qp, .inl (kp, (10, .inl pl)))]) := hD8.sub [2, 3, 4, 5, 6, 7, 8, 9, 10, 11, 12, 13, 14, 15, 16, 17, 18, 19, 20, 21, 0, 1] (by decide) rfl
              obtain ⟨-, hr9⟩ := hw
              subst hr9
              refine cb_topi (z := nI h9) ((rs_hrs (by omega)).trans hall) ?_
              refine lv_bipush (v := nI 12) hx hb dL_law_834 (by decide) ?_
              refine lv_icmp_lt (tgt := 875) hx hb dL_law_836 (by decide) (fun c_836 => ?_) (fun c_836 => ?_)
              · have c_836 : h9 < 12 := cb_lt (by omega) (by omega) c_836
                exact absurd c_836 (by omega)
              · have c_836 : 12 ≤ h9 := cb_nlt (by omega) (by omega) c_836
                refine lv_aload_n hx hb dL_law_839 rfl (lv_at hl 2 rfl) ?_
                refine lv_iload hx hb dL_law_840 (lv_at hl 9 rfl) ?_
                refine lv_iconst (v := nI 5) hx hb dL_law_842 (by decide) ?_
                have hPc := hP.sub (ws' := (cb_w a k S)) [0, 1, 2, 3, 4, 5, 6, 7, 8, 9, 10, 11, 12, 13, 14, 15, 16, 17, 18, 19] rfl
                have hDc := hD.sub (ws' := (cb_w a k S)) [0, 1, 2, 3, 4, 5, 6, 7, 8, 9, 10, 11, 12, 13, 14, 15, 16, 17, 18, 19] (by decide) rfl
                have hKc := hK.sub (tys' := (cb_ty k)) [0, 1, 2, 3, 4, 5, 6, 7, 8, 9, 10, 11, 12, 13] rfl
                have hF : ∀ z, va_A (cb_w a k S) H1.size z → (fun z => s.heap.size ≤ z) z := va_free hD hS hA [0, 1, 2, 3, 4, 5, 6, 7, 8, 9, 10, 11, 12, 13, 14, 15, 16, 17, 18, 19] rfl
                refine vx_calli (vx_runV (As := [.int (nI u), .int (nI 5)]) (rest := []) ⟨hx, hb, hml, hown, hts⟩ (c_X5_scout l hl9 dC dI a k S H1.size (nI u) (nI 5) hC.1) (cwV 2 hts gL_law_X5_scout rfl rfl rfl (by decide +kernel) ⟨(Nat.le_of_ble_eq_true rfl), (Nat.le_of_ble_eq_true rfl)⟩) ⟨cU_blind, va_recv hKc hPc (ci := 5) (q0 := 0) rfl rfl, fun U hU hW => ⟨rfl, cU_of hKc hPc hDc hE hS hU hW hF⟩⟩ rfl rfl hl.1 rfl (lv_room (Nat.le_of_ble_eq_true rfl)) dL_law_843 ⟨(by show ((((cells + 40 * u) + 8) + 8) + 8) + 8 ≤ room_1.cells; exact Nat.le_trans (by omega) rm_c), (by show ((((slots + 240 * u) + 48) + 48) + 48) + 48 ≤ room_1.slots; exact Nat.le_trans (by omega) rm_s)⟩) hS (fun z _ h => hF z h) hF (fun z _ h => hF z h) (fun E ce q9 u8 t8 H1 L1 ht hvm _ hB hz1 hk1 hS hce hcv hcl => absurd hB.1.1 (by rw [kz_scout hC.2.1.2.2.1 (by omega) c_778 (by omega)]; decide)) (fun r9 u8 t8 H1 L1 ht hvm hw hB hz1 hk1 hS => ?_)
                obtain ⟨hP9, -, hD9⟩ := hB
                rw [ht] at hP9
                obtain ⟨hP8, hD8⟩ := va_join (wc := (cb_w a k S)) (wr := [(qt, .inl (kt, (90, .inl tl))), (qp, .inl (kp, (10, .inl pl)))]) hP hD [0, 1, 2, 3, 4, 5, 6, 7, 8, 9, 10, 11, 12, 13, 14, 15, 16, 17, 18, 19] [20, 21] rfl rfl (by decide) (by decide) hk1 hF hP9 hD9
                have hP : va_P (dC, dI) vwCl (cb_w a k S ++ [(qt, .inl (kt, (90, .inl tl))), (qp, .inl (kp, (10, .inl pl)))]) H1 := hP8.sub [2, 3, 4, 5, 6, 7, 8, 9, 10, 11, 12, 13, 14, 15, 16, 17, 18, 19, 20, 21, 0, 1] rfl
                have hD : va_D (fun z => s.heap.size ≤ z) (cb_w a k S ++ [(qt, .inl (kt, (90, .inl tl))), (qp, .inl (kp, (10, .inl pl)))]) := hD8.sub [2, 3, 4, 5, 6, 7, 8, 9, 10, 11, 12, 13, 14, 15, 16, 17, 18, 19, 20, 21, 0, 1] (by decide) rfl
                obtain ⟨-, hr9⟩ := hw
                subst hr9
                refine cb_topi (z := c_bad S u) (rs_bad (by omega)) ?_
                refine lv_iconst (v := nI 1) hx hb dL_law_846 (by decide) ?_
                refine lv_icmp_ne (tgt := 854) hx hb dL_law_847 (by decide) (fun c_847 => ?_) (fun c_847 => ?_)
                · skip
                  exact absurd hbd c_847
                · skip
                  refine lv_iconst (v := nI 1) hx hb dL_law_850 (by decide) ?_
                  refine lv_goto (tgt := 855) hx hb dL_law_851 (by decide) ?_
                  refine lv_aload_n hx hb dL_law_855 rfl (lv_at hl 2 rfl) ?_
                  refine lv_iload hx hb dL_law_856 (lv_at hl 9 rfl) ?_
                  refine lv_iconst (v := nI 0) hx hb dL_law_858 (by decide) ?_
                  have hPc := hP.sub (ws' := (cb_w a k S)) [0, 1, 2, 3, 4, 5, 6, 7, 8, 9, 10, 11, 12, 13, 14, 15, 16, 17, 18, 19] rfl
                  have hDc := hD.sub (ws' := (cb_w a k S)) [0, 1, 2, 3, 4, 5, 6, 7, 8, 9, 10, 11, 12, 13, 14, 15, 16, 17, 18, 19] (by decide) rfl
                  have hKc := hK.sub (tys' := (cb_ty k)) [0, 1, 2, 3, 4, 5, 6, 7, 8, 9, 10, 11, 12, 13] rfl
                  have hF : ∀ z, va_A (cb_w a k S) H1.size z → (fun z => s.heap.size ≤ z) z := va_free hD hS hA [0, 1, 2, 3, 4, 5, 6, 7, 8, 9, 10, 11, 12, 13, 14, 15, 16, 17, 18, 19] rfl
                  refine vx_calli (vx_runV (As := [.int (nI u), .int (nI 0)]) (rest := [.int (nI 1)]) ⟨hx, hb, hml, hown, hts⟩ (c_X5_away l hl9 dC dI a k S H1.size (nI u) (nI 0) hC.1) (cwV 2 hts gL_law_X5_away rfl rfl rfl (by decide +kernel) ⟨(Nat.le_of_ble_eq_true rfl), (Nat.le_of_ble_eq_true rfl)⟩) ⟨cU_blind, va_recv hKc hPc (ci := 5) (q0 := 0) rfl rfl, fun U hU hW => ⟨rfl, cU_of hKc hPc hDc hE hS hU hW hF⟩⟩ rfl rfl hl.1 rfl (lv_room (Nat.le_of_ble_eq_true rfl)) dL_law_859 ⟨(by show (((((cells + 40 * u) + 8) + 8) + 8) + 8) + 8 ≤ room_1.cells; exact Nat.le_trans (by omega) rm_c), (by show (((((slots + 240 * u) + 48) + 48) + 48) + 48) + 48 ≤ room_1.slots; exact Nat.le_trans (by omega) rm_s)⟩) hS (fun z _ h => hF z h) hF (fun z _ h => hF z h) (fun E ce q9 u8 t8 H1 L1 ht hvm _ hB hz1 hk1 hS hce hcv hcl => absurd hB.1.1 (by rw [kz_away hC.2.1.2.2.1 (by omega) c_778 hC.2.1.2.2.2.2.2.2 rfl]; decide)) (fun r9 u8 t8 H1 L1 ht hvm hw hB hz1 hk1 hS => ?_)
                  obtain ⟨hP9, -, hD9⟩ := hB
                  rw [ht] at hP9
                  obtain ⟨hP8, hD8⟩ := va_join (wc := (cb_w a k S)) (wr := [(qt, .inl (kt, (90, .inl tl))), (qp, .inl (kp, (10, .inl pl)))]) hP hD [0, 1, 2, 3, 4, 5, 6, 7, 8, 9, 10, 11, 12, 13, 14, 15, 16, 17, 18, 19] [20, 21] rfl rfl (by decide) (by decide) hk1 hF hP9 hD9
                  have hP : va_P (dC, dI) vwCl (cb_w a k S ++ [(qt, .inl (kt, (90, .inl tl))), (qp, .inl (kp, (10, .inl pl)))]) H1 := hP8.sub [2, 3, 4, 5, 6, 7, 8, 9, 10, 11, 12, 13, 14, 15, 16, 17, 18, 19, 20, 21, 0, 1] rfl
                  have hD : va_D (fun z => s.heap.size ≤ z) (cb_w a k S ++ [(qt, .inl (kt, (90, .inl tl))), (qp, .inl (kp, (10, .inl pl)))]) := hD8.sub [2, 3, 4, 5, 6, 7, 8, 9, 10, 11, 12, 13, 14, 15, 16, 17, 18, 19, 20, 21, 0, 1] (by decide) rfl
                  obtain ⟨-, hr9⟩ := hw
                  subst hr9
                  refine cb_topi (z := dist S u 0) (rs_away (by omega)) ?_
                  refine lv_bipush (v := (-2)) hx hb dL_law_862 (by decide) ?_
                  refine lv_icmp_ne (tgt := 871) hx hb dL_law_864 (by decide) (fun c_864 => ?_) (fun c_864 => ?_)
                  · skip
                    exact absurd ((away_2i hC hb2 c_778).mpr c_847) c_864
                  · skip
                    refine lv_iconst (v := nI 1) hx hb dL_law_867 (by decide) ?_
                    refine lv_goto (tgt := 872) hx hb dL_law_868 (by decide) ?_
                    refine lv_icmp_eq (tgt := 877) hx hb dL_law_872 (by decide) (fun c_872 => ?_) (fun c_872 => ?_)
                    · skip
                      refine lv_iinc (v := nI (u + 1)) (lv' := [(16, .int (nI (u + 1))), (17, .int y1), (0, .ref b), (1, .ref (a 0)), (2, .int (nI np)), (3, .ref qt), (4, .int (nI ns)), (5, .ref qp), (6, .int (nI nt)), (7, .int (nI dy))]) hx hb dL_law_877 hl (k := 9) rfl (nI_1 _) (by decide) rfl (fun ls hl => ?_)
                      refine lv_goto (tgt := 774) hx hb dL_law_880 (by decide) ?_
                      refine W.widen (k := cells + 40 * (u + 1)) (n := slots + 240 * (u + 1)) (by omega) (by omega) ?_
                      exact ih (u + 1) (by omega) (by omega) S H1 L1 ls hC hP hD hS (lv_sub hl [2, 3, 4, 5, 6, 7, 8, 9, 0] rfl)
                    · exact absurd c_872 (by decide)
        · exact absurd c_803 (by decide)
set_option maxHeartbeats 4000000 in
set_option maxRecDepth 100000 in
theorem lp_stores {p : Program} {l : Launch} {e : Env} {s : State} {m : MethodId} {below : List Frame} {meth : Method} {c : Code} {b L : Nat} {xs : Nat → Int32} {dC : Nat → ClassId} {dI : Nat → Nat → Nat} {a : Nat → Nat} {k : Nat → ClassId} {qt : Nat} {kt : ClassId} {tl : Nat → Int32} {qp : Nat} {kp : ClassId} {pl : Nat → Int32} {np ns nt dy hq cells slots cE sE : Nat} {Q : State → Prop} (hl9 : l.stackTraces = false) (C0 : LC p s m c b L xs dC dI k kt kp) (hB : BD np ns nt) (h1 : cells + 64 ≤ cE) (h2 : slots + 384 ≤ sE) (hc : cE ≤ 200000) (hs : sE ≤ 2000000) {x8 : Int32} (kk : KD p l e s m below meth c b dC dI a k qt kt tl qp kp pl np ns nt dy hq [(8, .int x8)] 745 cE sE Q) : ∀ (n f : Nat), f ≤ 4 → 4 + 1 ≤ f + n → ∀ (S : cs_S) (H : Heap) (locs : List Loc) (ls : Array Slot), Cp dy np ns nt 4 3 1 hq 12 tl pl S → va_P (dC, dI) vwCl (cb_w a k S ++ [(qt, .inl (kt, (90, .inl tl))), (qp, .inl (kp, (10, .inl pl)))]) H → va_D (fun z => s.heap.size ≤ z) (cb_w a k S ++ [(qt, .inl (kt, (90, .inl tl))), (qp, .inl (kp, (10, .inl pl)))]) → va_S (fun z => s.heap.size ≤ z) s.heap H locs → lv_has ls 19 [(0, .ref b), (1, .ref (a 0)), (2, .int (nI np)), (3, .ref qt), (4, .int (nI ns)), (5, .ref qp), (6, .int (nI nt)), (7, .int (nI dy)), (8, .int x8), (16, .int (nI f))] → W p l e room_1 s m #[Value.ref b] below meth c H locs (cells + 16 * f) (slots + 96 * f) Q (F0 m 710 ls []) := by
  have C1 := C0
  obtain ⟨hx, hb, hml, hown, hts, hX, hbl, hL, hK, hE⟩ := C0
  have hbA : ¬ (fun z => s.heap.size ≤ z) b := Nat.not_le.mpr hbl
  have hA : ∀ q : Nat, s.heap.size ≤ q → (fun z => s.heap.size ≤ z) q := fun q h => h
  have hBD := hB
  obtain ⟨hp1, hp6, hn2, hn29, ht1, ht8⟩ := hB
  intro n
  induction n with
  | zero => intro f h1 h2; exact absurd h2 (by omega)
  | succ n ih =>
    intro f hle hfu S H locs ls hC hP hD hS hl
    refine lv_iload hx hb dL_law_710 (lv_at hl 9 rfl) ?_
    refine lv_iconst (v := nI 4) hx hb dL_law_712 (by decide) ?_
    refine lv_icmp_ge (tgt := 745) hx hb dL_law_713 (by decide) (fun c_713 => ?_) (fun c_713 => ?_)
    · have c_713 : 4 ≤ f := cb_ge (by omega) (by omega) c_713
      refine W.widen (k := cE) (n := sE) (by omega) (by omega) ?_
      exact kk S H locs ls hC hP hD hS (lv_sub hl [0, 1, 2, 3, 4, 5, 6, 7, 8] rfl)
    · have c_713 : f < 4 := cb_nge (by omega) (by omega) c_713
      refine lv_aload_n hx hb dL_law_716 rfl (lv_at hl 1 rfl) ?_
      refine lv_iload hx hb dL_law_717 (lv_at hl 9 rfl) ?_
      obtain ⟨x9, hx9, ex9⟩ := hC.2.2.2.2.2.1.1 f (by omega)
      have hPc := hP.sub (ws' := (cb_w a k S)) [0, 1, 2, 3, 4, 5, 6, 7, 8, 9, 10, 11, 12, 13, 14, 15, 16, 17, 18, 19] rfl
      have hDc := hD.sub (ws' := (cb_w a k S)) [0, 1, 2, 3, 4, 5, 6, 7, 8, 9, 10, 11, 12, 13, 14, 15, 16, 17, 18, 19] (by decide) rfl
      have hKc := hK.sub (tys' := (cb_ty k)) [0, 1, 2, 3, 4, 5, 6, 7, 8, 9, 10, 11, 12, 13] rfl
      have hF : ∀ z, va_A (cb_w a k S) H.size z → (fun z => s.heap.size ≤ z) z := va_free hD hS hA [0, 1, 2, 3, 4, 5, 6, 7, 8, 9, 10, 11, 12, 13, 14, 15, 16, 17, 18, 19] rfl
      refine vx_calli (vx_runV (As := [.int (nI f)]) (rest := []) ⟨hx, hb, hml, hown, hts⟩ (c_X5_store l hl9 dC dI a k S H.size (nI f) hC.1) (cwV 1 hts gL_law_X5_store rfl rfl rfl (by decide +kernel) ⟨(Nat.le_of_ble_eq_true rfl), (Nat.le_of_ble_eq_true rfl)⟩) ⟨cU_blind, va_recv hKc hPc (ci := 5) (q0 := 0) rfl rfl, fun U hU hW => ⟨rfl, cU_of hKc hPc hDc hE hS hU hW hF⟩⟩ rfl rfl hl.1 rfl (lv_room (Nat.le_of_ble_eq_true rfl)) dL_law_719 ⟨(by show (cells + 16 * f) + 8 ≤ room_1.cells; exact Nat.le_trans (by omega) rm_c), (by show (slots + 96 * f) + 48 ≤ room_1.slots; exact Nat.le_trans (by omega) rm_s)⟩) hS (fun z _ h => hF z h) hF (fun z _ h => hF z h) (fun E ce q9 u8 t8 H1 L1 ht hvm _ hB hz1 hk1 hS hce hcv hcl => absurd hB.1.1 (by rw [kz_store hC.2.1.2.2.2.2.1 (by omega) c_713]; decide)) (fun r9 u8 t8 H1 L1 ht hvm hw hB hz1 hk1 hS => ?_)
      obtain ⟨hP9, -, hD9⟩ := hB
      rw [ht] at hP9
      obtain ⟨hP8, hD8⟩ := va_join (wc := (cb_w a k S)) (wr := [(qt, .inl (kt, (90, .inl tl))), (qp, .inl (kp, (10, .inl pl)))]) hP hD [0, 1, 2, 3, 4, 5, 6, 7, 8, 9, 10, 11, 12, 13, 14, 15, 16, 17, 18, 19] [20, 21] rfl rfl (by decide) (by decide) hk1 hF hP9 hD9
      have hP : va_P (dC, dI) vwCl (cb_w a k S ++ [(qt, .inl (kt, (90, .inl tl))), (qp, .inl (kp, (10, .inl pl)))]) H1 := hP8.sub [2, 3, 4, 5, 6, 7, 8, 9, 10, 11, 12, 13, 14, 15, 16, 17, 18, 19, 20, 21, 0, 1] rfl
      have hD : va_D (fun z => s.heap.size ≤ z) (cb_w a k S ++ [(qt, .inl (kt, (90, .inl tl))), (qp, .inl (kp, (10, .inl pl)))]) := hD8.sub [2, 3, 4, 5, 6, 7, 8, 9, 10, 11, 12, 13, 14, 15, 16, 17, 18, 19, 20, 21, 0, 1] (by decide) rfl
      obtain ⟨-, hr9⟩ := hw
      subst hr9
      refine cb_topi (z := nI x9) ((rs_store (by omega)).trans ex9) ?_
      refine lv_if_lt (tgt := 737) hx hb dL_law_722 (by decide) (fun c_722 => ?_) (fun c_722 => ?_)
      · have c_722 : x9 < 0 := cb_lt (by omega) (by omega) c_722
        exact absurd c_722 (by omega)
      · have c_722 : 0 ≤ x9 := cb_nlt (by omega) (by omega) c_722
        refine lv_aload_n hx hb dL_law_725 rfl (lv_at hl 1 rfl) ?_
        refine lv_iload hx hb dL_law_726 (lv_at hl 9 rfl) ?_
        have hPc := hP.sub (ws' := (cb_w a k S)) [0, 1, 2, 3, 4, 5, 6, 7, 8, 9, 10, 11, 12, 13, 14, 15, 16, 17, 18, 19] rfl
        have hDc := hD.sub (ws' := (cb_w a k S)) [0, 1, 2, 3, 4, 5, 6, 7, 8, 9, 10, 11, 12, 13, 14, 15, 16, 17, 18, 19] (by decide) rfl
        have hKc := hK.sub (tys' := (cb_ty k)) [0, 1, 2, 3, 4, 5, 6, 7, 8, 9, 10, 11, 12, 13] rfl
        have hF : ∀ z, va_A (cb_w a k S) H1.size z → (fun z => s.heap.size ≤ z) z := va_free hD hS hA [0, 1, 2, 3, 4, 5, 6, 7, 8, 9, 10, 11, 12, 13, 14, 15, 16, 17, 18, 19] rfl
        refine vx_calli (vx_runV (As := [.int (nI f)]) (rest := []) ⟨hx, hb, hml, hown, hts⟩ (c_X5_store l hl9 dC dI a k S H1.size (nI f) hC.1) (cwV 1 hts gL_law_X5_store rfl rfl rfl (by decide +kernel) ⟨(Nat.le_of_ble_eq_true rfl), (Nat.le_of_ble_eq_true rfl)⟩) ⟨cU_blind, va_recv hKc hPc (ci := 5) (q0 := 0) rfl rfl, fun U hU hW => ⟨rfl, cU_of hKc hPc hDc hE hS hU hW hF⟩⟩ rfl rfl hl.1 rfl (lv_room (Nat.le_of_ble_eq_true rfl)) dL_law_728 ⟨(by show ((cells + 16 * f) + 8) + 8 ≤ room_1.cells; exact Nat.le_trans (by omega) rm_c), (by show ((slots + 96 * f) + 48) + 48 ≤ room_1.slots; exact Nat.le_trans (by omega) rm_s)⟩) hS (fun z _ h => hF z h) hF (fun z _ h => hF z h) (fun E ce q9 u8 t8 H1 L1 ht hvm _ hB hz1 hk1 hS hce hcv hcl => absurd hB.1.1 (by rw [kz_store hC.2.1.2.2.2.2.1 (by omega) c_713]; decide)) (fun r9 u8 t8 H1 L1 ht hvm hw hB hz1 hk1 hS => ?_)
        obtain ⟨hP9, -, hD9⟩ := hB
        rw [ht] at hP9
        obtain ⟨hP8, hD8⟩ := va_join (wc := (cb_w a k S)) (wr := [(qt, .inl (kt, (90, .inl tl))), (qp, .inl (kp, (10, .inl pl)))]) hP hD [0, 1, 2, 3, 4, 5, 6, 7, 8, 9, 10, 11, 12, 13, 14, 15, 16, 17, 18, 19] [20, 21] rfl rfl (by decide) (by decide) hk1 hF hP9 hD9
        have hP : va_P (dC, dI) vwCl (cb_w a k S ++ [(qt, .inl (kt, (90, .inl tl))), (qp, .inl (kp, (10, .inl pl)))]) H1 := hP8.sub [2, 3, 4, 5, 6, 7, 8, 9, 10, 11, 12, 13, 14, 15, 16, 17, 18, 19, 20, 21, 0, 1] rfl
        have hD : va_D (fun z => s.heap.size ≤ z) (cb_w a k S ++ [(qt, .inl (kt, (90, .inl tl))), (qp, .inl (kp, (10, .inl pl)))]) := hD8.sub [2, 3, 4, 5, 6, 7, 8, 9, 10, 11, 12, 13, 14, 15, 16, 17, 18, 19, 20, 21, 0, 1] (by decide) rfl
        obtain ⟨-, hr9⟩ := hw
        subst hr9
        refine cb_topi (z := nI x9) ((rs_store (by omega)).trans ex9) ?_
        refine lv_sipush (v := nI 10000) hx hb dL_law_731 (by decide) ?_
        refine lv_icmp_le (tgt := 739) hx hb dL_law_734 (by decide) (fun c_734 => ?_) (fun c_734 => ?_)
        · have c_734 : x9 ≤ 10000 := cb_le (by omega) (by omega) c_734
          refine lv_iinc (v := nI (f + 1)) (lv' := [(16, .int (nI (f + 1))), (0, .ref b), (1, .ref (a 0)), (2, .int (nI np)), (3, .ref qt), (4, .int (nI ns)), (5, .ref qp), (6, .int (nI nt)), (7, .int (nI dy)), (8, .int x8)]) hx hb dL_law_739 hl (k := 9) rfl (nI_1 _) (by decide) rfl (fun ls hl => ?_)
          refine lv_goto (tgt := 710) hx hb dL_law_742 (by decide) ?_
          refine W.widen (k := cells + 16 * (f + 1)) (n := slots + 96 * (f + 1)) (by omega) (by omega) ?_
          exact ih (f + 1) (by omega) (by omega) S H1 L1 ls hC hP hD hS (lv_sub hl [1, 2, 3, 4, 5, 6, 7, 8, 9, 0] rfl)
        · have c_734 : 10000 < x9 := cb_nle (by omega) (by omega) c_734
          exact absurd c_734 (by omega)
end CBV2
