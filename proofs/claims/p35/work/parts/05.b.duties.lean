section CBM
abbrev rm_X1_holderOn : Room := { frames := 0, cells := 0, slots := 0, locals := 0 }
set_option maxHeartbeats 4000000 in
set_option maxRecDepth 100000 in
theorem c_X1_holderOn (l : Launch) (dC : Nat → ClassId) (dI : Nat → Nat → Nat) (a : Nat → Nat) (k : Nat → ClassId) (S : cs_S) (x : Int32) (q : Nat) (hq : q < 5) : Met l yX1_holderOn wsX1_holderOn rm_X1_holderOn (va_Pc [.ref (a 3), .int x, .int (nI q)] (cR dC dI (cb_w a k S) (cb_ty k))) (vp_Si (fun r => r = hol S x.toInt q)) 0 0 (fun _ => False) := by
  refine Met.ofW (cc := cX1_holderOn) (maxL := 3) (ret := (some .int)) (by decide) rfl ?_
  intro p e s m args below meth c s₁ B hml hv
  obtain ⟨rfl, hP, hK⟩ := hv
  have hx := B.exec
  have hb := B.bytes
  have hr := B.returns
  have hts := atoms_spec (ws := wsX1_holderOn) B.pre
  have hown : s.vm.findClass RX1 = some m.cls := findClass_of_methodNamed B.named
  have hlocks := B.notSynchronized
  obtain ⟨Q, hQ⟩ : ∃ Q, Q = MQ below (vp_Si (fun r => r = hol S x.toInt q)) ([.ref (a 3), .int x, .int (nI q)] : List Value).toArray s 0 0 (fun _ => False) := ⟨_, rfl⟩
  show W p l e rm_X1_holderOn s m _ below meth c s.heap [] 0 0 (MQ below _ _ _ _ _ _) _
  rw [← hQ]
  have i_X1 : ∀ w ∈ wsX10, w ∈ wsX1_holderOn := fun w h => List.mem_cons_of_mem _ (List.mem_append_right _ h)
  have f_0 := hts (.fieldLink RX1 11 "CampBook$Duties" "holders" "[I") (by decide +kernel)
  have hl := lv_entry ([.ref (a 3), .int x, .int (nI q)]) (n := 3) (Nat.le_of_ble_eq_true rfl)
  rw [lg_entry_eq]
  generalize (lg_sl ([.ref (a 3), .int x, .int (nI q)]) ++ List.replicate (3 - (lg_sl ([.ref (a 3), .int x, .int (nI q)])).length) Slot.unset).toArray = ls at hl ⊢
  have hl : lv_has ls 3 [(0, .ref (a 3)), (1, .int x), (2, .int (nI q))] := hl
  refine lv_iload_n hx hb dX1_holderOn_0 rfl (lv_at hl 1 rfl) ?_
  refine lv_if_lt (tgt := 23) hx hb dX1_holderOn_1 (by decide) (fun c_1 => ?_) (fun c_1 => ?_)
  · skip
    refine lv_iconst (v := (-1)) hx hb dX1_holderOn_23 (by decide) ?_
    rw [hQ]
    exact W.iret (v := (-1)) hx hb hr (fun t9 ht9 hW9 => ⟨(-1), rfl, (hol_lo c_1).symm, ht9⟩) (fun q h => absurd h List.not_mem_nil) dX1_holderOn_24
  · skip
    refine lv_iload_n hx hb dX1_holderOn_4 rfl (lv_at hl 1 rfl) ?_
    refine lv_bipush (v := nI 60) hx hb dX1_holderOn_5 (by decide) ?_
    refine lv_icmp_gt (tgt := 23) hx hb dX1_holderOn_7 (by decide) (fun c_7 => ?_) (fun c_7 => ?_)
    · skip
      refine lv_iconst (v := (-1)) hx hb dX1_holderOn_23 (by decide) ?_
      rw [hQ]
      exact W.iret (v := (-1)) hx hb hr (fun t9 ht9 hW9 => ⟨(-1), rfl, (hol_hi c_7).symm, ht9⟩) (fun q h => absurd h List.not_mem_nil) dX1_holderOn_24
    · skip
      obtain ⟨d, hd9, ed⟩ := nI_of2 (M := nI 60) (n := 60) (by decide) c_1 (Int32.not_lt.mp c_7)
      subst ed
      refine lv_aload_n hx hb dX1_holderOn_10 rfl (lv_at hl 0 rfl) ?_
      refine va_get (D := (dC, dI)) (ci := 1) (v := .ref (a 14)) (C := RX1) (T := TX1) (N := 2) hx hb hts i_X1 hown hK hP 3 rfl rfl 0 (by decide) f_0 (fun _ h9 => h9) rfl dX1_holderOn_11 ?_
      refine lv_iload_n hx hb dX1_holderOn_14 rfl (lv_at hl 1 rfl) ?_
      refine lv_iconst (v := nI 5) hx hb dX1_holderOn_15 (by decide) ?_
      refine lv_imul hx hb dX1_holderOn_16 ?_
      refine cb_topi (pk_mul _ _) ?_
      refine lv_iload_n hx hb dX1_holderOn_17 rfl (lv_at hl 2 rfl) ?_
      refine lv_iadd hx hb dX1_holderOn_18 ?_
      refine cb_topi (nI_add _ _) ?_
      refine cb_iald hx hb hK hP 14 8 (f := c_hld S) rfl rfl (j := (d * 5) + q) (by omega) (Nat.le_of_ble_eq_true rfl) dX1_holderOn_19 ?_
      refine lv_goto (tgt := 24) hx hb dX1_holderOn_20 (by decide) ?_
      rw [hQ]
      exact W.iret (v := c_hld S ((d * 5) + q)) hx hb hr (fun t9 ht9 hW9 => ⟨c_hld S ((d * 5) + q), rfl, (hol_nI hd9).symm, ht9⟩) (fun q h => absurd h List.not_mem_nil) dX1_holderOn_24
abbrev rm_X1_doesOther : Room := { frames := 1, cells := 0, slots := 0, locals := 22 }
set_option maxHeartbeats 4000000 in
set_option maxRecDepth 100000 in
theorem c_X1_doesOther (l : Launch) (dC : Nat → ClassId) (dI : Nat → Nat → Nat) (a : Nat → Nat) (k : Nat → ClassId) (S : cs_S) (d : Nat) (q : Nat) (pp : Nat) (hd : d ≤ 60) (hq : q < 5) (hp : pp < 6) : Met l yX1_doesOther wsX1_doesOther rm_X1_doesOther (va_Pc [.ref (a 3), .int (nI d), .int (nI q), .int (nI pp)] (cR dC dI (cb_w a k S) (cb_ty k))) (vp_Si (fun r => r = bI (ex (dOt S d q pp) 5))) 0 0 (fun _ => False) := by
  refine Met.ofW (cc := cX1_doesOther) (maxL := 5) (ret := (some .boolean)) (by decide) rfl ?_
  intro p e s m args below meth c s₁ B hml hv
  obtain ⟨rfl, hP, hK⟩ := hv
  have hx := B.exec
  have hb := B.bytes
  have hr := B.returns
  have hts := atoms_spec (ws := wsX1_doesOther) B.pre
  have hown : s.vm.findClass RX1 = some m.cls := findClass_of_methodNamed B.named
  have hlocks := B.notSynchronized
  obtain ⟨Q, hQ⟩ : ∃ Q, Q = MQ below (vp_Si (fun r => r = bI (ex (dOt S d q pp) 5))) ([.ref (a 3), .int (nI d), .int (nI q), .int (nI pp)] : List Value).toArray s 0 0 (fun _ => False) := ⟨_, rfl⟩
  show W p l e rm_X1_doesOther s m _ below meth c s.heap [] 0 0 (MQ below _ _ _ _ _ _) _
  rw [← hQ]
  have hl := lv_entry ([.ref (a 3), .int (nI d), .int (nI q), .int (nI pp)]) (n := 5) (Nat.le_of_ble_eq_true rfl)
  rw [lg_entry_eq]
  generalize (lg_sl ([.ref (a 3), .int (nI d), .int (nI q), .int (nI pp)]) ++ List.replicate (5 - (lg_sl ([.ref (a 3), .int (nI d), .int (nI q), .int (nI pp)])).length) Slot.unset).toArray = ls at hl ⊢
  have hl : lv_has ls 5 [(0, .ref (a 3)), (1, .int (nI d)), (2, .int (nI q)), (3, .int (nI pp))] := hl
  refine lv_iconst (v := nI 0) hx hb dX1_doesOther_0 (by decide) ?_
  refine lv_istore (lv' := [(4, .int (nI 0)), (0, .ref (a 3)), (1, .int (nI d)), (2, .int (nI q)), (3, .int (nI pp))]) hx hb dX1_doesOther_1 hl (by decide) rfl (fun ls hl => ?_)
  have L_3 : ∀ (n i : Nat), i ≤ 5 → 5 + 1 ≤ i + n → ex (dOt S d q pp) i = false → ∀ (ls : Array Slot), lv_has ls 5 [(0, .ref (a 3)), (1, .int (nI d)), (2, .int (nI q)), (3, .int (nI pp)), (4, .int (nI i))] → W p l e rm_X1_doesOther s m ([.ref (a 3), .int (nI d), .int (nI q), .int (nI pp)] : List Value).toArray below meth c s.heap [] 0 0 Q (F0 m 3 ls []) := by
    intro n
    induction n with
    | zero => intro i h1 h2; exact absurd h2 (by omega)
    | succ n ih_3 =>
      intro i hle_3 hfu_3 hno ls hl
      refine lv_iload hx hb dX1_doesOther_3 (lv_at hl 4 rfl) ?_
      refine lv_iconst (v := nI 5) hx hb dX1_doesOther_5 (by decide) ?_
      refine lv_icmp_ge (tgt := 34) hx hb dX1_doesOther_6 (by decide) (fun c_6 => ?_) (fun c_6 => ?_)
      · have c_6 : 5 ≤ i := cb_ge (by omega) (by omega) c_6
        refine lv_iconst (v := nI 0) hx hb dX1_doesOther_34 (by decide) ?_
        rw [hQ]
        exact W.zret (v := nI 0) hx hb hr rfl (fun t9 ht9 hW9 => ⟨nI 0, rfl, (bI_eq0 (by rw [show 5 = i by omega]; exact hno)), ht9⟩) (fun q h => absurd h List.not_mem_nil) dX1_doesOther_35
      · have c_6 : i < 5 := cb_nge (by omega) (by omega) c_6
        refine lv_iload hx hb dX1_doesOther_9 (lv_at hl 4 rfl) ?_
        refine lv_iload_n hx hb dX1_doesOther_11 rfl (lv_at hl 2 rfl) ?_
        refine lv_icmp_eq (tgt := 28) hx hb dX1_doesOther_12 (by decide) (fun c_12 => ?_) (fun c_12 => ?_)
        · have c_12 : i = q := cb_eq (by omega) (by omega) c_12
          refine lv_iinc (v := nI (i + 1)) (lv' := [(4, .int (nI (i + 1))), (0, .ref (a 3)), (1, .int (nI d)), (2, .int (nI q)), (3, .int (nI pp))]) hx hb dX1_doesOther_28 hl (k := 4) rfl (nI_1 _) (by decide) rfl (fun ls hl => ?_)
          refine lv_goto (tgt := 3) hx hb dX1_doesOther_31 (by decide) ?_
          exact ih_3 (i + 1) (by omega) (by omega) (by simp only [ex, hno, Bool.false_or]; simp only [dOt]; first | (rw [decide_eq_true c_12]; rfl) | (rw [decide_eq_false c_23, Bool.and_false])) ls (lv_sub hl [1, 2, 3, 4, 0] rfl)
        · have c_12 : i ≠ q := cb_ne (by omega) (by omega) c_12
          refine lv_aload_n hx hb dX1_doesOther_15 rfl (lv_at hl 0 rfl) ?_
          refine lv_iload_n hx hb dX1_doesOther_16 rfl (lv_at hl 1 rfl) ?_
          refine lv_iload hx hb dX1_doesOther_17 (lv_at hl 4 rfl) ?_
          refine vp_callSi (W.runV (As := [.int (nI d), .int (nI i)]) (rest := []) ⟨hx, hb, hml, hown, hts⟩ (c_X1_holderOn l dC dI a k S (nI d) i (by omega)) (cwV 2 hts gX1_doesOther_X1_holderOn rfl rfl rfl (by decide +kernel) ⟨(Nat.le_of_ble_eq_true rfl), (Nat.le_of_ble_eq_true rfl)⟩) ⟨cR_blind, va_recv hK hP (ci := 1) (q0 := 3) rfl rfl, fun U hU hW => ⟨rfl, cR_of hK hP hU hW⟩⟩ rfl rfl hl.1 rfl (lv_room (Nat.le_of_ble_eq_true rfl)) dX1_doesOther_19 ⟨(Nat.le_of_ble_eq_true rfl), (Nat.le_of_ble_eq_true rfl)⟩) (fun r er => ?_)
          subst er
          refine cb_topi (z := c_hld S (d * 5 + i)) (hol_nI hd) ?_
          refine lv_iload_n hx hb dX1_doesOther_22 rfl (lv_at hl 3 rfl) ?_
          refine lv_icmp_ne (tgt := 28) hx hb dX1_doesOther_23 (by decide) (fun c_23 => ?_) (fun c_23 => ?_)
          · skip
            refine lv_iinc (v := nI (i + 1)) (lv' := [(4, .int (nI (i + 1))), (0, .ref (a 3)), (1, .int (nI d)), (2, .int (nI q)), (3, .int (nI pp))]) hx hb dX1_doesOther_28 hl (k := 4) rfl (nI_1 _) (by decide) rfl (fun ls hl => ?_)
            refine lv_goto (tgt := 3) hx hb dX1_doesOther_31 (by decide) ?_
            exact ih_3 (i + 1) (by omega) (by omega) (by simp only [ex, hno, Bool.false_or]; simp only [dOt]; first | (rw [decide_eq_true c_12]; rfl) | (rw [decide_eq_false c_23, Bool.and_false])) ls (lv_sub hl [1, 2, 3, 4, 0] rfl)
          · skip
            refine lv_iconst (v := nI 1) hx hb dX1_doesOther_26 (by decide) ?_
            rw [hQ]
            exact W.zret (v := nI 1) hx hb hr rfl (fun t9 ht9 hW9 => ⟨nI 1, rfl, (bI_eq1 (ex_t (j := i) (by omega) (by simp only [dOt]; rw [decide_eq_false c_12, decide_eq_true c_23]; rfl))), ht9⟩) (fun q h => absurd h List.not_mem_nil) dX1_doesOther_27
  exact L_3 (5 + 1) 0 (by omega) (by omega) rfl ls (lv_sub hl [1, 2, 3, 4, 0] rfl)
abbrev rm_X1_hasFitScout : Room := { frames := 1, cells := 0, slots := 0, locals := 24 }
set_option maxHeartbeats 4000000 in
set_option maxRecDepth 100000 in
theorem c_X1_hasFitScout (l : Launch) (dC : Nat → ClassId) (dI : Nat → Nat → Nat) (a : Nat → Nat) (k : Nat → ClassId) (S : cs_S) (q : Nat) (pp : Nat) (hq : q < 5) (hp : pp < 6) (hI : Inv S) : Met l yX1_hasFitScout wsX1_hasFitScout rm_X1_hasFitScout (va_Pc [.ref (a 3), .int (nI q), .int (nI pp), .ref (a 1)] (cR dC dI (cb_w a k S) (cb_ty k))) (vp_Si (fun r => r = bI (hasF S pp (leastA q)))) 0 0 (fun _ => False) := by
  refine Met.ofW (cc := cX1_hasFitScout) (maxL := 5) (ret := (some .boolean)) (by decide) rfl ?_
  intro p e s m args below meth c s₁ B hml hv
  obtain ⟨rfl, hP, hK⟩ := hv
  have hx := B.exec
  have hb := B.bytes
  have hr := B.returns
  have hts := atoms_spec (ws := wsX1_hasFitScout) B.pre
  have hown : s.vm.findClass RX1 = some m.cls := findClass_of_methodNamed B.named
  have hlocks := B.notSynchronized
  obtain ⟨Q, hQ⟩ : ∃ Q, Q = MQ below (vp_Si (fun r => r = bI (hasF S pp (leastA q)))) ([.ref (a 3), .int (nI q), .int (nI pp), .ref (a 1)] : List Value).toArray s 0 0 (fun _ => False) := ⟨_, rfl⟩
  show W p l e rm_X1_hasFitScout s m _ below meth c s.heap [] 0 0 (MQ below _ _ _ _ _ _) _
  rw [← hQ]
  obtain ⟨⟨hday, hnp, hns, hnt, hnf, hnm, hnb, hme⟩, hpat, hage, hten, hcnt, hplc, heat, hned, hhld, hbad, hbad0, hbag⟩ := id hI
  have hl := lv_entry ([.ref (a 3), .int (nI q), .int (nI pp), .ref (a 1)]) (n := 5) (Nat.le_of_ble_eq_true rfl)
  rw [lg_entry_eq]
  generalize (lg_sl ([.ref (a 3), .int (nI q), .int (nI pp), .ref (a 1)]) ++ List.replicate (5 - (lg_sl ([.ref (a 3), .int (nI q), .int (nI pp), .ref (a 1)])).length) Slot.unset).toArray = ls at hl ⊢
  have hl : lv_has ls 5 [(0, .ref (a 3)), (1, .int (nI q)), (2, .int (nI pp)), (3, .ref (a 1))] := hl
  refine lv_iload_n hx hb dX1_hasFitScout_0 rfl (lv_at hl 1 rfl) ?_
  refine lv_iconst (v := nI 4) hx hb dX1_hasFitScout_1 (by decide) ?_
  refine lv_icmp_ne (tgt := 10) hx hb dX1_hasFitScout_2 (by decide) (fun c_2 => ?_) (fun c_2 => ?_)
  · have c_2 : q ≠ 4 := cb_ne (by omega) (by omega) c_2
    refine lv_bipush (v := nI 6) hx hb dX1_hasFitScout_10 (by decide) ?_
    refine lv_istore (lv' := [(4, .int (nI 6)), (0, .ref (a 3)), (1, .int (nI q)), (2, .int (nI pp)), (3, .ref (a 1))]) hx hb dX1_hasFitScout_12 hl (by decide) rfl (fun ls hl => ?_)
    refine lv_aload_n hx hb dX1_hasFitScout_14 rfl (lv_at hl 4 rfl) ?_
    refine lv_iload_n hx hb dX1_hasFitScout_15 rfl (lv_at hl 3 rfl) ?_
    refine vp_callSl (W.runV (As := [.int (nI pp)]) (rest := []) ⟨hx, hb, hml, hown, hts⟩ (c_X3_membersOf l dC dI a k S pp (by omega)) (cwV 1 hts gX1_hasFitScout_X3_membersOf rfl rfl rfl (by decide +kernel) ⟨(Nat.le_of_ble_eq_true rfl), (Nat.le_of_ble_eq_true rfl)⟩) ⟨cR_blind, va_recv hK hP (ci := 3) (q0 := 1) rfl rfl, fun U hU hW => ⟨rfl, cR_of hK hP hU hW⟩⟩ rfl rfl hl.1 rfl (lv_room (Nat.le_of_ble_eq_true rfl)) dX1_hasFitScout_16 ⟨(Nat.le_of_ble_eq_true rfl), (Nat.le_of_ble_eq_true rfl)⟩) (fun r er => ?_)
    subst er
    refine lv_aload_n hx hb dX1_hasFitScout_19 rfl (lv_at hl 4 rfl) ?_
    refine lv_iload hx hb dX1_hasFitScout_20 (lv_at hl 0 rfl) ?_
    refine vp_callSl (W.runV (As := [.int (nI 6)]) (rest := [.long (lN (bs (inP S pp) (c_ns S)))]) ⟨hx, hb, hml, hown, hts⟩ (c_X3_agedAtLeast l dC dI a k S (nI 6) (by omega)) (cwV 1 hts gX1_hasFitScout_X3_agedAtLeast rfl rfl rfl (by decide +kernel) ⟨(Nat.le_of_ble_eq_true rfl), (Nat.le_of_ble_eq_true rfl)⟩) ⟨cR_blind, va_recv hK hP (ci := 3) (q0 := 1) rfl rfl, fun U hU hW => ⟨rfl, cR_of hK hP hU hW⟩⟩ rfl rfl hl.1 rfl (lv_room (Nat.le_of_ble_eq_true rfl)) dX1_hasFitScout_22 ⟨(Nat.le_of_ble_eq_true rfl), (Nat.le_of_ble_eq_true rfl)⟩) (fun r er => ?_)
    subst er
    refine lv_land hx hb dX1_hasFitScout_25 ?_
    refine cb_topl (z := lN (bs (fun s => inP S pp s && oldS S (nI 6) s) (c_ns S))) (by rw [fb_andL, bs_and]) ?_
    refine lv_lconst (v := lN 0) hx hb dX1_hasFitScout_26 rfl ?_
    refine W.lcmp hx hb dX1_hasFitScout_27 ?_
    refine lv_if_eq (tgt := 35) hx hb dX1_hasFitScout_28 (by decide) (fun c_28 => ?_) (fun c_28 => ?_)
    · have c_28 : (lN (bs (fun s => inP S pp s && oldS S (nI 6) s) (c_ns S))) = (lN 0) := lg_cmp_t c_28
      have c_28 := bs_lz (by omega) c_28
      refine lv_iconst (v := nI 0) hx hb dX1_hasFitScout_35 (by decide) ?_
      rw [hQ]
      exact W.zret (v := nI 0) hx hb hr rfl (fun t9 ht9 hW9 => ⟨nI 0, rfl, (bI_eq0 (by rw [leastA, if_neg c_2]; exact c_28)), ht9⟩) (fun q h => absurd h List.not_mem_nil) dX1_hasFitScout_36
    · have c_28 : ¬ (lN (bs (fun s => inP S pp s && oldS S (nI 6) s) (c_ns S))) = (lN 0) := lg_cmp_f c_28
      have c_28 := bs_lnz c_28
      refine lv_iconst (v := nI 1) hx hb dX1_hasFitScout_31 (by decide) ?_
      refine lv_goto (tgt := 36) hx hb dX1_hasFitScout_32 (by decide) ?_
      rw [hQ]
      exact W.zret (v := nI 1) hx hb hr rfl (fun t9 ht9 hW9 => ⟨nI 1, rfl, (bI_eq1 (by rw [leastA, if_neg c_2]; exact c_28)), ht9⟩) (fun q h => absurd h List.not_mem_nil) dX1_hasFitScout_36
  · have c_2 : q = 4 := cb_nne (by omega) (by omega) c_2
    refine lv_bipush (v := nI 12) hx hb dX1_hasFitScout_5 (by decide) ?_
    refine lv_goto (tgt := 12) hx hb dX1_hasFitScout_7 (by decide) ?_
    refine lv_istore (lv' := [(4, .int (nI 12)), (0, .ref (a 3)), (1, .int (nI q)), (2, .int (nI pp)), (3, .ref (a 1))]) hx hb dX1_hasFitScout_12 hl (by decide) rfl (fun ls hl => ?_)
    refine lv_aload_n hx hb dX1_hasFitScout_14 rfl (lv_at hl 4 rfl) ?_
    refine lv_iload_n hx hb dX1_hasFitScout_15 rfl (lv_at hl 3 rfl) ?_
    refine vp_callSl (W.runV (As := [.int (nI pp)]) (rest := []) ⟨hx, hb, hml, hown, hts⟩ (c_X3_membersOf l dC dI a k S pp (by omega)) (cwV 1 hts gX1_hasFitScout_X3_membersOf rfl rfl rfl (by decide +kernel) ⟨(Nat.le_of_ble_eq_true rfl), (Nat.le_of_ble_eq_true rfl)⟩) ⟨cR_blind, va_recv hK hP (ci := 3) (q0 := 1) rfl rfl, fun U hU hW => ⟨rfl, cR_of hK hP hU hW⟩⟩ rfl rfl hl.1 rfl (lv_room (Nat.le_of_ble_eq_true rfl)) dX1_hasFitScout_16 ⟨(Nat.le_of_ble_eq_true rfl), (Nat.le_of_ble_eq_true rfl)⟩) (fun r er => ?_)
    subst er
    refine lv_aload_n hx hb dX1_hasFitScout_19 rfl (lv_at hl 4 rfl) ?_
    refine lv_iload hx hb dX1_hasFitScout_20 (lv_at hl 0 rfl) ?_
    refine vp_callSl (W.runV (As := [.int (nI 12)]) (rest := [.long (lN (bs (inP S pp) (c_ns S)))]) ⟨hx, hb, hml, hown, hts⟩ (c_X3_agedAtLeast l dC dI a k S (nI 12) (by omega)) (cwV 1 hts gX1_hasFitScout_X3_agedAtLeast rfl rfl rfl (by decide +kernel) ⟨(Nat.le_of_ble_eq_true rfl), (Nat.le_of_ble_eq_true rfl)⟩) ⟨cR_blind, va_recv hK hP (ci := 3) (q0 := 1) rfl rfl, fun U hU hW => ⟨rfl, cR_of hK hP hU hW⟩⟩ rfl rfl hl.1 rfl (lv_room (Nat.le_of_ble_eq_true rfl)) dX1_hasFitScout_22 ⟨(Nat.le_of_ble_eq_true rfl), (Nat.le_of_ble_eq_true rfl)⟩) (fun r er => ?_)
    subst er
    refine lv_land hx hb dX1_hasFitScout_25 ?_
    refine cb_topl (z := lN (bs (fun s => inP S pp s && oldS S (nI 12) s) (c_ns S))) (by rw [fb_andL, bs_and]) ?_
    refine lv_lconst (v := lN 0) hx hb dX1_hasFitScout_26 rfl ?_
    refine W.lcmp hx hb dX1_hasFitScout_27 ?_
    refine lv_if_eq (tgt := 35) hx hb dX1_hasFitScout_28 (by decide) (fun c_28 => ?_) (fun c_28 => ?_)
    · have c_28 : (lN (bs (fun s => inP S pp s && oldS S (nI 12) s) (c_ns S))) = (lN 0) := lg_cmp_t c_28
      have c_28 := bs_lz (by omega) c_28
      refine lv_iconst (v := nI 0) hx hb dX1_hasFitScout_35 (by decide) ?_
      rw [hQ]
      exact W.zret (v := nI 0) hx hb hr rfl (fun t9 ht9 hW9 => ⟨nI 0, rfl, (bI_eq0 (by rw [leastA, if_pos c_2]; exact c_28)), ht9⟩) (fun q h => absurd h List.not_mem_nil) dX1_hasFitScout_36
    · have c_28 : ¬ (lN (bs (fun s => inP S pp s && oldS S (nI 12) s) (c_ns S))) = (lN 0) := lg_cmp_f c_28
      have c_28 := bs_lnz c_28
      refine lv_iconst (v := nI 1) hx hb dX1_hasFitScout_31 (by decide) ?_
      refine lv_goto (tgt := 36) hx hb dX1_hasFitScout_32 (by decide) ?_
      rw [hQ]
      exact W.zret (v := nI 1) hx hb hr rfl (fun t9 ht9 hW9 => ⟨nI 1, rfl, (bI_eq1 (by rw [leastA, if_pos c_2]; exact c_28)), ht9⟩) (fun q h => absurd h List.not_mem_nil) dX1_hasFitScout_36
abbrev rm_X1_canBeGiven : Room := { frames := 2, cells := 0, slots := 0, locals := 48 }
set_option maxHeartbeats 4000000 in
set_option maxRecDepth 100000 in
theorem c_X1_canBeGiven (l : Launch) (dC : Nat → ClassId) (dI : Nat → Nat → Nat) (a : Nat → Nat) (k : Nat → ClassId) (S : cs_S) (d : Nat) (q : Nat) (pp : Nat) (hd : d ≤ 60) (hq : q < 5) (hp : pp < 6) (hI : Inv S) : Met l yX1_canBeGiven wsX1_canBeGiven rm_X1_canBeGiven (va_Pc [.ref (a 3), .int (nI d), .int (nI q), .int (nI pp), .ref (a 1)] (cR dC dI (cb_w a k S) (cb_ty k))) (vp_Si (fun r => r = bI (canG S d q pp))) 0 0 (fun _ => False) := by
  refine Met.ofW (cc := cX1_canBeGiven) (maxL := 5) (ret := (some .boolean)) (by decide) rfl ?_
  intro p e s m args below meth c s₁ B hml hv
  obtain ⟨rfl, hP, hK⟩ := hv
  have hx := B.exec
  have hb := B.bytes
  have hr := B.returns
  have hts := atoms_spec (ws := wsX1_canBeGiven) B.pre
  have hown : s.vm.findClass RX1 = some m.cls := findClass_of_methodNamed B.named
  have hlocks := B.notSynchronized
  obtain ⟨Q, hQ⟩ : ∃ Q, Q = MQ below (vp_Si (fun r => r = bI (canG S d q pp))) ([.ref (a 3), .int (nI d), .int (nI q), .int (nI pp), .ref (a 1)] : List Value).toArray s 0 0 (fun _ => False) := ⟨_, rfl⟩
  show W p l e rm_X1_canBeGiven s m _ below meth c s.heap [] 0 0 (MQ below _ _ _ _ _ _) _
  rw [← hQ]
  obtain ⟨⟨hday, hnp, hns, hnt, hnf, hnm, hnb, hme⟩, hpat, hage, hten, hcnt, hplc, heat, hned, hhld, hbad, hbad0, hbag⟩ := id hI
  have hl := lv_entry ([.ref (a 3), .int (nI d), .int (nI q), .int (nI pp), .ref (a 1)]) (n := 5) (Nat.le_of_ble_eq_true rfl)
  rw [lg_entry_eq]
  generalize (lg_sl ([.ref (a 3), .int (nI d), .int (nI q), .int (nI pp), .ref (a 1)]) ++ List.replicate (5 - (lg_sl ([.ref (a 3), .int (nI d), .int (nI q), .int (nI pp), .ref (a 1)])).length) Slot.unset).toArray = ls at hl ⊢
  have hl : lv_has ls 5 [(0, .ref (a 3)), (1, .int (nI d)), (2, .int (nI q)), (3, .int (nI pp)), (4, .ref (a 1))] := hl
  refine lv_aload_n hx hb dX1_canBeGiven_0 rfl (lv_at hl 0 rfl) ?_
  refine lv_iload_n hx hb dX1_canBeGiven_1 rfl (lv_at hl 2 rfl) ?_
  refine lv_iload_n hx hb dX1_canBeGiven_2 rfl (lv_at hl 3 rfl) ?_
  refine lv_aload hx hb dX1_canBeGiven_3 (lv_at hl 4 rfl) ?_
  refine vp_callSi (W.runV (As := [.int (nI q), .int (nI pp), .ref (a 1)]) (rest := []) ⟨hx, hb, hml, hown, hts⟩ (c_X1_hasFitScout l dC dI a k S q pp (by omega) (by omega) hI) (cwV 3 hts gX1_canBeGiven_X1_hasFitScout rfl rfl rfl (by decide +kernel) ⟨(Nat.le_of_ble_eq_true rfl), (Nat.le_of_ble_eq_true rfl)⟩) ⟨cR_blind, va_recv hK hP (ci := 1) (q0 := 3) rfl rfl, fun U hU hW => ⟨rfl, cR_of hK hP hU hW⟩⟩ rfl rfl hl.1 rfl (lv_room (Nat.le_of_ble_eq_true rfl)) dX1_canBeGiven_5 ⟨(Nat.le_of_ble_eq_true rfl), (Nat.le_of_ble_eq_true rfl)⟩) (fun r er => ?_)
  subst er
  refine lv_if_eq (tgt := 49) hx hb dX1_canBeGiven_8 (by decide) (fun c_8 => ?_) (fun c_8 => ?_)
  · have c_8 : (hasF S pp (leastA q)) = false := bI_0 c_8
    refine lv_iconst (v := nI 0) hx hb dX1_canBeGiven_49 (by decide) ?_
    rw [hQ]
    exact W.zret (v := nI 0) hx hb hr rfl (fun t9 ht9 hW9 => ⟨nI 0, rfl, (bI_eq0 (by rw [canG, c_8]; rfl)), ht9⟩) (fun q h => absurd h List.not_mem_nil) dX1_canBeGiven_50
  · have c_8 : (hasF S pp (leastA q)) = true := bI_n c_8
    refine lv_aload_n hx hb dX1_canBeGiven_11 rfl (lv_at hl 0 rfl) ?_
    refine lv_iload_n hx hb dX1_canBeGiven_12 rfl (lv_at hl 1 rfl) ?_
    refine lv_iload_n hx hb dX1_canBeGiven_13 rfl (lv_at hl 2 rfl) ?_
    refine lv_iload_n hx hb dX1_canBeGiven_14 rfl (lv_at hl 3 rfl) ?_
    refine vp_callSi (W.runV (As := [.int (nI d), .int (nI q), .int (nI pp)]) (rest := []) ⟨hx, hb, hml, hown, hts⟩ (c_X1_doesOther l dC dI a k S d q pp (by omega) (by omega) (by omega)) (cwV 3 hts gX1_canBeGiven_X1_doesOther rfl rfl rfl (by decide +kernel) ⟨(Nat.le_of_ble_eq_true rfl), (Nat.le_of_ble_eq_true rfl)⟩) ⟨cR_blind, va_recv hK hP (ci := 1) (q0 := 3) rfl rfl, fun U hU hW => ⟨rfl, cR_of hK hP hU hW⟩⟩ rfl rfl hl.1 rfl (lv_room (Nat.le_of_ble_eq_true rfl)) dX1_canBeGiven_15 ⟨(Nat.le_of_ble_eq_true rfl), (Nat.le_of_ble_eq_true rfl)⟩) (fun r er => ?_)
    subst er
    refine lv_if_ne (tgt := 49) hx hb dX1_canBeGiven_18 (by decide) (fun c_18 => ?_) (fun c_18 => ?_)
    · have c_18 : (ex (dOt S d q pp) 5) = true := bI_n c_18
      refine lv_iconst (v := nI 0) hx hb dX1_canBeGiven_49 (by decide) ?_
      rw [hQ]
      exact W.zret (v := nI 0) hx hb hr rfl (fun t9 ht9 hW9 => ⟨nI 0, rfl, (bI_eq0 (by rw [canG, c_18]; simp)), ht9⟩) (fun q h => absurd h List.not_mem_nil) dX1_canBeGiven_50
    · have c_18 : (ex (dOt S d q pp) 5) = false := bI_0 c_18
      refine lv_aload_n hx hb dX1_canBeGiven_21 rfl (lv_at hl 0 rfl) ?_
      refine lv_iload_n hx hb dX1_canBeGiven_22 rfl (lv_at hl 1 rfl) ?_
      refine lv_iconst (v := nI 1) hx hb dX1_canBeGiven_23 (by decide) ?_
      refine lv_isub hx hb dX1_canBeGiven_24 ?_
      refine lv_iload_n hx hb dX1_canBeGiven_25 rfl (lv_at hl 2 rfl) ?_
      refine vp_callSi (W.runV (As := [.int ((nI d) - (nI 1)), .int (nI q)]) (rest := []) ⟨hx, hb, hml, hown, hts⟩ (c_X1_holderOn l dC dI a k S ((nI d) - (nI 1)) q (by omega)) (cwV 2 hts gX1_canBeGiven_X1_holderOn rfl rfl rfl (by decide +kernel) ⟨(Nat.le_of_ble_eq_true rfl), (Nat.le_of_ble_eq_true rfl)⟩) ⟨cR_blind, va_recv hK hP (ci := 1) (q0 := 3) rfl rfl, fun U hU hW => ⟨rfl, cR_of hK hP hU hW⟩⟩ rfl rfl hl.1 rfl (lv_room (Nat.le_of_ble_eq_true rfl)) dX1_canBeGiven_26 ⟨(Nat.le_of_ble_eq_true rfl), (Nat.le_of_ble_eq_true rfl)⟩) (fun r er => ?_)
      subst er
      refine lv_iload_n hx hb dX1_canBeGiven_29 rfl (lv_at hl 3 rfl) ?_
      refine lv_icmp_eq (tgt := 49) hx hb dX1_canBeGiven_30 (by decide) (fun c_30 => ?_) (fun c_30 => ?_)
      · skip
        refine lv_iconst (v := nI 0) hx hb dX1_canBeGiven_49 (by decide) ?_
        rw [hQ]
        exact W.zret (v := nI 0) hx hb hr rfl (fun t9 ht9 hW9 => ⟨nI 0, rfl, (bI_eq0 (by rw [canG, decide_eq_true c_30]; simp)), ht9⟩) (fun q h => absurd h List.not_mem_nil) dX1_canBeGiven_50
      · skip
        refine lv_aload_n hx hb dX1_canBeGiven_33 rfl (lv_at hl 0 rfl) ?_
        refine lv_iload_n hx hb dX1_canBeGiven_34 rfl (lv_at hl 1 rfl) ?_
        refine lv_iconst (v := nI 1) hx hb dX1_canBeGiven_35 (by decide) ?_
        refine lv_iadd hx hb dX1_canBeGiven_36 ?_
        refine cb_topi (nI_add _ _) ?_
        refine lv_iload_n hx hb dX1_canBeGiven_37 rfl (lv_at hl 2 rfl) ?_
        refine vp_callSi (W.runV (As := [.int (nI (d + 1)), .int (nI q)]) (rest := []) ⟨hx, hb, hml, hown, hts⟩ (c_X1_holderOn l dC dI a k S (nI (d + 1)) q (by omega)) (cwV 2 hts gX1_canBeGiven_X1_holderOn rfl rfl rfl (by decide +kernel) ⟨(Nat.le_of_ble_eq_true rfl), (Nat.le_of_ble_eq_true rfl)⟩) ⟨cR_blind, va_recv hK hP (ci := 1) (q0 := 3) rfl rfl, fun U hU hW => ⟨rfl, cR_of hK hP hU hW⟩⟩ rfl rfl hl.1 rfl (lv_room (Nat.le_of_ble_eq_true rfl)) dX1_canBeGiven_38 ⟨(Nat.le_of_ble_eq_true rfl), (Nat.le_of_ble_eq_true rfl)⟩) (fun r er => ?_)
        subst er
        refine lv_iload_n hx hb dX1_canBeGiven_41 rfl (lv_at hl 3 rfl) ?_
        refine lv_icmp_eq (tgt := 49) hx hb dX1_canBeGiven_42 (by decide) (fun c_42 => ?_) (fun c_42 => ?_)
        · skip
          refine lv_iconst (v := nI 0) hx hb dX1_canBeGiven_49 (by decide) ?_
          rw [hQ]
          exact W.zret (v := nI 0) hx hb hr rfl (fun t9 ht9 hW9 => ⟨nI 0, rfl, (bI_eq0 (by rw [canG, decide_eq_true c_42]; simp)), ht9⟩) (fun q h => absurd h List.not_mem_nil) dX1_canBeGiven_50
        · skip
          refine lv_iconst (v := nI 1) hx hb dX1_canBeGiven_45 (by decide) ?_
          refine lv_goto (tgt := 50) hx hb dX1_canBeGiven_46 (by decide) ?_
          rw [hQ]
          exact W.zret (v := nI 1) hx hb hr rfl (fun t9 ht9 hW9 => ⟨nI 1, rfl, (bI_eq1 (by rw [canG, c_8, c_18, decide_eq_false c_30, decide_eq_false c_42]; rfl)), ht9⟩) (fun q h => absurd h List.not_mem_nil) dX1_canBeGiven_50
abbrev rm_X1_assign : Room := { frames := 1, cells := 0, slots := 0, locals := 22 }
set_option maxHeartbeats 4000000 in
set_option maxRecDepth 100000 in
theorem c_X1_assign (l : Launch) (dC : Nat → ClassId) (dI : Nat → Nat → Nat) (a : Nat → Nat) (k : Nat → ClassId) (S : cs_S) (sz : Nat) (d : Nat) (q : Nat) (x : Int32) (hd : d ≤ 60) (hq : q < 5) (hI : Inv S) (hx9 : x = -1 ∨ ∃ t, t < c_np S ∧ x = nI t) : Met l yX1_assign wsX1_assign rm_X1_assign (va_Pc [.ref (a 3), .int (nI d), .int (nI q), .int x] (cU dC dI sz (cb_w a k S) (cb_ty k))) (va_Qv (fun (_ : Unit) => True) (fun _ t => cB dC dI (va_A (cb_w a k S) sz) (cb_w a k (s_hld S (upd (c_hld S) (d * 5 + q) x))) (cb_ty k) t) (va_A (cb_w a k S) sz)) 0 0 (va_A (cb_w a k S) sz) := by
  refine Met.ofW (cc := cX1_assign) (maxL := 5) (ret := none) (by decide) rfl ?_
  intro p e s m args below meth c s₁ B hml hv
  obtain ⟨rfl, ⟨hsz, hP, hK, hD0⟩, hE⟩ := hv
  have hx := B.exec
  have hb := B.bytes
  have hr := B.returns
  have hts := atoms_spec (ws := wsX1_assign) B.pre
  have hown : s.vm.findClass RX1 = some m.cls := findClass_of_methodNamed B.named
  have hlocks := B.notSynchronized
  subst hsz
  have hD := hD0.self (sz := s.heap.size)
  generalize hAe : va_A (cb_w a k S) s.heap.size = A at hD hE ⊢
  have hA : ∀ q : Nat, s.heap.size ≤ q → A q := fun q h => by rw [← hAe]; exact Or.inr h
  have hS : va_S A s.heap s.heap [] := va_S.rf
  obtain ⟨Q, hQ⟩ : ∃ Q, Q = MQ below (va_Qv (fun (_ : Unit) => True) (fun _ t => cB dC dI A (cb_w a k (s_hld S (upd (c_hld S) (d * 5 + q) x))) (cb_ty k) t) A) ([.ref (a 3), .int (nI d), .int (nI q), .int x] : List Value).toArray s 0 0 A := ⟨_, rfl⟩
  show W p l e rm_X1_assign s m _ below meth c s.heap [] 0 0 (MQ below _ _ _ _ _ _) _
  rw [← hQ]
  have i_X1 : ∀ w ∈ wsX10, w ∈ wsX1_assign := fun w h => List.mem_cons_of_mem _ (List.mem_append_right _ h)
  obtain ⟨⟨hday, hnp, hns, hnt, hnf, hnm, hnb, hme⟩, hpat, hage, hten, hcnt, hplc, heat, hned, hhld, hbad, hbad0, hbag⟩ := id hI
  have f_0 := hts (.fieldLink RX1 11 "CampBook$Duties" "holders" "[I") (by decide +kernel)
  have f_1 := hts (.fieldLink RX1 15 "CampBook$Duties" "points" "[I") (by decide +kernel)
  have f_2 := hts (.fieldLink RX1 45 "CampBook$Duties" "POINTS" "[I") (by decide +kernel)
  have hl := lv_entry ([.ref (a 3), .int (nI d), .int (nI q), .int x]) (n := 5) (Nat.le_of_ble_eq_true rfl)
  rw [lg_entry_eq]
  generalize (lg_sl ([.ref (a 3), .int (nI d), .int (nI q), .int x]) ++ List.replicate (5 - (lg_sl ([.ref (a 3), .int (nI d), .int (nI q), .int x])).length) Slot.unset).toArray = ls at hl ⊢
  have hl : lv_has ls 5 [(0, .ref (a 3)), (1, .int (nI d)), (2, .int (nI q)), (3, .int x)] := hl
  obtain ⟨-, -, -, -, t1, t2, hZ1, hT1, hZ2, hT2, hNw⟩ := id hE
  refine lv_aload_n hx hb dX1_assign_0 rfl (lv_at hl 0 rfl) ?_
  refine lv_iload_n hx hb dX1_assign_1 rfl (lv_at hl 1 rfl) ?_
  refine lv_iload_n hx hb dX1_assign_2 rfl (lv_at hl 2 rfl) ?_
  refine vp_callSi (W.runV (As := [.int (nI d), .int (nI q)]) (rest := []) ⟨hx, hb, hml, hown, hts⟩ (c_X1_holderOn l dC dI a k S (nI d) q (by omega)) (cwV 2 hts gX1_assign_X1_holderOn rfl rfl rfl (by decide +kernel) ⟨(Nat.le_of_ble_eq_true rfl), (Nat.le_of_ble_eq_true rfl)⟩) ⟨cR_blind, va_recv hK hP (ci := 1) (q0 := 3) rfl rfl, fun U hU hW => ⟨rfl, cR_of hK hP hU hW⟩⟩ rfl rfl hl.1 rfl (lv_room (Nat.le_of_ble_eq_true rfl)) dX1_assign_3 ⟨(by show 0 + 0 ≤ 0; omega), (by show 0 + 0 ≤ 0; omega)⟩) (fun r er => ?_)
  subst er
  refine cb_topi (z := c_hld S (d * 5 + q)) (hol_nI hd) ?_
  refine lv_istore (lv' := [(4, .int (c_hld S (d * 5 + q))), (0, .ref (a 3)), (1, .int (nI d)), (2, .int (nI q)), (3, .int x)]) hx hb dX1_assign_6 hl (by decide) rfl (fun ls hl => ?_)
  refine lv_iload hx hb dX1_assign_8 (lv_at hl 0 rfl) ?_
  refine lv_iconst (v := (-1)) hx hb dX1_assign_10 (by decide) ?_
  refine lv_icmp_eq (tgt := 29) hx hb dX1_assign_11 (by decide) (fun c_11 => ?_) (fun c_11 => ?_)
  · skip
    have eb := c_11
    refine lv_iload_n hx hb dX1_assign_29 rfl (lv_at hl 4 rfl) ?_
    refine lv_iconst (v := (-1)) hx hb dX1_assign_30 (by decide) ?_
    refine lv_icmp_eq (tgt := 48) hx hb dX1_assign_31 (by decide) (fun c_31 => ?_) (fun c_31 => ?_)
    · skip
      have et := c_31
      refine lv_aload_n hx hb dX1_assign_48 rfl (lv_at hl 1 rfl) ?_
      refine va_get (D := (dC, dI)) (ci := 1) (v := .ref (a 14)) (C := RX1) (T := TX1) (N := 2) hx hb hts i_X1 hown hK hP 3 rfl rfl 0 (by decide) f_0 (fun _ h9 => h9) rfl dX1_assign_49 ?_
      refine lv_iload_n hx hb dX1_assign_52 rfl (lv_at hl 2 rfl) ?_
      refine lv_iconst (v := nI 5) hx hb dX1_assign_53 (by decide) ?_
      refine lv_imul hx hb dX1_assign_54 ?_
      refine cb_topi (pk_mul _ _) ?_
      refine lv_iload_n hx hb dX1_assign_55 rfl (lv_at hl 3 rfl) ?_
      refine lv_iadd hx hb dX1_assign_56 ?_
      refine cb_topi (nI_add _ _) ?_
      refine lv_iload_n hx hb dX1_assign_57 rfl (lv_at hl 4 rfl) ?_
      refine cb_iast hx hb hK hP hD hS 14 8 (f := c_hld S) rfl rfl (j := (d * 5) + q) (by omega) (Nat.le_of_ble_eq_true rfl) dX1_assign_58 (fun H locs hP hD hS => ?_)
      rw [wsC_hld] at hP hD
      have hP : va_P (dC, dI) vwCl (cb_W a k (s_hld S (upd (c_hld S) ((d * 5) + q) x)) (c_sl S) (c_pt S) (c_at S)) H := hP
      have hD : va_D A (cb_W a k (s_hld S (upd (c_hld S) ((d * 5) + q) x)) (c_sl S) (c_pt S) (c_at S)) := hD
      have ew : (cb_W a k (s_hld S (upd (c_hld S) ((d * 5) + q) x)) (c_sl S) (c_pt S) (c_at S)) = (cb_w a k (s_hld S (upd (c_hld S) (d * 5 + q) x))) := (by rw [et]; exact congrArg (fun z => cb_W a k (s_hld S (upd (c_hld S) (d * 5 + q) (-1))) (c_sl S) z (c_at S)) (pa_A hd hq eb))
      have hP : va_P (dC, dI) vwCl (cb_w a k (s_hld S (upd (c_hld S) (d * 5 + q) x))) H := by rw [← ew]; exact hP
      have hD : va_D A (cb_w a k (s_hld S (upd (c_hld S) (d * 5 + q) x))) := by rw [← ew]; exact hD
      rw [hQ]
      refine W.widen (k := 0) (n := 0) (by omega) (by omega) ?_
      exact W.vret hx hb hr (fun t9 ht9 hW9 => ⟨⟨(), rfl, trivial, cB_of hP hK hD ht9 hW9⟩, hS.F ht9⟩) hS.2.2 dX1_assign_59
    · skip
      rcases hx9 with e9 | ⟨t, ht9, et⟩; exact absurd e9 c_31
      rw [et] at hl
      refine lv_aload_n hx hb dX1_assign_34 rfl (lv_at hl 1 rfl) ?_
      refine va_get (D := (dC, dI)) (ci := 1) (v := .ref (a 15)) (C := RX1) (T := TX1) (N := 2) hx hb hts i_X1 hown hK hP 3 rfl rfl 1 (by decide) f_1 (fun _ h9 => h9) rfl dX1_assign_35 ?_
      refine lv_iload_n hx hb dX1_assign_38 rfl (lv_at hl 4 rfl) ?_
      refine lv_dup2_11 hx hb dX1_assign_39 rfl rfl ?_
      refine cb_iald hx hb hK hP 15 9 (f := c_pt S) rfl rfl (j := t) (by omega) (Nat.le_of_ble_eq_true rfl) dX1_assign_40 ?_
      refine va_gets (C := RX1) hx hb hZ1 hS hown f_2 (fun _ h9 => h9) dX1_assign_41 ?_
      refine lv_iload_n hx hb dX1_assign_44 rfl (lv_at hl 3 rfl) ?_
      refine cb_ti hx hb hT1 hS (j := q) (by omega) (Nat.le_of_ble_eq_true rfl) dX1_assign_45 ?_
      refine lv_iadd hx hb dX1_assign_46 ?_
      refine cb_iast hx hb hK hP hD hS 15 9 (f := c_pt S) rfl rfl (j := t) (by omega) (Nat.le_of_ble_eq_true rfl) dX1_assign_47 (fun H locs hP hD hS => ?_)
      rw [wsC_PT] at hP hD
      have hP : va_P (dC, dI) vwCl (cb_W a k S (c_sl S) (upd (c_pt S) t ((c_pt S t) + (dP q))) (c_at S)) H := hP
      have hD : va_D A (cb_W a k S (c_sl S) (upd (c_pt S) t ((c_pt S t) + (dP q))) (c_at S)) := hD
      refine lv_aload_n hx hb dX1_assign_48 rfl (lv_at hl 1 rfl) ?_
      refine va_get (D := (dC, dI)) (ci := 1) (v := .ref (a 14)) (C := RX1) (T := TX1) (N := 2) hx hb hts i_X1 hown hK hP 3 rfl rfl 0 (by decide) f_0 (fun _ h9 => h9) rfl dX1_assign_49 ?_
      refine lv_iload_n hx hb dX1_assign_52 rfl (lv_at hl 2 rfl) ?_
      refine lv_iconst (v := nI 5) hx hb dX1_assign_53 (by decide) ?_
      refine lv_imul hx hb dX1_assign_54 ?_
      refine cb_topi (pk_mul _ _) ?_
      refine lv_iload_n hx hb dX1_assign_55 rfl (lv_at hl 3 rfl) ?_
      refine lv_iadd hx hb dX1_assign_56 ?_
      refine cb_topi (nI_add _ _) ?_
      refine lv_iload_n hx hb dX1_assign_57 rfl (lv_at hl 4 rfl) ?_
      refine cb_iast hx hb hK hP hD hS 14 8 (f := c_hld S) rfl rfl (j := (d * 5) + q) (by omega) (Nat.le_of_ble_eq_true rfl) dX1_assign_58 (fun H locs hP hD hS => ?_)
      rw [wsC_hld] at hP hD
      have hP : va_P (dC, dI) vwCl (cb_W a k (s_hld S (upd (c_hld S) ((d * 5) + q) (nI t))) (c_sl S) (upd (c_pt S) t ((c_pt S t) + (dP q))) (c_at S)) H := hP
      have hD : va_D A (cb_W a k (s_hld S (upd (c_hld S) ((d * 5) + q) (nI t))) (c_sl S) (upd (c_pt S) t ((c_pt S t) + (dP q))) (c_at S)) := hD
      have ew : (cb_W a k (s_hld S (upd (c_hld S) ((d * 5) + q) (nI t))) (c_sl S) (upd (c_pt S) t ((c_pt S t) + (dP q))) (c_at S)) = (cb_w a k (s_hld S (upd (c_hld S) (d * 5 + q) x))) := (by rw [et]; exact congrArg (fun z => cb_W a k (s_hld S (upd (c_hld S) (d * 5 + q) (nI t))) (c_sl S) z (c_at S)) (pa_C hd hq eb (by omega)))
      have hP : va_P (dC, dI) vwCl (cb_w a k (s_hld S (upd (c_hld S) (d * 5 + q) x))) H := by rw [← ew]; exact hP
      have hD : va_D A (cb_w a k (s_hld S (upd (c_hld S) (d * 5 + q) x))) := by rw [← ew]; exact hD
      rw [hQ]
      refine W.widen (k := 0) (n := 0) (by omega) (by omega) ?_
      exact W.vret hx hb hr (fun t9 ht9 hW9 => ⟨⟨(), rfl, trivial, cB_of hP hK hD ht9 hW9⟩, hS.F ht9⟩) hS.2.2 dX1_assign_59
  · skip
    rcases hhld (d * 5 + q) (by omega) with e9 | ⟨b, hb9, eb⟩; exact absurd e9 c_11
    rw [eb] at hl
    refine lv_aload_n hx hb dX1_assign_14 rfl (lv_at hl 1 rfl) ?_
    refine va_get (D := (dC, dI)) (ci := 1) (v := .ref (a 15)) (C := RX1) (T := TX1) (N := 2) hx hb hts i_X1 hown hK hP 3 rfl rfl 1 (by decide) f_1 (fun _ h9 => h9) rfl dX1_assign_15 ?_
    refine lv_iload hx hb dX1_assign_18 (lv_at hl 0 rfl) ?_
    refine lv_dup2_11 hx hb dX1_assign_20 rfl rfl ?_
    refine cb_iald hx hb hK hP 15 9 (f := c_pt S) rfl rfl (j := b) (by omega) (Nat.le_of_ble_eq_true rfl) dX1_assign_21 ?_
    refine va_gets (C := RX1) hx hb hZ1 hS hown f_2 (fun _ h9 => h9) dX1_assign_22 ?_
    refine lv_iload_n hx hb dX1_assign_25 rfl (lv_at hl 3 rfl) ?_
    refine cb_ti hx hb hT1 hS (j := q) (by omega) (Nat.le_of_ble_eq_true rfl) dX1_assign_26 ?_
    refine lv_isub hx hb dX1_assign_27 ?_
    refine cb_iast hx hb hK hP hD hS 15 9 (f := c_pt S) rfl rfl (j := b) (by omega) (Nat.le_of_ble_eq_true rfl) dX1_assign_28 (fun H locs hP hD hS => ?_)
    rw [wsC_PT] at hP hD
    have hP : va_P (dC, dI) vwCl (cb_W a k S (c_sl S) (upd (c_pt S) b ((c_pt S b) - (dP q))) (c_at S)) H := hP
    have hD : va_D A (cb_W a k S (c_sl S) (upd (c_pt S) b ((c_pt S b) - (dP q))) (c_at S)) := hD
    refine lv_iload_n hx hb dX1_assign_29 rfl (lv_at hl 4 rfl) ?_
    refine lv_iconst (v := (-1)) hx hb dX1_assign_30 (by decide) ?_
    refine lv_icmp_eq (tgt := 48) hx hb dX1_assign_31 (by decide) (fun c_31 => ?_) (fun c_31 => ?_)
    · skip
      have et := c_31
      refine lv_aload_n hx hb dX1_assign_48 rfl (lv_at hl 1 rfl) ?_
      refine va_get (D := (dC, dI)) (ci := 1) (v := .ref (a 14)) (C := RX1) (T := TX1) (N := 2) hx hb hts i_X1 hown hK hP 3 rfl rfl 0 (by decide) f_0 (fun _ h9 => h9) rfl dX1_assign_49 ?_
      refine lv_iload_n hx hb dX1_assign_52 rfl (lv_at hl 2 rfl) ?_
      refine lv_iconst (v := nI 5) hx hb dX1_assign_53 (by decide) ?_
      refine lv_imul hx hb dX1_assign_54 ?_
      refine cb_topi (pk_mul _ _) ?_
      refine lv_iload_n hx hb dX1_assign_55 rfl (lv_at hl 3 rfl) ?_
      refine lv_iadd hx hb dX1_assign_56 ?_
      refine cb_topi (nI_add _ _) ?_
      refine lv_iload_n hx hb dX1_assign_57 rfl (lv_at hl 4 rfl) ?_
      refine cb_iast hx hb hK hP hD hS 14 8 (f := c_hld S) rfl rfl (j := (d * 5) + q) (by omega) (Nat.le_of_ble_eq_true rfl) dX1_assign_58 (fun H locs hP hD hS => ?_)
      rw [wsC_hld] at hP hD
      have hP : va_P (dC, dI) vwCl (cb_W a k (s_hld S (upd (c_hld S) ((d * 5) + q) x)) (c_sl S) (upd (c_pt S) b ((c_pt S b) - (dP q))) (c_at S)) H := hP
      have hD : va_D A (cb_W a k (s_hld S (upd (c_hld S) ((d * 5) + q) x)) (c_sl S) (upd (c_pt S) b ((c_pt S b) - (dP q))) (c_at S)) := hD
      have ew : (cb_W a k (s_hld S (upd (c_hld S) ((d * 5) + q) x)) (c_sl S) (upd (c_pt S) b ((c_pt S b) - (dP q))) (c_at S)) = (cb_w a k (s_hld S (upd (c_hld S) (d * 5 + q) x))) := (by rw [et]; exact congrArg (fun z => cb_W a k (s_hld S (upd (c_hld S) (d * 5 + q) (-1))) (c_sl S) z (c_at S)) (pa_B hd hq eb (by omega)))
      have hP : va_P (dC, dI) vwCl (cb_w a k (s_hld S (upd (c_hld S) (d * 5 + q) x))) H := by rw [← ew]; exact hP
      have hD : va_D A (cb_w a k (s_hld S (upd (c_hld S) (d * 5 + q) x))) := by rw [← ew]; exact hD
      rw [hQ]
      refine W.widen (k := 0) (n := 0) (by omega) (by omega) ?_
      exact W.vret hx hb hr (fun t9 ht9 hW9 => ⟨⟨(), rfl, trivial, cB_of hP hK hD ht9 hW9⟩, hS.F ht9⟩) hS.2.2 dX1_assign_59
    · skip
      rcases hx9 with e9 | ⟨t, ht9, et⟩; exact absurd e9 c_31
      rw [et] at hl
      refine lv_aload_n hx hb dX1_assign_34 rfl (lv_at hl 1 rfl) ?_
      refine va_get (D := (dC, dI)) (ci := 1) (v := .ref (a 15)) (C := RX1) (T := TX1) (N := 2) hx hb hts i_X1 hown hK hP 3 rfl rfl 1 (by decide) f_1 (fun _ h9 => h9) rfl dX1_assign_35 ?_
      refine lv_iload_n hx hb dX1_assign_38 rfl (lv_at hl 4 rfl) ?_
      refine lv_dup2_11 hx hb dX1_assign_39 rfl rfl ?_
      refine cb_iald hx hb hK hP 15 9 (f := upd (c_pt S) b ((c_pt S b) - (dP q))) rfl rfl (j := t) (by omega) (Nat.le_of_ble_eq_true rfl) dX1_assign_40 ?_
      refine va_gets (C := RX1) hx hb hZ1 hS hown f_2 (fun _ h9 => h9) dX1_assign_41 ?_
      refine lv_iload_n hx hb dX1_assign_44 rfl (lv_at hl 3 rfl) ?_
      refine cb_ti hx hb hT1 hS (j := q) (by omega) (Nat.le_of_ble_eq_true rfl) dX1_assign_45 ?_
      refine lv_iadd hx hb dX1_assign_46 ?_
      refine cb_iast hx hb hK hP hD hS 15 9 (f := upd (c_pt S) b ((c_pt S b) - (dP q))) rfl rfl (j := t) (by omega) (Nat.le_of_ble_eq_true rfl) dX1_assign_47 (fun H locs hP hD hS => ?_)
      rw [wsC_PT] at hP hD
      have hP : va_P (dC, dI) vwCl (cb_W a k S (c_sl S) (upd (upd (c_pt S) b ((c_pt S b) - (dP q))) t ((upd (c_pt S) b ((c_pt S b) - (dP q)) t) + (dP q))) (c_at S)) H := hP
      have hD : va_D A (cb_W a k S (c_sl S) (upd (upd (c_pt S) b ((c_pt S b) - (dP q))) t ((upd (c_pt S) b ((c_pt S b) - (dP q)) t) + (dP q))) (c_at S)) := hD
      refine lv_aload_n hx hb dX1_assign_48 rfl (lv_at hl 1 rfl) ?_
      refine va_get (D := (dC, dI)) (ci := 1) (v := .ref (a 14)) (C := RX1) (T := TX1) (N := 2) hx hb hts i_X1 hown hK hP 3 rfl rfl 0 (by decide) f_0 (fun _ h9 => h9) rfl dX1_assign_49 ?_
      refine lv_iload_n hx hb dX1_assign_52 rfl (lv_at hl 2 rfl) ?_
      refine lv_iconst (v := nI 5) hx hb dX1_assign_53 (by decide) ?_
      refine lv_imul hx hb dX1_assign_54 ?_
      refine cb_topi (pk_mul _ _) ?_
      refine lv_iload_n hx hb dX1_assign_55 rfl (lv_at hl 3 rfl) ?_
      refine lv_iadd hx hb dX1_assign_56 ?_
      refine cb_topi (nI_add _ _) ?_
      refine lv_iload_n hx hb dX1_assign_57 rfl (lv_at hl 4 rfl) ?_
      refine cb_iast hx hb hK hP hD hS 14 8 (f := c_hld S) rfl rfl (j := (d * 5) + q) (by omega) (Nat.le_of_ble_eq_true rfl) dX1_assign_58 (fun H locs hP hD hS => ?_)
      rw [wsC_hld] at hP hD
      have hP : va_P (dC, dI) vwCl (cb_W a k (s_hld S (upd (c_hld S) ((d * 5) + q) (nI t))) (c_sl S) (upd (upd (c_pt S) b ((c_pt S b) - (dP q))) t ((upd (c_pt S) b ((c_pt S b) - (dP q)) t) + (dP q))) (c_at S)) H := hP
      have hD : va_D A (cb_W a k (s_hld S (upd (c_hld S) ((d * 5) + q) (nI t))) (c_sl S) (upd (upd (c_pt S) b ((c_pt S b) - (dP q))) t ((upd (c_pt S) b ((c_pt S b) - (dP q)) t) + (dP q))) (c_at S)) := hD
      have ew : (cb_W a k (s_hld S (upd (c_hld S) ((d * 5) + q) (nI t))) (c_sl S) (upd (upd (c_pt S) b ((c_pt S b) - (dP q))) t ((upd (c_pt S) b ((c_pt S b) - (dP q)) t) + (dP q))) (c_at S)) = (cb_w a k (s_hld S (upd (c_hld S) (d * 5 + q) x))) := (by rw [et]; exact congrArg (fun z => cb_W a k (s_hld S (upd (c_hld S) (d * 5 + q) (nI t))) (c_sl S) z (c_at S)) (pa_D hd hq eb (by omega) (by omega)))
      have hP : va_P (dC, dI) vwCl (cb_w a k (s_hld S (upd (c_hld S) (d * 5 + q) x))) H := by rw [← ew]; exact hP
      have hD : va_D A (cb_w a k (s_hld S (upd (c_hld S) (d * 5 + q) x))) := by rw [← ew]; exact hD
      rw [hQ]
      refine W.widen (k := 0) (n := 0) (by omega) (by omega) ?_
      exact W.vret hx hb hr (fun t9 ht9 hW9 => ⟨⟨(), rfl, trivial, cB_of hP hK hD ht9 hW9⟩, hS.F ht9⟩) hS.2.2 dX1_assign_59
abbrev rm_X1_bestFor : Room := { frames := 3, cells := 0, slots := 0, locals := 72 }
set_option maxHeartbeats 4000000 in
set_option maxRecDepth 100000 in
theorem c_X1_bestFor (l : Launch) (dC : Nat → ClassId) (dI : Nat → Nat → Nat) (a : Nat → Nat) (k : Nat → ClassId) (S : cs_S) (d : Nat) (q : Nat) (hd : d ≤ 60) (hq : q < 5) (hI : Inv S) : Met l yX1_bestFor wsX1_bestFor rm_X1_bestFor (va_Pc [.ref (a 3), .int (nI d), .int (nI q), .ref (a 1)] (cR dC dI (cb_w a k S) (cb_ty k))) (vp_Si (fun r => r = oI (bD S d q (c_np S)))) 0 0 (fun _ => False) := by
  refine Met.ofW (cc := cX1_bestFor) (maxL := 7) (ret := (some .int)) (by decide) rfl ?_
  intro p e s m args below meth c s₁ B hml hv
  obtain ⟨rfl, hP, hK⟩ := hv
  have hx := B.exec
  have hb := B.bytes
  have hr := B.returns
  have hts := atoms_spec (ws := wsX1_bestFor) B.pre
  have hown : s.vm.findClass RX1 = some m.cls := findClass_of_methodNamed B.named
  have hlocks := B.notSynchronized
  obtain ⟨Q, hQ⟩ : ∃ Q, Q = MQ below (vp_Si (fun r => r = oI (bD S d q (c_np S)))) ([.ref (a 3), .int (nI d), .int (nI q), .ref (a 1)] : List Value).toArray s 0 0 (fun _ => False) := ⟨_, rfl⟩
  show W p l e rm_X1_bestFor s m _ below meth c s.heap [] 0 0 (MQ below _ _ _ _ _ _) _
  rw [← hQ]
  have i_X1 : ∀ w ∈ wsX10, w ∈ wsX1_bestFor := fun w h => List.mem_cons_of_mem _ (List.mem_append_right _ h)
  have i_X3 : ∀ w ∈ wsX30, w ∈ wsX1_bestFor := fun w h => List.mem_cons_of_mem _ (List.mem_append_left _ (List.mem_append_right _ h))
  obtain ⟨⟨hday, hnp, hns, hnt, hnf, hnm, hnb, hme⟩, hpat, hage, hten, hcnt, hplc, heat, hned, hhld, hbad, hbad0, hbag⟩ := id hI
  have f_0 := hts (.fieldLink RX1 48 "CampBook$People" "patrols" "I") (by decide +kernel)
  have f_1 := hts (.fieldLink RX1 15 "CampBook$Duties" "points" "[I") (by decide +kernel)
  have hl := lv_entry ([.ref (a 3), .int (nI d), .int (nI q), .ref (a 1)]) (n := 7) (Nat.le_of_ble_eq_true rfl)
  rw [lg_entry_eq]
  generalize (lg_sl ([.ref (a 3), .int (nI d), .int (nI q), .ref (a 1)]) ++ List.replicate (7 - (lg_sl ([.ref (a 3), .int (nI d), .int (nI q), .ref (a 1)])).length) Slot.unset).toArray = ls at hl ⊢
  have hl : lv_has ls 7 [(0, .ref (a 3)), (1, .int (nI d)), (2, .int (nI q)), (3, .ref (a 1))] := hl
  refine lv_iconst (v := (-1)) hx hb dX1_bestFor_0 (by decide) ?_
  refine lv_istore (lv' := [(4, .int (-1)), (0, .ref (a 3)), (1, .int (nI d)), (2, .int (nI q)), (3, .ref (a 1))]) hx hb dX1_bestFor_1 hl (by decide) rfl (fun ls hl => ?_)
  refine lv_iconst (v := nI 0) hx hb dX1_bestFor_3 (by decide) ?_
  refine lv_istore (lv' := [(5, .int (nI 0)), (4, .int (-1)), (0, .ref (a 3)), (1, .int (nI d)), (2, .int (nI q)), (3, .ref (a 1))]) hx hb dX1_bestFor_4 hl (by decide) rfl (fun ls hl => ?_)
  have L_6 : ∀ (n i : Nat), i ≤ c_np S → c_np S + 1 ≤ i + n → ∀ (ls : Array Slot), lv_has ls 7 [(0, .ref (a 3)), (1, .int (nI d)), (2, .int (nI q)), (3, .ref (a 1)), (4, .int (oI (bD S d q i))), (5, .int (nI i))] → W p l e rm_X1_bestFor s m ([.ref (a 3), .int (nI d), .int (nI q), .ref (a 1)] : List Value).toArray below meth c s.heap [] 0 0 Q (F0 m 6 ls []) := by
    intro n
    induction n with
    | zero => intro i h1 h2; exact absurd h2 (by omega)
    | succ n ih_6 =>
      intro i hle_6 hfu_6 ls hl
      refine lv_iload hx hb dX1_bestFor_6 (lv_at hl 5 rfl) ?_
      refine lv_aload_n hx hb dX1_bestFor_8 rfl (lv_at hl 3 rfl) ?_
      refine va_get (D := (dC, dI)) (ci := 3) (v := .int (nI (c_np S))) (C := RX3) (T := TX3) (N := 8) hx hb hts i_X3 hown hK hP 1 rfl rfl 0 (by decide) f_0 (fun _ h9 => h9) rfl dX1_bestFor_9 ?_
      refine lv_icmp_ge (tgt := 72) hx hb dX1_bestFor_12 (by decide) (fun c_12 => ?_) (fun c_12 => ?_)
      · have c_12 : (c_np S) ≤ i := cb_ge (by omega) (by omega) c_12
        refine lv_iload hx hb dX1_bestFor_72 (lv_at hl 4 rfl) ?_
        rw [hQ]
        exact W.iret (v := oI (bD S d q i)) hx hb hr (fun t9 ht9 hW9 => ⟨oI (bD S d q i), rfl, (by rw [show i = c_np S by omega]), ht9⟩) (fun q h => absurd h List.not_mem_nil) dX1_bestFor_74
      · have c_12 : i < (c_np S) := cb_nge (by omega) (by omega) c_12
        refine lv_iload hx hb dX1_bestFor_15 (lv_at hl 4 rfl) ?_
        refine lv_iconst (v := (-1)) hx hb dX1_bestFor_17 (by decide) ?_
        refine lv_icmp_eq (tgt := 38) hx hb dX1_bestFor_18 (by decide) (fun c_18 => ?_) (fun c_18 => ?_)
        · skip
          have eb9 := oI_none c_18 (fun b hb => Nat.lt_trans (bD_lt hb) (by omega))
          refine lv_iconst (v := nI 1) hx hb dX1_bestFor_38 (by decide) ?_
          refine lv_goto (tgt := 43) hx hb dX1_bestFor_39 (by decide) ?_
          refine lv_istore (lv' := [(6, .int (nI 1)), (0, .ref (a 3)), (1, .int (nI d)), (2, .int (nI q)), (3, .ref (a 1)), (4, .int (oI (bD S d q i))), (5, .int (nI i))]) hx hb dX1_bestFor_43 hl (by decide) rfl (fun ls hl => ?_)
          refine lv_iload hx hb dX1_bestFor_45 (lv_at hl 0 rfl) ?_
          refine lv_if_eq (tgt := 66) hx hb dX1_bestFor_47 (by decide) (fun c_47 => ?_) (fun c_47 => ?_)
          · exact absurd c_47 (by decide)
          · skip
            refine lv_aload_n hx hb dX1_bestFor_50 rfl (lv_at hl 1 rfl) ?_
            refine lv_iload_n hx hb dX1_bestFor_51 rfl (lv_at hl 2 rfl) ?_
            refine lv_iload_n hx hb dX1_bestFor_52 rfl (lv_at hl 3 rfl) ?_
            refine lv_iload hx hb dX1_bestFor_53 (lv_at hl 6 rfl) ?_
            refine lv_aload_n hx hb dX1_bestFor_55 rfl (lv_at hl 4 rfl) ?_
            refine vp_callSi (W.runV (As := [.int (nI d), .int (nI q), .int (nI i), .ref (a 1)]) (rest := []) ⟨hx, hb, hml, hown, hts⟩ (c_X1_canBeGiven l dC dI a k S d q i (by omega) (by omega) (by omega) hI) (cwV 4 hts gX1_bestFor_X1_canBeGiven rfl rfl rfl (by decide +kernel) ⟨(Nat.le_of_ble_eq_true rfl), (Nat.le_of_ble_eq_true rfl)⟩) ⟨cR_blind, va_recv hK hP (ci := 1) (q0 := 3) rfl rfl, fun U hU hW => ⟨rfl, cR_of hK hP hU hW⟩⟩ rfl rfl hl.1 rfl (lv_room (Nat.le_of_ble_eq_true rfl)) dX1_bestFor_56 ⟨(Nat.le_of_ble_eq_true rfl), (Nat.le_of_ble_eq_true rfl)⟩) (fun r er => ?_)
            subst er
            refine lv_if_eq (tgt := 66) hx hb dX1_bestFor_59 (by decide) (fun c_59 => ?_) (fun c_59 => ?_)
            · have c_59 : (canG S d q i) = false := bI_0 c_59
              refine lv_iinc (v := nI (i + 1)) (lv' := [(5, .int (nI (i + 1))), (6, .int (nI 1)), (0, .ref (a 3)), (1, .int (nI d)), (2, .int (nI q)), (3, .ref (a 1)), (4, .int (oI (bD S d q i)))]) hx hb dX1_bestFor_66 hl (k := 6) rfl (nI_1 _) (by decide) rfl (fun ls hl => ?_)
              refine lv_goto (tgt := 6) hx hb dX1_bestFor_69 (by decide) ?_
              have hl : lv_has ls 7 [(5, .int (nI (i + 1))), (6, .int (nI 1)), (0, .ref (a 3)), (1, .int (nI d)), (2, .int (nI q)), (3, .ref (a 1)), (4, .int (oI (bD S d q (i + 1))))] := cb_loc hl (e := Value.int (oI (bD S d q (i + 1)))) 6 rfl (congrArg Value.int (show oI (bD S d q i) = oI (bD S d q (i + 1)) from (by rw [bD, if_neg (fun z => by first | (rw [c_59] at z; exact absurd z.2 (by decide)) | (rw [eb9] at z; exact absurd (of_decide_eq_true z.1) (Int32.not_lt.mpr c_35)))]; first | done | (rw [eb9]; rfl))))
              exact ih_6 (i + 1) (by omega) (by omega) ls (lv_sub hl [2, 3, 4, 5, 6, 0] rfl)
            · have c_59 : (canG S d q i) = true := bI_n c_59
              refine lv_iload hx hb dX1_bestFor_62 (lv_at hl 6 rfl) ?_
              refine lv_istore (lv' := [(4, .int (nI i)), (6, .int (nI 1)), (0, .ref (a 3)), (1, .int (nI d)), (2, .int (nI q)), (3, .ref (a 1)), (5, .int (nI i))]) hx hb dX1_bestFor_64 hl (by decide) rfl (fun ls hl => ?_)
              refine lv_iinc (v := nI (i + 1)) (lv' := [(5, .int (nI (i + 1))), (4, .int (nI i)), (6, .int (nI 1)), (0, .ref (a 3)), (1, .int (nI d)), (2, .int (nI q)), (3, .ref (a 1))]) hx hb dX1_bestFor_66 hl (k := 6) rfl (nI_1 _) (by decide) rfl (fun ls hl => ?_)
              refine lv_goto (tgt := 6) hx hb dX1_bestFor_69 (by decide) ?_
              have hl : lv_has ls 7 [(5, .int (nI (i + 1))), (4, .int (oI (bD S d q (i + 1)))), (6, .int (nI 1)), (0, .ref (a 3)), (1, .int (nI d)), (2, .int (nI q)), (3, .ref (a 1))] := cb_loc hl (e := Value.int (oI (bD S d q (i + 1)))) 1 rfl (congrArg Value.int (show nI i = oI (bD S d q (i + 1)) from (by rw [bD, if_pos ⟨by rw [eb9]; first | rfl | exact decide_eq_true (Int32.not_le.mp c_35), c_59⟩]; first | done | rfl)))
              exact ih_6 (i + 1) (by omega) (by omega) ls (lv_sub hl [3, 4, 5, 6, 1, 0] rfl)
        · skip
          obtain ⟨b9, eb9⟩ := oI_some c_18
          have hb9 := bD_lt eb9
          have eo9 : oI (bD S d q i) = nI b9 := by rw [eb9]; rfl
          rw [eo9] at hl
          refine lv_aload_n hx hb dX1_bestFor_21 rfl (lv_at hl 0 rfl) ?_
          refine va_get (D := (dC, dI)) (ci := 1) (v := .ref (a 15)) (C := RX1) (T := TX1) (N := 2) hx hb hts i_X1 hown hK hP 3 rfl rfl 1 (by decide) f_1 (fun _ h9 => h9) rfl dX1_bestFor_22 ?_
          refine lv_iload hx hb dX1_bestFor_25 (lv_at hl 5 rfl) ?_
          refine cb_iald hx hb hK hP 15 9 (f := c_pt S) rfl rfl (j := i) (by omega) (Nat.le_of_ble_eq_true rfl) dX1_bestFor_27 ?_
          refine cb_topi (z := pts S i) (c_pt_at (by omega)) ?_
          refine lv_aload_n hx hb dX1_bestFor_28 rfl (lv_at hl 0 rfl) ?_
          refine va_get (D := (dC, dI)) (ci := 1) (v := .ref (a 15)) (C := RX1) (T := TX1) (N := 2) hx hb hts i_X1 hown hK hP 3 rfl rfl 1 (by decide) f_1 (fun _ h9 => h9) rfl dX1_bestFor_29 ?_
          refine lv_iload hx hb dX1_bestFor_32 (lv_at hl 4 rfl) ?_
          refine cb_iald hx hb hK hP 15 9 (f := c_pt S) rfl rfl (j := b9) (by omega) (Nat.le_of_ble_eq_true rfl) dX1_bestFor_34 ?_
          refine cb_topi (z := pts S b9) (c_pt_at (by omega)) ?_
          refine lv_icmp_ge (tgt := 42) hx hb dX1_bestFor_35 (by decide) (fun c_35 => ?_) (fun c_35 => ?_)
          · skip
            refine lv_iconst (v := nI 0) hx hb dX1_bestFor_42 (by decide) ?_
            refine lv_istore (lv' := [(6, .int (nI 0)), (0, .ref (a 3)), (1, .int (nI d)), (2, .int (nI q)), (3, .ref (a 1)), (4, .int (nI b9)), (5, .int (nI i))]) hx hb dX1_bestFor_43 hl (by decide) rfl (fun ls hl => ?_)
            refine lv_iload hx hb dX1_bestFor_45 (lv_at hl 0 rfl) ?_
            refine lv_if_eq (tgt := 66) hx hb dX1_bestFor_47 (by decide) (fun c_47 => ?_) (fun c_47 => ?_)
            · skip
              refine lv_iinc (v := nI (i + 1)) (lv' := [(5, .int (nI (i + 1))), (6, .int (nI 0)), (0, .ref (a 3)), (1, .int (nI d)), (2, .int (nI q)), (3, .ref (a 1)), (4, .int (nI b9))]) hx hb dX1_bestFor_66 hl (k := 6) rfl (nI_1 _) (by decide) rfl (fun ls hl => ?_)
              refine lv_goto (tgt := 6) hx hb dX1_bestFor_69 (by decide) ?_
              have hl : lv_has ls 7 [(5, .int (nI (i + 1))), (6, .int (nI 0)), (0, .ref (a 3)), (1, .int (nI d)), (2, .int (nI q)), (3, .ref (a 1)), (4, .int (oI (bD S d q (i + 1))))] := cb_loc hl (e := Value.int (oI (bD S d q (i + 1)))) 6 rfl (congrArg Value.int (show nI b9 = oI (bD S d q (i + 1)) from (by rw [bD, if_neg (fun z => by first | (rw [c_59] at z; exact absurd z.2 (by decide)) | (rw [eb9] at z; exact absurd (of_decide_eq_true z.1) (Int32.not_lt.mpr c_35)))]; first | done | (rw [eb9]; rfl))))
              exact ih_6 (i + 1) (by omega) (by omega) ls (lv_sub hl [2, 3, 4, 5, 6, 0] rfl)
            · exact absurd c_47 (by decide)
          · skip
            refine lv_iconst (v := nI 1) hx hb dX1_bestFor_38 (by decide) ?_
            refine lv_goto (tgt := 43) hx hb dX1_bestFor_39 (by decide) ?_
            refine lv_istore (lv' := [(6, .int (nI 1)), (0, .ref (a 3)), (1, .int (nI d)), (2, .int (nI q)), (3, .ref (a 1)), (4, .int (nI b9)), (5, .int (nI i))]) hx hb dX1_bestFor_43 hl (by decide) rfl (fun ls hl => ?_)
            refine lv_iload hx hb dX1_bestFor_45 (lv_at hl 0 rfl) ?_
            refine lv_if_eq (tgt := 66) hx hb dX1_bestFor_47 (by decide) (fun c_47 => ?_) (fun c_47 => ?_)
            · exact absurd c_47 (by decide)
            · skip
              refine lv_aload_n hx hb dX1_bestFor_50 rfl (lv_at hl 1 rfl) ?_
              refine lv_iload_n hx hb dX1_bestFor_51 rfl (lv_at hl 2 rfl) ?_
              refine lv_iload_n hx hb dX1_bestFor_52 rfl (lv_at hl 3 rfl) ?_
              refine lv_iload hx hb dX1_bestFor_53 (lv_at hl 6 rfl) ?_
              refine lv_aload_n hx hb dX1_bestFor_55 rfl (lv_at hl 4 rfl) ?_
              refine vp_callSi (W.runV (As := [.int (nI d), .int (nI q), .int (nI i), .ref (a 1)]) (rest := []) ⟨hx, hb, hml, hown, hts⟩ (c_X1_canBeGiven l dC dI a k S d q i (by omega) (by omega) (by omega) hI) (cwV 4 hts gX1_bestFor_X1_canBeGiven rfl rfl rfl (by decide +kernel) ⟨(Nat.le_of_ble_eq_true rfl), (Nat.le_of_ble_eq_true rfl)⟩) ⟨cR_blind, va_recv hK hP (ci := 1) (q0 := 3) rfl rfl, fun U hU hW => ⟨rfl, cR_of hK hP hU hW⟩⟩ rfl rfl hl.1 rfl (lv_room (Nat.le_of_ble_eq_true rfl)) dX1_bestFor_56 ⟨(Nat.le_of_ble_eq_true rfl), (Nat.le_of_ble_eq_true rfl)⟩) (fun r er => ?_)
              subst er
              refine lv_if_eq (tgt := 66) hx hb dX1_bestFor_59 (by decide) (fun c_59 => ?_) (fun c_59 => ?_)
              · have c_59 : (canG S d q i) = false := bI_0 c_59
                refine lv_iinc (v := nI (i + 1)) (lv' := [(5, .int (nI (i + 1))), (6, .int (nI 1)), (0, .ref (a 3)), (1, .int (nI d)), (2, .int (nI q)), (3, .ref (a 1)), (4, .int (nI b9))]) hx hb dX1_bestFor_66 hl (k := 6) rfl (nI_1 _) (by decide) rfl (fun ls hl => ?_)
                refine lv_goto (tgt := 6) hx hb dX1_bestFor_69 (by decide) ?_
                have hl : lv_has ls 7 [(5, .int (nI (i + 1))), (6, .int (nI 1)), (0, .ref (a 3)), (1, .int (nI d)), (2, .int (nI q)), (3, .ref (a 1)), (4, .int (oI (bD S d q (i + 1))))] := cb_loc hl (e := Value.int (oI (bD S d q (i + 1)))) 6 rfl (congrArg Value.int (show nI b9 = oI (bD S d q (i + 1)) from (by rw [bD, if_neg (fun z => by first | (rw [c_59] at z; exact absurd z.2 (by decide)) | (rw [eb9] at z; exact absurd (of_decide_eq_true z.1) (Int32.not_lt.mpr c_35)))]; first | done | (rw [eb9]; rfl))))
                exact ih_6 (i + 1) (by omega) (by omega) ls (lv_sub hl [2, 3, 4, 5, 6, 0] rfl)
              · have c_59 : (canG S d q i) = true := bI_n c_59
                refine lv_iload hx hb dX1_bestFor_62 (lv_at hl 6 rfl) ?_
                refine lv_istore (lv' := [(4, .int (nI i)), (6, .int (nI 1)), (0, .ref (a 3)), (1, .int (nI d)), (2, .int (nI q)), (3, .ref (a 1)), (5, .int (nI i))]) hx hb dX1_bestFor_64 hl (by decide) rfl (fun ls hl => ?_)
                refine lv_iinc (v := nI (i + 1)) (lv' := [(5, .int (nI (i + 1))), (4, .int (nI i)), (6, .int (nI 1)), (0, .ref (a 3)), (1, .int (nI d)), (2, .int (nI q)), (3, .ref (a 1))]) hx hb dX1_bestFor_66 hl (k := 6) rfl (nI_1 _) (by decide) rfl (fun ls hl => ?_)
                refine lv_goto (tgt := 6) hx hb dX1_bestFor_69 (by decide) ?_
                have hl : lv_has ls 7 [(5, .int (nI (i + 1))), (4, .int (oI (bD S d q (i + 1)))), (6, .int (nI 1)), (0, .ref (a 3)), (1, .int (nI d)), (2, .int (nI q)), (3, .ref (a 1))] := cb_loc hl (e := Value.int (oI (bD S d q (i + 1)))) 1 rfl (congrArg Value.int (show nI i = oI (bD S d q (i + 1)) from (by rw [bD, if_pos ⟨by rw [eb9]; first | rfl | exact decide_eq_true (Int32.not_le.mp c_35), c_59⟩]; first | done | rfl)))
                exact ih_6 (i + 1) (by omega) (by omega) ls (lv_sub hl [3, 4, 5, 6, 1, 0] rfl)
  have hl : lv_has ls 7 [(5, .int (nI 0)), (4, .int (oI (bD S d q 0))), (0, .ref (a 3)), (1, .int (nI d)), (2, .int (nI q)), (3, .ref (a 1))] := cb_loc hl (e := Value.int (oI (bD S d q 0))) 1 rfl (congrArg Value.int (show (-1) = oI (bD S d q 0) from rfl))
  exact L_6 (c_np S + 1) 0 (by omega) (by omega) ls (lv_sub hl [2, 3, 4, 5, 1, 0] rfl)
abbrev rm_X1_openOn : Room := { frames := 1, cells := 0, slots := 0, locals := 22 }
set_option maxHeartbeats 4000000 in
set_option maxRecDepth 100000 in
theorem c_X1_openOn (l : Launch) (dC : Nat → ClassId) (dI : Nat → Nat → Nat) (a : Nat → Nat) (k : Nat → ClassId) (S : cs_S) (d : Nat) (hd : d ≤ 60) : Met l yX1_openOn wsX1_openOn rm_X1_openOn (va_Pc [.ref (a 3), .int (nI d)] (cR dC dI (cb_w a k S) (cb_ty k))) (vp_Si (fun r => r = nI (fb_ct (opS S d) 5))) 0 0 (fun _ => False) := by
  refine Met.ofW (cc := cX1_openOn) (maxL := 4) (ret := (some .int)) (by decide) rfl ?_
  intro p e s m args below meth c s₁ B hml hv
  obtain ⟨rfl, hP, hK⟩ := hv
  have hx := B.exec
  have hb := B.bytes
  have hr := B.returns
  have hts := atoms_spec (ws := wsX1_openOn) B.pre
  have hown : s.vm.findClass RX1 = some m.cls := findClass_of_methodNamed B.named
  have hlocks := B.notSynchronized
  obtain ⟨Q, hQ⟩ : ∃ Q, Q = MQ below (vp_Si (fun r => r = nI (fb_ct (opS S d) 5))) ([.ref (a 3), .int (nI d)] : List Value).toArray s 0 0 (fun _ => False) := ⟨_, rfl⟩
  show W p l e rm_X1_openOn s m _ below meth c s.heap [] 0 0 (MQ below _ _ _ _ _ _) _
  rw [← hQ]
  have hl := lv_entry ([.ref (a 3), .int (nI d)]) (n := 4) (Nat.le_of_ble_eq_true rfl)
  rw [lg_entry_eq]
  generalize (lg_sl ([.ref (a 3), .int (nI d)]) ++ List.replicate (4 - (lg_sl ([.ref (a 3), .int (nI d)])).length) Slot.unset).toArray = ls at hl ⊢
  have hl : lv_has ls 4 [(0, .ref (a 3)), (1, .int (nI d))] := hl
  refine lv_iconst (v := nI 0) hx hb dX1_openOn_0 (by decide) ?_
  refine lv_istore_n (lv' := [(2, .int (nI 0)), (0, .ref (a 3)), (1, .int (nI d))]) hx hb dX1_openOn_1 rfl hl (by decide) rfl (fun ls hl => ?_)
  refine lv_iconst (v := nI 0) hx hb dX1_openOn_2 (by decide) ?_
  refine lv_istore_n (lv' := [(3, .int (nI 0)), (2, .int (nI 0)), (0, .ref (a 3)), (1, .int (nI d))]) hx hb dX1_openOn_3 rfl hl (by decide) rfl (fun ls hl => ?_)
  have L_4 : ∀ (n i : Nat), i ≤ 5 → 5 + 1 ≤ i + n → ∀ (ls : Array Slot), lv_has ls 4 [(0, .ref (a 3)), (1, .int (nI d)), (2, .int (nI (fb_ct (opS S d) i))), (3, .int (nI i))] → W p l e rm_X1_openOn s m ([.ref (a 3), .int (nI d)] : List Value).toArray below meth c s.heap [] 0 0 Q (F0 m 4 ls []) := by
    intro n
    induction n with
    | zero => intro i h1 h2; exact absurd h2 (by omega)
    | succ n ih_4 =>
      intro i hle_4 hfu_4 ls hl
      refine lv_iload_n hx hb dX1_openOn_4 rfl (lv_at hl 3 rfl) ?_
      refine lv_iconst (v := nI 5) hx hb dX1_openOn_5 (by decide) ?_
      refine lv_icmp_ge (tgt := 28) hx hb dX1_openOn_6 (by decide) (fun c_6 => ?_) (fun c_6 => ?_)
      · have c_6 : 5 ≤ i := cb_ge (by omega) (by omega) c_6
        refine lv_iload_n hx hb dX1_openOn_28 rfl (lv_at hl 2 rfl) ?_
        rw [hQ]
        exact W.iret (v := nI (fb_ct (opS S d) i)) hx hb hr (fun t9 ht9 hW9 => ⟨nI (fb_ct (opS S d) i), rfl, (by rw [show i = 5 by omega]), ht9⟩) (fun q h => absurd h List.not_mem_nil) dX1_openOn_29
      · have c_6 : i < 5 := cb_nge (by omega) (by omega) c_6
        refine lv_aload_n hx hb dX1_openOn_9 rfl (lv_at hl 0 rfl) ?_
        refine lv_iload_n hx hb dX1_openOn_10 rfl (lv_at hl 1 rfl) ?_
        refine lv_iload_n hx hb dX1_openOn_11 rfl (lv_at hl 3 rfl) ?_
        refine vp_callSi (W.runV (As := [.int (nI d), .int (nI i)]) (rest := []) ⟨hx, hb, hml, hown, hts⟩ (c_X1_holderOn l dC dI a k S (nI d) i (by omega)) (cwV 2 hts gX1_openOn_X1_holderOn rfl rfl rfl (by decide +kernel) ⟨(Nat.le_of_ble_eq_true rfl), (Nat.le_of_ble_eq_true rfl)⟩) ⟨cR_blind, va_recv hK hP (ci := 1) (q0 := 3) rfl rfl, fun U hU hW => ⟨rfl, cR_of hK hP hU hW⟩⟩ rfl rfl hl.1 rfl (lv_room (Nat.le_of_ble_eq_true rfl)) dX1_openOn_12 ⟨(Nat.le_of_ble_eq_true rfl), (Nat.le_of_ble_eq_true rfl)⟩) (fun r er => ?_)
        subst er
        refine cb_topi (z := c_hld S (d * 5 + i)) (hol_nI hd) ?_
        refine lv_iconst (v := (-1)) hx hb dX1_openOn_15 (by decide) ?_
        refine lv_icmp_ne (tgt := 22) hx hb dX1_openOn_16 (by decide) (fun c_16 => ?_) (fun c_16 => ?_)
        · skip
          refine lv_iinc (v := nI (i + 1)) (lv' := [(3, .int (nI (i + 1))), (0, .ref (a 3)), (1, .int (nI d)), (2, .int (nI (fb_ct (opS S d) i)))]) hx hb dX1_openOn_22 hl (k := 3) rfl (nI_1 _) (by decide) rfl (fun ls hl => ?_)
          refine lv_goto (tgt := 4) hx hb dX1_openOn_25 (by decide) ?_
          have hl : lv_has ls 4 [(3, .int (nI (i + 1))), (0, .ref (a 3)), (1, .int (nI d)), (2, .int (nI (fb_ct (opS S d) (i + 1))))] := cb_loc hl (e := Value.int (nI (fb_ct (opS S d) (i + 1)))) 3 rfl (congrArg Value.int (show nI (fb_ct (opS S d) i) = nI (fb_ct (opS S d) (i + 1)) from (by rw [fb_ct_succ]; simp [opS, c_16])))
          exact ih_4 (i + 1) (by omega) (by omega) ls (lv_sub hl [1, 2, 3, 0] rfl)
        · skip
          refine lv_iinc (v := nI ((fb_ct (opS S d) i) + 1)) (lv' := [(2, .int (nI ((fb_ct (opS S d) i) + 1))), (0, .ref (a 3)), (1, .int (nI d)), (3, .int (nI i))]) hx hb dX1_openOn_19 hl (k := 2) rfl (nI_1 _) (by decide) rfl (fun ls hl => ?_)
          refine lv_iinc (v := nI (i + 1)) (lv' := [(3, .int (nI (i + 1))), (2, .int (nI ((fb_ct (opS S d) i) + 1))), (0, .ref (a 3)), (1, .int (nI d))]) hx hb dX1_openOn_22 hl (k := 3) rfl (nI_1 _) (by decide) rfl (fun ls hl => ?_)
          refine lv_goto (tgt := 4) hx hb dX1_openOn_25 (by decide) ?_
          have hl : lv_has ls 4 [(3, .int (nI (i + 1))), (2, .int (nI (fb_ct (opS S d) (i + 1)))), (0, .ref (a 3)), (1, .int (nI d))] := cb_loc hl (e := Value.int (nI (fb_ct (opS S d) (i + 1)))) 1 rfl (congrArg Value.int (show nI ((fb_ct (opS S d) i) + 1) = nI (fb_ct (opS S d) (i + 1)) from (by rw [fb_ct_succ]; simp [opS, c_16])))
          exact ih_4 (i + 1) (by omega) (by omega) ls (lv_sub hl [2, 3, 1, 0] rfl)
  have hl : lv_has ls 4 [(3, .int (nI 0)), (2, .int (nI (fb_ct (opS S d) 0))), (0, .ref (a 3)), (1, .int (nI d))] := cb_loc hl (e := Value.int (nI (fb_ct (opS S d) 0))) 1 rfl (congrArg Value.int (show nI 0 = nI (fb_ct (opS S d) 0) from rfl))
  exact L_4 (5 + 1) 0 (by omega) (by omega) ls (lv_sub hl [2, 3, 1, 0] rfl)
abbrev rm_X2_needOf : Room := { frames := 0, cells := 0, slots := 0, locals := 0 }
set_option maxHeartbeats 4000000 in
set_option maxRecDepth 100000 in
theorem c_X2_needOf (l : Launch) (dC : Nat → ClassId) (dI : Nat → Nat → Nat) (a : Nat → Nat) (k : Nat → ClassId) (S : cs_S) (mm : Nat) (f : Nat) (hm : mm < 10) (hf : f < 12) : Met l yX2_needOf wsX2_needOf rm_X2_needOf (va_Pc [.ref (a 4), .int (nI mm), .int (nI f)] (cR dC dI (cb_w a k S) (cb_ty k))) (vp_Si (fun r => r = c_ned S (mm * 12 + f))) 0 0 (fun _ => False) := by
  refine Met.ofW (cc := cX2_needOf) (maxL := 3) (ret := (some .int)) (by decide) rfl ?_
  intro p e s m args below meth c s₁ B hml hv
  obtain ⟨rfl, hP, hK⟩ := hv
  have hx := B.exec
  have hb := B.bytes
  have hr := B.returns
  have hts := atoms_spec (ws := wsX2_needOf) B.pre
  have hown : s.vm.findClass RX2 = some m.cls := findClass_of_methodNamed B.named
  have hlocks := B.notSynchronized
  obtain ⟨Q, hQ⟩ : ∃ Q, Q = MQ below (vp_Si (fun r => r = c_ned S (mm * 12 + f))) ([.ref (a 4), .int (nI mm), .int (nI f)] : List Value).toArray s 0 0 (fun _ => False) := ⟨_, rfl⟩
  show W p l e rm_X2_needOf s m _ below meth c s.heap [] 0 0 (MQ below _ _ _ _ _ _) _
  rw [← hQ]
  have i_X2 : ∀ w ∈ wsX20, w ∈ wsX2_needOf := fun w h => List.mem_cons_of_mem _ (List.mem_append_right _ h)
  have f_0 := hts (.fieldLink RX2 15 "CampBook$Kitchen" "needs" "[I") (by decide +kernel)
  have hl := lv_entry ([.ref (a 4), .int (nI mm), .int (nI f)]) (n := 3) (Nat.le_of_ble_eq_true rfl)
  rw [lg_entry_eq]
  generalize (lg_sl ([.ref (a 4), .int (nI mm), .int (nI f)]) ++ List.replicate (3 - (lg_sl ([.ref (a 4), .int (nI mm), .int (nI f)])).length) Slot.unset).toArray = ls at hl ⊢
  have hl : lv_has ls 3 [(0, .ref (a 4)), (1, .int (nI mm)), (2, .int (nI f))] := hl
  refine lv_aload_n hx hb dX2_needOf_0 rfl (lv_at hl 0 rfl) ?_
  refine va_get (D := (dC, dI)) (ci := 2) (v := .ref (a 17)) (C := RX2) (T := TX2) (N := 6) hx hb hts i_X2 hown hK hP 4 rfl rfl 5 (by decide) f_0 (fun _ h9 => h9) rfl dX2_needOf_1 ?_
  refine lv_iload_n hx hb dX2_needOf_4 rfl (lv_at hl 1 rfl) ?_
  refine lv_bipush (v := nI 12) hx hb dX2_needOf_5 (by decide) ?_
  refine lv_imul hx hb dX2_needOf_7 ?_
  refine cb_topi (pk_mul _ _) ?_
  refine lv_iload_n hx hb dX2_needOf_8 rfl (lv_at hl 2 rfl) ?_
  refine lv_iadd hx hb dX2_needOf_9 ?_
  refine cb_topi (nI_add _ _) ?_
  refine cb_iald hx hb hK hP 17 11 (f := c_ned S) rfl rfl (j := (mm * 12) + f) (by omega) (Nat.le_of_ble_eq_true rfl) dX2_needOf_10 ?_
  rw [hQ]
  exact W.iret (v := c_ned S ((mm * 12) + f)) hx hb hr (fun t9 ht9 hW9 => ⟨c_ned S ((mm * 12) + f), rfl, rfl, ht9⟩) (fun q h => absurd h List.not_mem_nil) dX2_needOf_11
abbrev rm_X2_foodsOf : Room := { frames := 1, cells := 0, slots := 0, locals := 22 }
set_option maxHeartbeats 4000000 in
set_option maxRecDepth 100000 in
theorem c_X2_foodsOf (l : Launch) (dC : Nat → ClassId) (dI : Nat → Nat → Nat) (a : Nat → Nat) (k : Nat → ClassId) (S : cs_S) (mm : Nat) (hm : mm < 10) (hI : Inv S) : Met l yX2_foodsOf wsX2_foodsOf rm_X2_foodsOf (va_Pc [.ref (a 4), .int (nI mm)] (cR dC dI (cb_w a k S) (cb_ty k))) (vp_Si (fun r => r = nI (bs (inM S mm) (c_nf S)))) 0 0 (fun _ => False) := by
  refine Met.ofW (cc := cX2_foodsOf) (maxL := 4) (ret := (some .int)) (by decide) rfl ?_
  intro p e s m args below meth c s₁ B hml hv
  obtain ⟨rfl, hP, hK⟩ := hv
  have hx := B.exec
  have hb := B.bytes
  have hr := B.returns
  have hts := atoms_spec (ws := wsX2_foodsOf) B.pre
  have hown : s.vm.findClass RX2 = some m.cls := findClass_of_methodNamed B.named
  have hlocks := B.notSynchronized
  obtain ⟨Q, hQ⟩ : ∃ Q, Q = MQ below (vp_Si (fun r => r = nI (bs (inM S mm) (c_nf S)))) ([.ref (a 4), .int (nI mm)] : List Value).toArray s 0 0 (fun _ => False) := ⟨_, rfl⟩
  show W p l e rm_X2_foodsOf s m _ below meth c s.heap [] 0 0 (MQ below _ _ _ _ _ _) _
  rw [← hQ]
  have i_X2 : ∀ w ∈ wsX20, w ∈ wsX2_foodsOf := fun w h => List.mem_cons_of_mem _ (List.mem_append_right _ h)
  obtain ⟨⟨hday, hnp, hns, hnt, hnf, hnm, hnb, hme⟩, hpat, hage, hten, hcnt, hplc, heat, hned, hhld, hbad, hbad0, hbag⟩ := id hI
  have f_0 := hts (.fieldLink RX2 18 "CampBook$Kitchen" "foods" "I") (by decide +kernel)
  have hl := lv_entry ([.ref (a 4), .int (nI mm)]) (n := 4) (Nat.le_of_ble_eq_true rfl)
  rw [lg_entry_eq]
  generalize (lg_sl ([.ref (a 4), .int (nI mm)]) ++ List.replicate (4 - (lg_sl ([.ref (a 4), .int (nI mm)])).length) Slot.unset).toArray = ls at hl ⊢
  have hl : lv_has ls 4 [(0, .ref (a 4)), (1, .int (nI mm))] := hl
  refine lv_iconst (v := nI 0) hx hb dX2_foodsOf_0 (by decide) ?_
  refine lv_istore_n (lv' := [(2, .int (nI 0)), (0, .ref (a 4)), (1, .int (nI mm))]) hx hb dX2_foodsOf_1 rfl hl (by decide) rfl (fun ls hl => ?_)
  refine lv_iconst (v := nI 0) hx hb dX2_foodsOf_2 (by decide) ?_
  refine lv_istore_n (lv' := [(3, .int (nI 0)), (2, .int (nI 0)), (0, .ref (a 4)), (1, .int (nI mm))]) hx hb dX2_foodsOf_3 rfl hl (by decide) rfl (fun ls hl => ?_)
  have L_4 : ∀ (n i : Nat), i ≤ c_nf S → c_nf S + 1 ≤ i + n → ∀ (ls : Array Slot), lv_has ls 4 [(0, .ref (a 4)), (1, .int (nI mm)), (2, .int (nI (bs (inM S mm) i))), (3, .int (nI i))] → W p l e rm_X2_foodsOf s m ([.ref (a 4), .int (nI mm)] : List Value).toArray below meth c s.heap [] 0 0 Q (F0 m 4 ls []) := by
    intro n
    induction n with
    | zero => intro i h1 h2; exact absurd h2 (by omega)
    | succ n ih_4 =>
      intro i hle_4 hfu_4 ls hl
      refine lv_iload_n hx hb dX2_foodsOf_4 rfl (lv_at hl 3 rfl) ?_
      refine lv_aload_n hx hb dX2_foodsOf_5 rfl (lv_at hl 0 rfl) ?_
      refine va_get (D := (dC, dI)) (ci := 2) (v := .int (nI (c_nf S))) (C := RX2) (T := TX2) (N := 6) hx hb hts i_X2 hown hK hP 4 rfl rfl 0 (by decide) f_0 (fun _ h9 => h9) rfl dX2_foodsOf_6 ?_
      refine lv_icmp_ge (tgt := 33) hx hb dX2_foodsOf_9 (by decide) (fun c_9 => ?_) (fun c_9 => ?_)
      · have c_9 : (c_nf S) ≤ i := cb_ge (by omega) (by omega) c_9
        refine lv_iload_n hx hb dX2_foodsOf_33 rfl (lv_at hl 2 rfl) ?_
        rw [hQ]
        exact W.iret (v := nI (bs (inM S mm) i)) hx hb hr (fun t9 ht9 hW9 => ⟨nI (bs (inM S mm) i), rfl, (by rw [show i = c_nf S by omega]), ht9⟩) (fun q h => absurd h List.not_mem_nil) dX2_foodsOf_34
      · have c_9 : i < (c_nf S) := cb_nge (by omega) (by omega) c_9
        refine lv_aload_n hx hb dX2_foodsOf_12 rfl (lv_at hl 0 rfl) ?_
        refine lv_iload_n hx hb dX2_foodsOf_13 rfl (lv_at hl 1 rfl) ?_
        refine lv_iload_n hx hb dX2_foodsOf_14 rfl (lv_at hl 3 rfl) ?_
        refine vp_callSi (W.runV (As := [.int (nI mm), .int (nI i)]) (rest := []) ⟨hx, hb, hml, hown, hts⟩ (c_X2_needOf l dC dI a k S mm i (by omega) (by omega)) (cwV 2 hts gX2_foodsOf_X2_needOf rfl rfl rfl (by decide +kernel) ⟨(Nat.le_of_ble_eq_true rfl), (Nat.le_of_ble_eq_true rfl)⟩) ⟨cR_blind, va_recv hK hP (ci := 2) (q0 := 4) rfl rfl, fun U hU hW => ⟨rfl, cR_of hK hP hU hW⟩⟩ rfl rfl hl.1 rfl (lv_room (Nat.le_of_ble_eq_true rfl)) dX2_foodsOf_15 ⟨(Nat.le_of_ble_eq_true rfl), (Nat.le_of_ble_eq_true rfl)⟩) (fun r er => ?_)
        subst er
        refine lv_if_le (tgt := 27) hx hb dX2_foodsOf_18 (by decide) (fun c_18 => ?_) (fun c_18 => ?_)
        · skip
          refine lv_iinc (v := nI (i + 1)) (lv' := [(3, .int (nI (i + 1))), (0, .ref (a 4)), (1, .int (nI mm)), (2, .int (nI (bs (inM S mm) i)))]) hx hb dX2_foodsOf_27 hl (k := 3) rfl (nI_1 _) (by decide) rfl (fun ls hl => ?_)
          refine lv_goto (tgt := 4) hx hb dX2_foodsOf_30 (by decide) ?_
          have hl : lv_has ls 4 [(3, .int (nI (i + 1))), (0, .ref (a 4)), (1, .int (nI mm)), (2, .int (nI (bs (inM S mm) (i + 1))))] := cb_loc hl (e := Value.int (nI (bs (inM S mm) (i + 1)))) 3 rfl (congrArg Value.int (show nI (bs (inM S mm) i) = nI (bs (inM S mm) (i + 1)) from (bsI_f (decide_eq_false (Int32.not_lt.mpr c_18)))))
          exact ih_4 (i + 1) (by omega) (by omega) ls (lv_sub hl [1, 2, 3, 0] rfl)
        · skip
          refine lv_iload_n hx hb dX2_foodsOf_21 rfl (lv_at hl 2 rfl) ?_
          refine lv_iconst (v := nI 1) hx hb dX2_foodsOf_22 (by decide) ?_
          refine lv_iload_n hx hb dX2_foodsOf_23 rfl (lv_at hl 3 rfl) ?_
          refine lv_ishl hx hb dX2_foodsOf_24 ?_
          refine cb_topi (z := nI (2 ^ i)) (cb_ishl (by omega)) ?_
          refine lv_ior hx hb dX2_foodsOf_25 ?_
          refine lv_istore_n (lv' := [(2, .int ((nI (bs (inM S mm) i)) ||| (nI (2 ^ i)))), (0, .ref (a 4)), (1, .int (nI mm)), (3, .int (nI i))]) hx hb dX2_foodsOf_26 rfl hl (by decide) rfl (fun ls hl => ?_)
          refine lv_iinc (v := nI (i + 1)) (lv' := [(3, .int (nI (i + 1))), (2, .int ((nI (bs (inM S mm) i)) ||| (nI (2 ^ i)))), (0, .ref (a 4)), (1, .int (nI mm))]) hx hb dX2_foodsOf_27 hl (k := 3) rfl (nI_1 _) (by decide) rfl (fun ls hl => ?_)
          refine lv_goto (tgt := 4) hx hb dX2_foodsOf_30 (by decide) ?_
          have hl : lv_has ls 4 [(3, .int (nI (i + 1))), (2, .int (nI (bs (inM S mm) (i + 1)))), (0, .ref (a 4)), (1, .int (nI mm))] := cb_loc hl (e := Value.int (nI (bs (inM S mm) (i + 1)))) 1 rfl (congrArg Value.int (show (nI (bs (inM S mm) i)) ||| (nI (2 ^ i)) = nI (bs (inM S mm) (i + 1)) from (bsI_t (decide_eq_true (Int32.not_le.mp c_18)))))
          exact ih_4 (i + 1) (by omega) (by omega) ls (lv_sub hl [2, 3, 1, 0] rfl)
  have hl : lv_has ls 4 [(3, .int (nI 0)), (2, .int (nI (bs (inM S mm) 0))), (0, .ref (a 4)), (1, .int (nI mm))] := cb_loc hl (e := Value.int (nI (bs (inM S mm) 0))) 1 rfl (congrArg Value.int (show nI 0 = nI (bs (inM S mm) 0) from rfl))
  exact L_4 (c_nf S + 1) 0 (by omega) (by omega) ls (lv_sub hl [2, 3, 1, 0] rfl)
abbrev rm_X2_eatersOf : Room := { frames := 2, cells := 0, slots := 0, locals := 45 }
set_option maxHeartbeats 4000000 in
set_option maxRecDepth 100000 in
theorem c_X2_eatersOf (l : Launch) (dC : Nat → ClassId) (dI : Nat → Nat → Nat) (a : Nat → Nat) (k : Nat → ClassId) (S : cs_S) (mm : Nat) (hm : mm < 10) (hI : Inv S) : Met l yX2_eatersOf wsX2_eatersOf rm_X2_eatersOf (va_Pc [.ref (a 4), .int (nI mm), .ref (a 1)] (cR dC dI (cb_w a k S) (cb_ty k))) (vp_Sl (fun r => r = lN (bs (canE S mm) (c_ns S)))) 0 0 (fun _ => False) := by
  refine Met.ofW (cc := cX2_eatersOf) (maxL := 7) (ret := (some .long)) (by decide) rfl ?_
  intro p e s m args below meth c s₁ B hml hv
  obtain ⟨rfl, hP, hK⟩ := hv
  have hx := B.exec
  have hb := B.bytes
  have hr := B.returns
  have hts := atoms_spec (ws := wsX2_eatersOf) B.pre
  have hown : s.vm.findClass RX2 = some m.cls := findClass_of_methodNamed B.named
  have hlocks := B.notSynchronized
  obtain ⟨Q, hQ⟩ : ∃ Q, Q = MQ below (vp_Sl (fun r => r = lN (bs (canE S mm) (c_ns S)))) ([.ref (a 4), .int (nI mm), .ref (a 1)] : List Value).toArray s 0 0 (fun _ => False) := ⟨_, rfl⟩
  show W p l e rm_X2_eatersOf s m _ below meth c s.heap [] 0 0 (MQ below _ _ _ _ _ _) _
  rw [← hQ]
  have i_X3 : ∀ w ∈ wsX30, w ∈ wsX2_eatersOf := fun w h => List.mem_cons_of_mem _ (List.mem_append_left _ (List.mem_append_right _ h))
  obtain ⟨⟨hday, hnp, hns, hnt, hnf, hnm, hnb, hme⟩, hpat, hage, hten, hcnt, hplc, heat, hned, hhld, hbad, hbad0, hbag⟩ := id hI
  have f_0 := hts (.fieldLink RX2 30 "CampBook$People" "scouts" "I") (by decide +kernel)
  have f_1 := hts (.fieldLink RX2 35 "CampBook$People" "refused" "[I") (by decide +kernel)
  have hl := lv_entry ([.ref (a 4), .int (nI mm), .ref (a 1)]) (n := 7) (Nat.le_of_ble_eq_true rfl)
  rw [lg_entry_eq]
  generalize (lg_sl ([.ref (a 4), .int (nI mm), .ref (a 1)]) ++ List.replicate (7 - (lg_sl ([.ref (a 4), .int (nI mm), .ref (a 1)])).length) Slot.unset).toArray = ls at hl ⊢
  have hl : lv_has ls 7 [(0, .ref (a 4)), (1, .int (nI mm)), (2, .ref (a 1))] := hl
  refine lv_aload_n hx hb dX2_eatersOf_0 rfl (lv_at hl 0 rfl) ?_
  refine lv_iload_n hx hb dX2_eatersOf_1 rfl (lv_at hl 1 rfl) ?_
  refine vp_callSi (W.runV (As := [.int (nI mm)]) (rest := []) ⟨hx, hb, hml, hown, hts⟩ (c_X2_foodsOf l dC dI a k S mm (by omega) hI) (cwV 1 hts gX2_eatersOf_X2_foodsOf rfl rfl rfl (by decide +kernel) ⟨(Nat.le_of_ble_eq_true rfl), (Nat.le_of_ble_eq_true rfl)⟩) ⟨cR_blind, va_recv hK hP (ci := 2) (q0 := 4) rfl rfl, fun U hU hW => ⟨rfl, cR_of hK hP hU hW⟩⟩ rfl rfl hl.1 rfl (lv_room (Nat.le_of_ble_eq_true rfl)) dX2_eatersOf_2 ⟨(Nat.le_of_ble_eq_true rfl), (Nat.le_of_ble_eq_true rfl)⟩) (fun r er => ?_)
  subst er
  refine lv_istore_n (lv' := [(3, .int (nI (bs (inM S mm) (c_nf S)))), (0, .ref (a 4)), (1, .int (nI mm)), (2, .ref (a 1))]) hx hb dX2_eatersOf_5 rfl hl (by decide) rfl (fun ls hl => ?_)
  refine lv_lconst (v := lN 0) hx hb dX2_eatersOf_6 rfl ?_
  refine lv_lstore (lv' := [(4, .long (lN 0)), (3, .int (nI (bs (inM S mm) (c_nf S)))), (0, .ref (a 4)), (1, .int (nI mm)), (2, .ref (a 1))]) hx hb dX2_eatersOf_7 hl (by decide) rfl (fun ls hl => ?_)
  refine lv_iconst (v := nI 0) hx hb dX2_eatersOf_9 (by decide) ?_
  refine lv_istore (lv' := [(6, .int (nI 0)), (4, .long (lN 0)), (3, .int (nI (bs (inM S mm) (c_nf S)))), (0, .ref (a 4)), (1, .int (nI mm)), (2, .ref (a 1))]) hx hb dX2_eatersOf_10 hl (by decide) rfl (fun ls hl => ?_)
  have L_12 : ∀ (n i : Nat), i ≤ c_ns S → c_ns S + 1 ≤ i + n → ∀ (ls : Array Slot), lv_has ls 7 [(0, .ref (a 4)), (1, .int (nI mm)), (2, .ref (a 1)), (3, .int (nI (bs (inM S mm) (c_nf S)))), (4, .long (lN (bs (canE S mm) i))), (6, .int (nI i))] → W p l e rm_X2_eatersOf s m ([.ref (a 4), .int (nI mm), .ref (a 1)] : List Value).toArray below meth c s.heap [] 0 0 Q (F0 m 12 ls []) := by
    intro n
    induction n with
    | zero => intro i h1 h2; exact absurd h2 (by omega)
    | succ n ih_12 =>
      intro i hle_12 hfu_12 ls hl
      refine lv_iload hx hb dX2_eatersOf_12 (lv_at hl 5 rfl) ?_
      refine lv_aload_n hx hb dX2_eatersOf_14 rfl (lv_at hl 2 rfl) ?_
      refine va_get (D := (dC, dI)) (ci := 3) (v := .int (nI (c_ns S))) (C := RX3) (T := TX3) (N := 8) hx hb hts i_X3 hown hK hP 1 rfl rfl 1 (by decide) f_0 (fun _ h9 => h9) rfl dX2_eatersOf_15 ?_
      refine lv_icmp_ge (tgt := 48) hx hb dX2_eatersOf_18 (by decide) (fun c_18 => ?_) (fun c_18 => ?_)
      · have c_18 : (c_ns S) ≤ i := cb_ge (by omega) (by omega) c_18
        refine lv_lload hx hb dX2_eatersOf_48 (lv_at hl 4 rfl) ?_
        rw [hQ]
        exact W.lret (v := lN (bs (canE S mm) i)) hx hb hr (fun t9 ht9 hW9 => ⟨lN (bs (canE S mm) i), rfl, (by rw [show i = c_ns S by omega]), ht9⟩) (fun q h => absurd h List.not_mem_nil) dX2_eatersOf_50
      · have c_18 : i < (c_ns S) := cb_nge (by omega) (by omega) c_18
        refine lv_aload_n hx hb dX2_eatersOf_21 rfl (lv_at hl 2 rfl) ?_
        refine va_get (D := (dC, dI)) (ci := 3) (v := .ref (a 9)) (C := RX3) (T := TX3) (N := 8) hx hb hts i_X3 hown hK hP 1 rfl rfl 5 (by decide) f_1 (fun _ h9 => h9) rfl dX2_eatersOf_22 ?_
        refine lv_iload hx hb dX2_eatersOf_25 (lv_at hl 5 rfl) ?_
        refine cb_iald hx hb hK hP 9 3 (f := c_ref S) rfl rfl (j := i) (by omega) (Nat.le_of_ble_eq_true rfl) dX2_eatersOf_27 ?_
        refine lv_iload_n hx hb dX2_eatersOf_28 rfl (lv_at hl 3 rfl) ?_
        refine lv_iand hx hb dX2_eatersOf_29 ?_
        refine lv_if_ne (tgt := 42) hx hb dX2_eatersOf_30 (by decide) (fun c_30 => ?_) (fun c_30 => ?_)
        · skip
          refine lv_iinc (v := nI (i + 1)) (lv' := [(6, .int (nI (i + 1))), (0, .ref (a 4)), (1, .int (nI mm)), (2, .ref (a 1)), (3, .int (nI (bs (inM S mm) (c_nf S)))), (4, .long (lN (bs (canE S mm) i)))]) hx hb dX2_eatersOf_42 hl (k := 5) rfl (nI_1 _) (by decide) rfl (fun ls hl => ?_)
          refine lv_goto (tgt := 12) hx hb dX2_eatersOf_45 (by decide) ?_
          have hl : lv_has ls 7 [(6, .int (nI (i + 1))), (0, .ref (a 4)), (1, .int (nI mm)), (2, .ref (a 1)), (3, .int (nI (bs (inM S mm) (c_nf S)))), (4, .long (lN (bs (canE S mm) (i + 1))))] := cb_loc hl (e := Value.long (lN (bs (canE S mm) (i + 1)))) 5 rfl (congrArg Value.long (show lN (bs (canE S mm) i) = lN (bs (canE S mm) (i + 1)) from (bs_f (by cases hz : canE S mm i with | false => rfl | true => exact absurd ((and0_iff (by omega)).mpr hz) c_30))))
          exact ih_12 (i + 1) (by omega) (by omega) ls (lv_sub hl [1, 2, 3, 4, 5, 0] rfl)
        · skip
          refine lv_lload hx hb dX2_eatersOf_33 (lv_at hl 4 rfl) ?_
          refine lv_lconst (v := lN 1) hx hb dX2_eatersOf_35 rfl ?_
          refine lv_iload hx hb dX2_eatersOf_36 (lv_at hl 5 rfl) ?_
          refine lv_lshl hx hb dX2_eatersOf_38 rfl ?_
          refine cb_topl (cb_shl (k := i) (by omega)) ?_
          refine lv_lor hx hb dX2_eatersOf_39 ?_
          refine lv_lstore (lv' := [(4, .long ((lN (bs (canE S mm) i)) ||| (lN (2 ^ i)))), (0, .ref (a 4)), (1, .int (nI mm)), (2, .ref (a 1)), (3, .int (nI (bs (inM S mm) (c_nf S)))), (6, .int (nI i))]) hx hb dX2_eatersOf_40 hl (by decide) rfl (fun ls hl => ?_)
          refine lv_iinc (v := nI (i + 1)) (lv' := [(6, .int (nI (i + 1))), (4, .long ((lN (bs (canE S mm) i)) ||| (lN (2 ^ i)))), (0, .ref (a 4)), (1, .int (nI mm)), (2, .ref (a 1)), (3, .int (nI (bs (inM S mm) (c_nf S))))]) hx hb dX2_eatersOf_42 hl (k := 5) rfl (nI_1 _) (by decide) rfl (fun ls hl => ?_)
          refine lv_goto (tgt := 12) hx hb dX2_eatersOf_45 (by decide) ?_
          have hl : lv_has ls 7 [(6, .int (nI (i + 1))), (4, .long (lN (bs (canE S mm) (i + 1)))), (0, .ref (a 4)), (1, .int (nI mm)), (2, .ref (a 1)), (3, .int (nI (bs (inM S mm) (c_nf S))))] := cb_loc hl (e := Value.long (lN (bs (canE S mm) (i + 1)))) 1 rfl (congrArg Value.long (show (lN (bs (canE S mm) i)) ||| (lN (2 ^ i)) = lN (bs (canE S mm) (i + 1)) from (bs_t ((and0_iff (by omega)).mp c_30))))
          exact ih_12 (i + 1) (by omega) (by omega) ls (lv_sub hl [2, 3, 4, 5, 1, 0] rfl)
  have hl : lv_has ls 7 [(6, .int (nI 0)), (4, .long (lN (bs (canE S mm) 0))), (3, .int (nI (bs (inM S mm) (c_nf S)))), (0, .ref (a 4)), (1, .int (nI mm)), (2, .ref (a 1))] := cb_loc hl (e := Value.long (lN (bs (canE S mm) 0))) 1 rfl (congrArg Value.long (show lN 0 = lN (bs (canE S mm) 0) from rfl))
  exact L_12 (c_ns S + 1) 0 (by omega) (by omega) ls (lv_sub hl [3, 4, 5, 2, 1, 0] rfl)
abbrev rm_X2_isStocked : Room := { frames := 1, cells := 0, slots := 0, locals := 22 }
set_option maxHeartbeats 4000000 in
set_option maxRecDepth 100000 in
theorem c_X2_isStocked (l : Launch) (dC : Nat → ClassId) (dI : Nat → Nat → Nat) (a : Nat → Nat) (k : Nat → ClassId) (S : cs_S) (mm : Nat) (e9 : Nat) (hm : mm < 10) (hI : Inv S) : Met l yX2_isStocked wsX2_isStocked rm_X2_isStocked (va_Pc [.ref (a 4), .int (nI mm), .int (nI e9)] (cR dC dI (cb_w a k S) (cb_ty k))) (vp_Si (fun r => r = bI (al (stkE S mm e9) (c_nf S)))) 0 0 (fun _ => False) := by
  refine Met.ofW (cc := cX2_isStocked) (maxL := 4) (ret := (some .boolean)) (by decide) rfl ?_
  intro p e s m args below meth c s₁ B hml hv
  obtain ⟨rfl, hP, hK⟩ := hv
  have hx := B.exec
  have hb := B.bytes
  have hr := B.returns
  have hts := atoms_spec (ws := wsX2_isStocked) B.pre
  have hown : s.vm.findClass RX2 = some m.cls := findClass_of_methodNamed B.named
  have hlocks := B.notSynchronized
  obtain ⟨Q, hQ⟩ : ∃ Q, Q = MQ below (vp_Si (fun r => r = bI (al (stkE S mm e9) (c_nf S)))) ([.ref (a 4), .int (nI mm), .int (nI e9)] : List Value).toArray s 0 0 (fun _ => False) := ⟨_, rfl⟩
  show W p l e rm_X2_isStocked s m _ below meth c s.heap [] 0 0 (MQ below _ _ _ _ _ _) _
  rw [← hQ]
  have i_X2 : ∀ w ∈ wsX20, w ∈ wsX2_isStocked := fun w h => List.mem_cons_of_mem _ (List.mem_append_right _ h)
  obtain ⟨⟨hday, hnp, hns, hnt, hnf, hnm, hnb, hme⟩, hpat, hage, hten, hcnt, hplc, heat, hned, hhld, hbad, hbad0, hbag⟩ := id hI
  have f_0 := hts (.fieldLink RX2 18 "CampBook$Kitchen" "foods" "I") (by decide +kernel)
  have f_1 := hts (.fieldLink RX2 9 "CampBook$Kitchen" "stores" "[I") (by decide +kernel)
  have hl := lv_entry ([.ref (a 4), .int (nI mm), .int (nI e9)]) (n := 4) (Nat.le_of_ble_eq_true rfl)
  rw [lg_entry_eq]
  generalize (lg_sl ([.ref (a 4), .int (nI mm), .int (nI e9)]) ++ List.replicate (4 - (lg_sl ([.ref (a 4), .int (nI mm), .int (nI e9)])).length) Slot.unset).toArray = ls at hl ⊢
  have hl : lv_has ls 4 [(0, .ref (a 4)), (1, .int (nI mm)), (2, .int (nI e9))] := hl
  refine lv_iconst (v := nI 0) hx hb dX2_isStocked_0 (by decide) ?_
  refine lv_istore_n (lv' := [(3, .int (nI 0)), (0, .ref (a 4)), (1, .int (nI mm)), (2, .int (nI e9))]) hx hb dX2_isStocked_1 rfl hl (by decide) rfl (fun ls hl => ?_)
  have L_2 : ∀ (n i : Nat), i ≤ c_nf S → c_nf S + 1 ≤ i + n → al (stkE S mm e9) i = true → ∀ (ls : Array Slot), lv_has ls 4 [(0, .ref (a 4)), (1, .int (nI mm)), (2, .int (nI e9)), (3, .int (nI i))] → W p l e rm_X2_isStocked s m ([.ref (a 4), .int (nI mm), .int (nI e9)] : List Value).toArray below meth c s.heap [] 0 0 Q (F0 m 2 ls []) := by
    intro n
    induction n with
    | zero => intro i h1 h2; exact absurd h2 (by omega)
    | succ n ih_2 =>
      intro i hle_2 hfu_2 hno ls hl
      refine lv_iload_n hx hb dX2_isStocked_2 rfl (lv_at hl 3 rfl) ?_
      refine lv_aload_n hx hb dX2_isStocked_3 rfl (lv_at hl 0 rfl) ?_
      refine va_get (D := (dC, dI)) (ci := 2) (v := .int (nI (c_nf S))) (C := RX2) (T := TX2) (N := 6) hx hb hts i_X2 hown hK hP 4 rfl rfl 0 (by decide) f_0 (fun _ h9 => h9) rfl dX2_isStocked_4 ?_
      refine lv_icmp_ge (tgt := 35) hx hb dX2_isStocked_7 (by decide) (fun c_7 => ?_) (fun c_7 => ?_)
      · have c_7 : (c_nf S) ≤ i := cb_ge (by omega) (by omega) c_7
        refine lv_iconst (v := nI 1) hx hb dX2_isStocked_35 (by decide) ?_
        rw [hQ]
        exact W.zret (v := nI 1) hx hb hr rfl (fun t9 ht9 hW9 => ⟨nI 1, rfl, (bI_eq1 (by rw [show c_nf S = i by omega]; exact hno)), ht9⟩) (fun q h => absurd h List.not_mem_nil) dX2_isStocked_36
      · have c_7 : i < (c_nf S) := cb_nge (by omega) (by omega) c_7
        refine lv_aload_n hx hb dX2_isStocked_10 rfl (lv_at hl 0 rfl) ?_
        refine lv_iload_n hx hb dX2_isStocked_11 rfl (lv_at hl 1 rfl) ?_
        refine lv_iload_n hx hb dX2_isStocked_12 rfl (lv_at hl 3 rfl) ?_
        refine vp_callSi (W.runV (As := [.int (nI mm), .int (nI i)]) (rest := []) ⟨hx, hb, hml, hown, hts⟩ (c_X2_needOf l dC dI a k S mm i (by omega) (by omega)) (cwV 2 hts gX2_isStocked_X2_needOf rfl rfl rfl (by decide +kernel) ⟨(Nat.le_of_ble_eq_true rfl), (Nat.le_of_ble_eq_true rfl)⟩) ⟨cR_blind, va_recv hK hP (ci := 2) (q0 := 4) rfl rfl, fun U hU hW => ⟨rfl, cR_of hK hP hU hW⟩⟩ rfl rfl hl.1 rfl (lv_room (Nat.le_of_ble_eq_true rfl)) dX2_isStocked_13 ⟨(Nat.le_of_ble_eq_true rfl), (Nat.le_of_ble_eq_true rfl)⟩) (fun r er => ?_)
        subst er
        refine lv_iload_n hx hb dX2_isStocked_16 rfl (lv_at hl 2 rfl) ?_
        refine lv_imul hx hb dX2_isStocked_17 ?_
        refine lv_aload_n hx hb dX2_isStocked_18 rfl (lv_at hl 0 rfl) ?_
        refine va_get (D := (dC, dI)) (ci := 2) (v := .ref (a 16)) (C := RX2) (T := TX2) (N := 6) hx hb hts i_X2 hown hK hP 4 rfl rfl 4 (by decide) f_1 (fun _ h9 => h9) rfl dX2_isStocked_19 ?_
        refine lv_iload_n hx hb dX2_isStocked_22 rfl (lv_at hl 3 rfl) ?_
        refine cb_iald hx hb hK hP 16 10 (f := c_sto S) rfl rfl (j := i) (by omega) (Nat.le_of_ble_eq_true rfl) dX2_isStocked_23 ?_
        refine lv_icmp_le (tgt := 29) hx hb dX2_isStocked_24 (by decide) (fun c_24 => ?_) (fun c_24 => ?_)
        · skip
          refine lv_iinc (v := nI (i + 1)) (lv' := [(3, .int (nI (i + 1))), (0, .ref (a 4)), (1, .int (nI mm)), (2, .int (nI e9))]) hx hb dX2_isStocked_29 hl (k := 3) rfl (nI_1 _) (by decide) rfl (fun ls hl => ?_)
          refine lv_goto (tgt := 2) hx hb dX2_isStocked_32 (by decide) ?_
          exact ih_2 (i + 1) (by omega) (by omega) (by simp only [al, hno, Bool.true_and]; exact decide_eq_true c_24) ls (lv_sub hl [1, 2, 3, 0] rfl)
        · skip
          refine lv_iconst (v := nI 0) hx hb dX2_isStocked_27 (by decide) ?_
          rw [hQ]
          exact W.zret (v := nI 0) hx hb hr rfl (fun t9 ht9 hW9 => ⟨nI 0, rfl, (bI_eq0 (al_f (j := i) (by omega) (decide_eq_false c_24))), ht9⟩) (fun q h => absurd h List.not_mem_nil) dX2_isStocked_28
  exact L_2 (c_nf S + 1) 0 (by omega) (by omega) rfl ls (lv_sub hl [1, 2, 3, 0] rfl)
abbrev rm_X2_canBeEaten : Room := { frames := 3, cells := 0, slots := 0, locals := 71 }
set_option maxHeartbeats 4000000 in
set_option maxRecDepth 100000 in
theorem c_X2_canBeEaten (l : Launch) (dC : Nat → ClassId) (dI : Nat → Nat → Nat) (a : Nat → Nat) (k : Nat → ClassId) (S : cs_S) (mm : Nat) (hm : mm < 10) (hI : Inv S) : Met l yX2_canBeEaten wsX2_canBeEaten rm_X2_canBeEaten (va_Pc [.ref (a 4), .int (nI mm), .ref (a 1)] (cR dC dI (cb_w a k S) (cb_ty k))) (vp_Si (fun r => r = bI (canBE S mm))) 0 0 (fun _ => False) := by
  refine Met.ofW (cc := cX2_canBeEaten) (maxL := 4) (ret := (some .boolean)) (by decide) rfl ?_
  intro p e s m args below meth c s₁ B hml hv
  obtain ⟨rfl, hP, hK⟩ := hv
  have hx := B.exec
  have hb := B.bytes
  have hr := B.returns
  have hts := atoms_spec (ws := wsX2_canBeEaten) B.pre
  have hown : s.vm.findClass RX2 = some m.cls := findClass_of_methodNamed B.named
  have hlocks := B.notSynchronized
  obtain ⟨Q, hQ⟩ : ∃ Q, Q = MQ below (vp_Si (fun r => r = bI (canBE S mm))) ([.ref (a 4), .int (nI mm), .ref (a 1)] : List Value).toArray s 0 0 (fun _ => False) := ⟨_, rfl⟩
  show W p l e rm_X2_canBeEaten s m _ below meth c s.heap [] 0 0 (MQ below _ _ _ _ _ _) _
  rw [← hQ]
  have i_X2 : ∀ w ∈ wsX20, w ∈ wsX2_canBeEaten := fun w h => List.mem_cons_of_mem _ (List.mem_append_left _ (List.mem_append_right _ h))
  obtain ⟨⟨hday, hnp, hns, hnt, hnf, hnm, hnb, hme⟩, hpat, hage, hten, hcnt, hplc, heat, hned, hhld, hbad, hbad0, hbag⟩ := id hI
  have f_0 := hts (.fieldLink RX2 48 "CampBook$Kitchen" "mealsToday" "I") (by decide +kernel)
  have hl := lv_entry ([.ref (a 4), .int (nI mm), .ref (a 1)]) (n := 4) (Nat.le_of_ble_eq_true rfl)
  rw [lg_entry_eq]
  generalize (lg_sl ([.ref (a 4), .int (nI mm), .ref (a 1)]) ++ List.replicate (4 - (lg_sl ([.ref (a 4), .int (nI mm), .ref (a 1)])).length) Slot.unset).toArray = ls at hl ⊢
  have hl : lv_has ls 4 [(0, .ref (a 4)), (1, .int (nI mm)), (2, .ref (a 1))] := hl
  refine lv_aload_n hx hb dX2_canBeEaten_0 rfl (lv_at hl 0 rfl) ?_
  refine lv_iload_n hx hb dX2_canBeEaten_1 rfl (lv_at hl 1 rfl) ?_
  refine lv_aload_n hx hb dX2_canBeEaten_2 rfl (lv_at hl 2 rfl) ?_
  refine vp_callSl (W.runV (As := [.int (nI mm), .ref (a 1)]) (rest := []) ⟨hx, hb, hml, hown, hts⟩ (c_X2_eatersOf l dC dI a k S mm (by omega) hI) (cwV 2 hts gX2_canBeEaten_X2_eatersOf rfl rfl rfl (by decide +kernel) ⟨(Nat.le_of_ble_eq_true rfl), (Nat.le_of_ble_eq_true rfl)⟩) ⟨cR_blind, va_recv hK hP (ci := 2) (q0 := 4) rfl rfl, fun U hU hW => ⟨rfl, cR_of hK hP hU hW⟩⟩ rfl rfl hl.1 rfl (lv_room (Nat.le_of_ble_eq_true rfl)) dX2_canBeEaten_3 ⟨(Nat.le_of_ble_eq_true rfl), (Nat.le_of_ble_eq_true rfl)⟩) (fun r er => ?_)
  subst er
  refine vp_callSi (W.runS (As := [.long (lN (bs (canE S mm) (c_ns S)))]) (rest := []) ⟨hx, hb, hml, hown, hts⟩ (c_J13_bitCount_95d88 l (bs (canE S mm) (c_ns S)) (bs_lt32 (by omega))) (va_cwS 1 hts gX2_canBeEaten_J13_bitCount_95d88 rfl rfl rfl (by decide +kernel) ⟨(Nat.le_of_ble_eq_true rfl), (Nat.le_of_ble_eq_true rfl)⟩) ⟨cN_blind, fun U hU hW => ⟨rfl, trivial⟩⟩ rfl rfl hl.1 rfl (lv_room (Nat.le_of_ble_eq_true rfl)) dX2_canBeEaten_6 ⟨(Nat.le_of_ble_eq_true rfl), (Nat.le_of_ble_eq_true rfl)⟩) (fun r er => ?_)
  subst er
  refine cb_topi (z := nI (cntE S mm)) (congrArg nI (popc_bs (by omega))) ?_
  refine lv_istore_n (lv' := [(3, .int (nI (cntE S mm))), (0, .ref (a 4)), (1, .int (nI mm)), (2, .ref (a 1))]) hx hb dX2_canBeEaten_9 rfl hl (by decide) rfl (fun ls hl => ?_)
  refine lv_aload_n hx hb dX2_canBeEaten_10 rfl (lv_at hl 1 rfl) ?_
  refine va_get (D := (dC, dI)) (ci := 2) (v := .int (nI (c_me S))) (C := RX2) (T := TX2) (N := 6) hx hb hts i_X2 hown hK hP 4 rfl rfl 2 (by decide) f_0 (fun _ h9 => h9) rfl dX2_canBeEaten_11 ?_
  refine lv_iconst (v := nI 3) hx hb dX2_canBeEaten_14 (by decide) ?_
  refine lv_icmp_ge (tgt := 43) hx hb dX2_canBeEaten_15 (by decide) (fun c_15 => ?_) (fun c_15 => ?_)
  · have c_15 : 3 ≤ (c_me S) := cb_ge (by omega) (by omega) c_15
    refine lv_iconst (v := nI 0) hx hb dX2_canBeEaten_43 (by decide) ?_
    rw [hQ]
    exact W.zret (v := nI 0) hx hb hr rfl (fun t9 ht9 hW9 => ⟨nI 0, rfl, (bI_eq0 (by rw [canBE, decide_eq_false (Nat.not_lt.mpr c_15)]; rfl)), ht9⟩) (fun q h => absurd h List.not_mem_nil) dX2_canBeEaten_44
  · have c_15 : (c_me S) < 3 := cb_nge (by omega) (by omega) c_15
    refine lv_aload_n hx hb dX2_canBeEaten_18 rfl (lv_at hl 1 rfl) ?_
    refine lv_iload_n hx hb dX2_canBeEaten_19 rfl (lv_at hl 2 rfl) ?_
    refine vp_callSi (W.runV (As := [.int (nI mm)]) (rest := []) ⟨hx, hb, hml, hown, hts⟩ (c_X2_foodsOf l dC dI a k S mm (by omega) hI) (cwV 1 hts gX2_canBeEaten_X2_foodsOf rfl rfl rfl (by decide +kernel) ⟨(Nat.le_of_ble_eq_true rfl), (Nat.le_of_ble_eq_true rfl)⟩) ⟨cR_blind, va_recv hK hP (ci := 2) (q0 := 4) rfl rfl, fun U hU hW => ⟨rfl, cR_of hK hP hU hW⟩⟩ rfl rfl hl.1 rfl (lv_room (Nat.le_of_ble_eq_true rfl)) dX2_canBeEaten_20 ⟨(Nat.le_of_ble_eq_true rfl), (Nat.le_of_ble_eq_true rfl)⟩) (fun r er => ?_)
    subst er
    have hbs := bs_lt31 (p := inM S mm) (n := c_nf S) (by omega)
    have hct : cntE S mm ≤ c_ns S := fb_ct_le _ _
    refine lv_if_eq (tgt := 43) hx hb dX2_canBeEaten_23 (by decide) (fun c_23 => ?_) (fun c_23 => ?_)
    · have c_23 : (bs (inM S mm) (c_nf S)) = 0 := cb_eq (by omega) (by omega) c_23
      have c_23 := bs_z c_23
      refine lv_iconst (v := nI 0) hx hb dX2_canBeEaten_43 (by decide) ?_
      rw [hQ]
      exact W.zret (v := nI 0) hx hb hr rfl (fun t9 ht9 hW9 => ⟨nI 0, rfl, (bI_eq0 (by rw [canBE, c_23]; simp)), ht9⟩) (fun q h => absurd h List.not_mem_nil) dX2_canBeEaten_44
    · have c_23 : (bs (inM S mm) (c_nf S)) ≠ 0 := cb_ne (by omega) (by omega) c_23
      have c_23 := bs_nz c_23
      refine lv_iload_n hx hb dX2_canBeEaten_26 rfl (lv_at hl 0 rfl) ?_
      refine lv_if_le (tgt := 43) hx hb dX2_canBeEaten_27 (by decide) (fun c_27 => ?_) (fun c_27 => ?_)
      · have c_27 : (cntE S mm) ≤ 0 := cb_le (by omega) (by omega) c_27
        refine lv_iconst (v := nI 0) hx hb dX2_canBeEaten_43 (by decide) ?_
        rw [hQ]
        exact W.zret (v := nI 0) hx hb hr rfl (fun t9 ht9 hW9 => ⟨nI 0, rfl, (bI_eq0 (by rw [canBE, decide_eq_false (Nat.not_lt.mpr c_27)]; simp)), ht9⟩) (fun q h => absurd h List.not_mem_nil) dX2_canBeEaten_44
      · have c_27 : 0 < (cntE S mm) := cb_nle (by omega) (by omega) c_27
        refine lv_aload_n hx hb dX2_canBeEaten_30 rfl (lv_at hl 1 rfl) ?_
        refine lv_iload_n hx hb dX2_canBeEaten_31 rfl (lv_at hl 2 rfl) ?_
        refine lv_iload_n hx hb dX2_canBeEaten_32 rfl (lv_at hl 0 rfl) ?_
        refine vp_callSi (W.runV (As := [.int (nI mm), .int (nI (cntE S mm))]) (rest := []) ⟨hx, hb, hml, hown, hts⟩ (c_X2_isStocked l dC dI a k S mm (cntE S mm) (by omega) hI) (cwV 2 hts gX2_canBeEaten_X2_isStocked rfl rfl rfl (by decide +kernel) ⟨(Nat.le_of_ble_eq_true rfl), (Nat.le_of_ble_eq_true rfl)⟩) ⟨cR_blind, va_recv hK hP (ci := 2) (q0 := 4) rfl rfl, fun U hU hW => ⟨rfl, cR_of hK hP hU hW⟩⟩ rfl rfl hl.1 rfl (lv_room (Nat.le_of_ble_eq_true rfl)) dX2_canBeEaten_33 ⟨(Nat.le_of_ble_eq_true rfl), (Nat.le_of_ble_eq_true rfl)⟩) (fun r er => ?_)
        subst er
        refine lv_if_eq (tgt := 43) hx hb dX2_canBeEaten_36 (by decide) (fun c_36 => ?_) (fun c_36 => ?_)
        · have c_36 : (al (stkE S mm (cntE S mm)) (c_nf S)) = false := bI_0 c_36
          refine lv_iconst (v := nI 0) hx hb dX2_canBeEaten_43 (by decide) ?_
          rw [hQ]
          exact W.zret (v := nI 0) hx hb hr rfl (fun t9 ht9 hW9 => ⟨nI 0, rfl, (bI_eq0 (by rw [canBE, c_36]; simp)), ht9⟩) (fun q h => absurd h List.not_mem_nil) dX2_canBeEaten_44
        · have c_36 : (al (stkE S mm (cntE S mm)) (c_nf S)) = true := bI_n c_36
          refine lv_iconst (v := nI 1) hx hb dX2_canBeEaten_39 (by decide) ?_
          refine lv_goto (tgt := 44) hx hb dX2_canBeEaten_40 (by decide) ?_
          rw [hQ]
          exact W.zret (v := nI 1) hx hb hr rfl (fun t9 ht9 hW9 => ⟨nI 1, rfl, (bI_eq1 (by rw [canBE, decide_eq_true c_15, c_23, decide_eq_true c_27, c_36]; rfl)), ht9⟩) (fun q h => absurd h List.not_mem_nil) dX2_canBeEaten_44
abbrev rm_X2_bestMeal : Room := { frames := 4, cells := 0, slots := 0, locals := 94 }
set_option maxHeartbeats 4000000 in
set_option maxRecDepth 100000 in
theorem c_X2_bestMeal (l : Launch) (dC : Nat → ClassId) (dI : Nat → Nat → Nat) (a : Nat → Nat) (k : Nat → ClassId) (S : cs_S) (hI : Inv S) : Met l yX2_bestMeal wsX2_bestMeal rm_X2_bestMeal (va_Pc [.ref (a 4), .ref (a 1)] (cR dC dI (cb_w a k S) (cb_ty k))) (vp_Si (fun r => r = oI (bM S (c_nm S)))) 0 0 (fun _ => False) := by
  refine Met.ofW (cc := cX2_bestMeal) (maxL := 6) (ret := (some .int)) (by decide) rfl ?_
  intro p e s m args below meth c s₁ B hml hv
  obtain ⟨rfl, hP, hK⟩ := hv
  have hx := B.exec
  have hb := B.bytes
  have hr := B.returns
  have hts := atoms_spec (ws := wsX2_bestMeal) B.pre
  have hown : s.vm.findClass RX2 = some m.cls := findClass_of_methodNamed B.named
  have hlocks := B.notSynchronized
  obtain ⟨Q, hQ⟩ : ∃ Q, Q = MQ below (vp_Si (fun r => r = oI (bM S (c_nm S)))) ([.ref (a 4), .ref (a 1)] : List Value).toArray s 0 0 (fun _ => False) := ⟨_, rfl⟩
  show W p l e rm_X2_bestMeal s m _ below meth c s.heap [] 0 0 (MQ below _ _ _ _ _ _) _
  rw [← hQ]
  have i_X2 : ∀ w ∈ wsX20, w ∈ wsX2_bestMeal := fun w h => List.mem_cons_of_mem _ (List.mem_append_left _ (List.mem_append_right _ h))
  obtain ⟨⟨hday, hnp, hns, hnt, hnf, hnm, hnb, hme⟩, hpat, hage, hten, hcnt, hplc, heat, hned, hhld, hbad, hbad0, hbag⟩ := id hI
  have f_0 := hts (.fieldLink RX2 59 "CampBook$Kitchen" "meals" "I") (by decide +kernel)
  have f_1 := hts (.fieldLink RX2 55 "CampBook$Kitchen" "ateToday" "J") (by decide +kernel)
  have f_2 := hts (.constantLong RX2 62 (-1)) (by decide +kernel)
  have hl := lv_entry ([.ref (a 4), .ref (a 1)]) (n := 6) (Nat.le_of_ble_eq_true rfl)
  rw [lg_entry_eq]
  generalize (lg_sl ([.ref (a 4), .ref (a 1)]) ++ List.replicate (6 - (lg_sl ([.ref (a 4), .ref (a 1)])).length) Slot.unset).toArray = ls at hl ⊢
  have hl : lv_has ls 6 [(0, .ref (a 4)), (1, .ref (a 1))] := hl
  refine lv_iconst (v := (-1)) hx hb dX2_bestMeal_0 (by decide) ?_
  refine lv_istore_n (lv' := [(2, .int (-1)), (0, .ref (a 4)), (1, .ref (a 1))]) hx hb dX2_bestMeal_1 rfl hl (by decide) rfl (fun ls hl => ?_)
  refine lv_iconst (v := (-1)) hx hb dX2_bestMeal_2 (by decide) ?_
  refine lv_istore_n (lv' := [(3, .int (-1)), (2, .int (-1)), (0, .ref (a 4)), (1, .ref (a 1))]) hx hb dX2_bestMeal_3 rfl hl (by decide) rfl (fun ls hl => ?_)
  refine lv_iconst (v := nI 0) hx hb dX2_bestMeal_4 (by decide) ?_
  refine lv_istore (lv' := [(4, .int (nI 0)), (3, .int (-1)), (2, .int (-1)), (0, .ref (a 4)), (1, .ref (a 1))]) hx hb dX2_bestMeal_5 hl (by decide) rfl (fun ls hl => ?_)
  have L_7 : ∀ (n i : Nat), i ≤ c_nm S → c_nm S + 1 ≤ i + n → ∀ (ls : Array Slot), lv_has ls 6 [(0, .ref (a 4)), (1, .ref (a 1)), (2, .int (oI (bM S i))), (3, .int (hunO S (bM S i))), (4, .int (nI i))] → W p l e rm_X2_bestMeal s m ([.ref (a 4), .ref (a 1)] : List Value).toArray below meth c s.heap [] 0 0 Q (F0 m 7 ls []) := by
    intro n
    induction n with
    | zero => intro i h1 h2; exact absurd h2 (by omega)
    | succ n ih_7 =>
      intro i hle_7 hfu_7 ls hl
      refine lv_iload hx hb dX2_bestMeal_7 (lv_at hl 4 rfl) ?_
      refine lv_aload_n hx hb dX2_bestMeal_9 rfl (lv_at hl 0 rfl) ?_
      refine va_get (D := (dC, dI)) (ci := 2) (v := .int (nI (c_nm S))) (C := RX2) (T := TX2) (N := 6) hx hb hts i_X2 hown hK hP 4 rfl rfl 1 (by decide) f_0 (fun _ h9 => h9) rfl dX2_bestMeal_10 ?_
      refine lv_icmp_ge (tgt := 65) hx hb dX2_bestMeal_13 (by decide) (fun c_13 => ?_) (fun c_13 => ?_)
      · have c_13 : (c_nm S) ≤ i := cb_ge (by omega) (by omega) c_13
        refine lv_iload_n hx hb dX2_bestMeal_65 rfl (lv_at hl 2 rfl) ?_
        rw [hQ]
        exact W.iret (v := oI (bM S i)) hx hb hr (fun t9 ht9 hW9 => ⟨oI (bM S i), rfl, (by rw [show i = c_nm S by omega]), ht9⟩) (fun q h => absurd h List.not_mem_nil) dX2_bestMeal_66
      · have c_13 : i < (c_nm S) := cb_nge (by omega) (by omega) c_13
        refine lv_aload_n hx hb dX2_bestMeal_16 rfl (lv_at hl 0 rfl) ?_
        refine lv_iload hx hb dX2_bestMeal_17 (lv_at hl 4 rfl) ?_
        refine lv_aload_n hx hb dX2_bestMeal_19 rfl (lv_at hl 1 rfl) ?_
        refine vp_callSl (W.runV (As := [.int (nI i), .ref (a 1)]) (rest := []) ⟨hx, hb, hml, hown, hts⟩ (c_X2_eatersOf l dC dI a k S i (by omega) hI) (cwV 2 hts gX2_bestMeal_X2_eatersOf rfl rfl rfl (by decide +kernel) ⟨(Nat.le_of_ble_eq_true rfl), (Nat.le_of_ble_eq_true rfl)⟩) ⟨cR_blind, va_recv hK hP (ci := 2) (q0 := 4) rfl rfl, fun U hU hW => ⟨rfl, cR_of hK hP hU hW⟩⟩ rfl rfl hl.1 rfl (lv_room (Nat.le_of_ble_eq_true rfl)) dX2_bestMeal_20 ⟨(Nat.le_of_ble_eq_true rfl), (Nat.le_of_ble_eq_true rfl)⟩) (fun r er => ?_)
        subst er
        refine lv_aload_n hx hb dX2_bestMeal_23 rfl (lv_at hl 0 rfl) ?_
        refine va_get (D := (dC, dI)) (ci := 2) (v := .long (c_at S)) (C := RX2) (T := TX2) (N := 6) hx hb hts i_X2 hown hK hP 4 rfl rfl 3 (by decide) f_1 (fun _ h9 => h9) rfl dX2_bestMeal_24 ?_
        refine lv_ldc2 hx hb hown f_2 dX2_bestMeal_27 ?_
        refine lv_lxor hx hb dX2_bestMeal_30 ?_
        refine lv_land hx hb dX2_bestMeal_31 ?_
        refine cb_topl (z := lN (bs (fun s => canE S i s && !c_eat S s) (c_ns S))) (c_at_hun hns) ?_
        refine vp_callSi (W.runS (As := [.long (lN (bs (fun s => canE S i s && !c_eat S s) (c_ns S)))]) (rest := []) ⟨hx, hb, hml, hown, hts⟩ (c_J13_bitCount_95d88 l (bs (fun s => canE S i s && !c_eat S s) (c_ns S)) (bs_lt32 (by omega))) (va_cwS 1 hts gX2_bestMeal_J13_bitCount_95d88 rfl rfl rfl (by decide +kernel) ⟨(Nat.le_of_ble_eq_true rfl), (Nat.le_of_ble_eq_true rfl)⟩) ⟨cN_blind, fun U hU hW => ⟨rfl, trivial⟩⟩ rfl rfl hl.1 rfl (lv_room (Nat.le_of_ble_eq_true rfl)) dX2_bestMeal_32 ⟨(Nat.le_of_ble_eq_true rfl), (Nat.le_of_ble_eq_true rfl)⟩) (fun r er => ?_)
        subst er
        refine cb_topi (z := nI (hun S i)) (congrArg nI (popc_bs (by omega))) ?_
        refine lv_istore (lv' := [(5, .int (nI (hun S i))), (0, .ref (a 4)), (1, .ref (a 1)), (2, .int (oI (bM S i))), (3, .int (hunO S (bM S i))), (4, .int (nI i))]) hx hb dX2_bestMeal_35 hl (by decide) rfl (fun ls hl => ?_)
        refine lv_iload hx hb dX2_bestMeal_37 (lv_at hl 0 rfl) ?_
        refine lv_iload_n hx hb dX2_bestMeal_39 rfl (lv_at hl 4 rfl) ?_
        refine lv_icmp_le (tgt := 59) hx hb dX2_bestMeal_40 (by decide) (fun c_40 => ?_) (fun c_40 => ?_)
        · skip
          refine lv_iinc (v := nI (i + 1)) (lv' := [(4, .int (nI (i + 1))), (5, .int (nI (hun S i))), (0, .ref (a 4)), (1, .ref (a 1)), (2, .int (oI (bM S i))), (3, .int (hunO S (bM S i)))]) hx hb dX2_bestMeal_59 hl (k := 5) rfl (nI_1 _) (by decide) rfl (fun ls hl => ?_)
          refine lv_goto (tgt := 7) hx hb dX2_bestMeal_62 (by decide) ?_
          have hl : lv_has ls 6 [(4, .int (nI (i + 1))), (5, .int (nI (hun S i))), (0, .ref (a 4)), (1, .ref (a 1)), (2, .int (oI (bM S (i + 1)))), (3, .int (hunO S (bM S i)))] := cb_loc hl (e := Value.int (oI (bM S (i + 1)))) 4 rfl (congrArg Value.int (show oI (bM S i) = oI (bM S (i + 1)) from (by rw [bM, if_neg (fun z => z.1 c_40)]; first | done | rfl)))
          have hl : lv_has ls 6 [(4, .int (nI (i + 1))), (5, .int (nI (hun S i))), (0, .ref (a 4)), (1, .ref (a 1)), (2, .int (oI (bM S (i + 1)))), (3, .int (hunO S (bM S (i + 1))))] := cb_loc hl (e := Value.int (hunO S (bM S (i + 1)))) 5 rfl (congrArg Value.int (show hunO S (bM S i) = hunO S (bM S (i + 1)) from (by rw [bM, if_neg (fun z => z.1 c_40)]; first | done | rfl)))
          exact ih_7 (i + 1) (by omega) (by omega) ls (lv_sub hl [2, 3, 4, 5, 0] rfl)
        · skip
          refine lv_aload_n hx hb dX2_bestMeal_43 rfl (lv_at hl 1 rfl) ?_
          refine lv_iload hx hb dX2_bestMeal_44 (lv_at hl 5 rfl) ?_
          refine lv_aload_n hx hb dX2_bestMeal_46 rfl (lv_at hl 2 rfl) ?_
          refine vp_callSi (W.runV (As := [.int (nI i), .ref (a 1)]) (rest := []) ⟨hx, hb, hml, hown, hts⟩ (c_X2_canBeEaten l dC dI a k S i (by omega) hI) (cwV 2 hts gX2_bestMeal_X2_canBeEaten rfl rfl rfl (by decide +kernel) ⟨(Nat.le_of_ble_eq_true rfl), (Nat.le_of_ble_eq_true rfl)⟩) ⟨cR_blind, va_recv hK hP (ci := 2) (q0 := 4) rfl rfl, fun U hU hW => ⟨rfl, cR_of hK hP hU hW⟩⟩ rfl rfl hl.1 rfl (lv_room (Nat.le_of_ble_eq_true rfl)) dX2_bestMeal_47 ⟨(Nat.le_of_ble_eq_true rfl), (Nat.le_of_ble_eq_true rfl)⟩) (fun r er => ?_)
          subst er
          refine lv_if_eq (tgt := 59) hx hb dX2_bestMeal_50 (by decide) (fun c_50 => ?_) (fun c_50 => ?_)
          · have c_50 : (canBE S i) = false := bI_0 c_50
            refine lv_iinc (v := nI (i + 1)) (lv' := [(4, .int (nI (i + 1))), (5, .int (nI (hun S i))), (0, .ref (a 4)), (1, .ref (a 1)), (2, .int (oI (bM S i))), (3, .int (hunO S (bM S i)))]) hx hb dX2_bestMeal_59 hl (k := 5) rfl (nI_1 _) (by decide) rfl (fun ls hl => ?_)
            refine lv_goto (tgt := 7) hx hb dX2_bestMeal_62 (by decide) ?_
            have hl : lv_has ls 6 [(4, .int (nI (i + 1))), (5, .int (nI (hun S i))), (0, .ref (a 4)), (1, .ref (a 1)), (2, .int (oI (bM S (i + 1)))), (3, .int (hunO S (bM S i)))] := cb_loc hl (e := Value.int (oI (bM S (i + 1)))) 4 rfl (congrArg Value.int (show oI (bM S i) = oI (bM S (i + 1)) from (by rw [bM, if_neg (fun z => by rw [c_50] at z; exact absurd z.2 (by decide))]; first | done | rfl)))
            have hl : lv_has ls 6 [(4, .int (nI (i + 1))), (5, .int (nI (hun S i))), (0, .ref (a 4)), (1, .ref (a 1)), (2, .int (oI (bM S (i + 1)))), (3, .int (hunO S (bM S (i + 1))))] := cb_loc hl (e := Value.int (hunO S (bM S (i + 1)))) 5 rfl (congrArg Value.int (show hunO S (bM S i) = hunO S (bM S (i + 1)) from (by rw [bM, if_neg (fun z => by rw [c_50] at z; exact absurd z.2 (by decide))]; first | done | rfl)))
            exact ih_7 (i + 1) (by omega) (by omega) ls (lv_sub hl [2, 3, 4, 5, 0] rfl)
          · have c_50 : (canBE S i) = true := bI_n c_50
            refine lv_iload hx hb dX2_bestMeal_53 (lv_at hl 5 rfl) ?_
            refine lv_istore_n (lv' := [(2, .int (nI i)), (5, .int (nI (hun S i))), (0, .ref (a 4)), (1, .ref (a 1)), (3, .int (hunO S (bM S i))), (4, .int (nI i))]) hx hb dX2_bestMeal_55 rfl hl (by decide) rfl (fun ls hl => ?_)
            refine lv_iload hx hb dX2_bestMeal_56 (lv_at hl 1 rfl) ?_
            refine lv_istore_n (lv' := [(3, .int (nI (hun S i))), (2, .int (nI i)), (5, .int (nI (hun S i))), (0, .ref (a 4)), (1, .ref (a 1)), (4, .int (nI i))]) hx hb dX2_bestMeal_58 rfl hl (by decide) rfl (fun ls hl => ?_)
            refine lv_iinc (v := nI (i + 1)) (lv' := [(4, .int (nI (i + 1))), (3, .int (nI (hun S i))), (2, .int (nI i)), (5, .int (nI (hun S i))), (0, .ref (a 4)), (1, .ref (a 1))]) hx hb dX2_bestMeal_59 hl (k := 5) rfl (nI_1 _) (by decide) rfl (fun ls hl => ?_)
            refine lv_goto (tgt := 7) hx hb dX2_bestMeal_62 (by decide) ?_
            have hl : lv_has ls 6 [(4, .int (nI (i + 1))), (3, .int (nI (hun S i))), (2, .int (oI (bM S (i + 1)))), (5, .int (nI (hun S i))), (0, .ref (a 4)), (1, .ref (a 1))] := cb_loc hl (e := Value.int (oI (bM S (i + 1)))) 2 rfl (congrArg Value.int (show nI i = oI (bM S (i + 1)) from (by rw [bM, if_pos ⟨c_40, c_50⟩]; first | done | rfl)))
            have hl : lv_has ls 6 [(4, .int (nI (i + 1))), (3, .int (hunO S (bM S (i + 1)))), (2, .int (oI (bM S (i + 1)))), (5, .int (nI (hun S i))), (0, .ref (a 4)), (1, .ref (a 1))] := cb_loc hl (e := Value.int (hunO S (bM S (i + 1)))) 1 rfl (congrArg Value.int (show nI (hun S i) = hunO S (bM S (i + 1)) from (by rw [bM, if_pos ⟨c_40, c_50⟩]; first | done | rfl)))
            exact ih_7 (i + 1) (by omega) (by omega) ls (lv_sub hl [4, 5, 2, 1, 0] rfl)
  have hl : lv_has ls 6 [(4, .int (nI 0)), (3, .int (-1)), (2, .int (oI (bM S 0))), (0, .ref (a 4)), (1, .ref (a 1))] := cb_loc hl (e := Value.int (oI (bM S 0))) 2 rfl (congrArg Value.int (show (-1) = oI (bM S 0) from rfl))
  have hl : lv_has ls 6 [(4, .int (nI 0)), (3, .int (hunO S (bM S 0))), (2, .int (oI (bM S 0))), (0, .ref (a 4)), (1, .ref (a 1))] := cb_loc hl (e := Value.int (hunO S (bM S 0))) 1 rfl (congrArg Value.int (show (-1) = hunO S (bM S 0) from rfl))
  exact L_7 (c_nm S + 1) 0 (by omega) (by omega) ls (lv_sub hl [3, 4, 2, 1, 0] rfl)
abbrev rm_X2_clearTable : Room := { frames := 0, cells := 0, slots := 0, locals := 0 }
set_option maxHeartbeats 4000000 in
set_option maxRecDepth 100000 in
theorem c_X2_clearTable (l : Launch) (dC : Nat → ClassId) (dI : Nat → Nat → Nat) (a : Nat → Nat) (k : Nat → ClassId) (S : cs_S) (sz : Nat)  : Met l yX2_clearTable wsX2_clearTable rm_X2_clearTable (va_Pc [.ref (a 4)] (cT dC dI sz (cb_w a k S) (cb_ty k))) (va_Qv (fun (_ : Unit) => True) (fun _ t => cB dC dI (va_A (cb_w a k S) sz) (cb_w a k (s_eat (s_me S 0) (fun _ => false))) (cb_ty k) t) (va_A (cb_w a k S) sz)) 0 0 (va_A (cb_w a k S) sz) := by
  refine Met.ofW (cc := cX2_clearTable) (maxL := 1) (ret := none) (by decide) rfl ?_
  intro p e s m args below meth c s₁ B hml hv
  obtain ⟨rfl, hsz, hP, hK, hD0⟩ := hv
  have hx := B.exec
  have hb := B.bytes
  have hr := B.returns
  have hts := atoms_spec (ws := wsX2_clearTable) B.pre
  have hown : s.vm.findClass RX2 = some m.cls := findClass_of_methodNamed B.named
  have hlocks := B.notSynchronized
  subst hsz
  have hD := hD0.self (sz := s.heap.size)
  generalize hAe : va_A (cb_w a k S) s.heap.size = A at hD ⊢
  have hA : ∀ q : Nat, s.heap.size ≤ q → A q := fun q h => by rw [← hAe]; exact Or.inr h
  have hS : va_S A s.heap s.heap [] := va_S.rf
  obtain ⟨Q, hQ⟩ : ∃ Q, Q = MQ below (va_Qv (fun (_ : Unit) => True) (fun _ t => cB dC dI A (cb_w a k (s_eat (s_me S 0) (fun _ => false))) (cb_ty k) t) A) ([.ref (a 4)] : List Value).toArray s 0 0 A := ⟨_, rfl⟩
  show W p l e rm_X2_clearTable s m _ below meth c s.heap [] 0 0 (MQ below _ _ _ _ _ _) _
  rw [← hQ]
  have i_X2 : ∀ w ∈ wsX20, w ∈ wsX2_clearTable := fun w h => List.mem_cons_of_mem _ (List.mem_append_right _ h)
  have f_0 := hts (.fieldLink RX2 48 "CampBook$Kitchen" "mealsToday" "I") (by decide +kernel)
  have f_1 := hts (.fieldLink RX2 55 "CampBook$Kitchen" "ateToday" "J") (by decide +kernel)
  have hl := lv_entry ([.ref (a 4)]) (n := 1) (Nat.le_of_ble_eq_true rfl)
  rw [lg_entry_eq]
  generalize (lg_sl ([.ref (a 4)]) ++ List.replicate (1 - (lg_sl ([.ref (a 4)])).length) Slot.unset).toArray = ls at hl ⊢
  have hl : lv_has ls 1 [(0, .ref (a 4))] := hl
  refine lv_aload_n hx hb dX2_clearTable_0 rfl (lv_at hl 0 rfl) ?_
  refine lv_iconst (v := nI 0) hx hb dX2_clearTable_1 (by decide) ?_
  refine va_put (D := (dC, dI)) (ci := 2) (v := .int (nI 0)) (ty := .int) (C := RX2) (T := TX2) (N := 6) hx hb hts i_X2 tyX2 tyX2_ok nmX2 hown hK hP hD hS 4 rfl rfl 2 (by decide) f_0 (fun _ h9 => h9) rfl (by decide +kernel) rfl rfl (Nat.le_of_ble_eq_true rfl) dX2_clearTable_2 (fun H locs hP hD hS => ?_)
  rw [wsC_me] at hP hD
  have hP : va_P (dC, dI) vwCl (cb_W a k (s_me S 0) (c_sl S) (c_pt S) (c_at S)) H := hP
  have hD : va_D A (cb_W a k (s_me S 0) (c_sl S) (c_pt S) (c_at S)) := hD
  refine lv_aload_n hx hb dX2_clearTable_5 rfl (lv_at hl 0 rfl) ?_
  refine lv_lconst (v := lN 0) hx hb dX2_clearTable_6 rfl ?_
  refine va_put (D := (dC, dI)) (ci := 2) (v := .long (lN 0)) (ty := .long) (C := RX2) (T := TX2) (N := 6) hx hb hts i_X2 tyX2 tyX2_ok nmX2 hown hK hP hD hS 4 rfl rfl 3 (by decide) f_1 (fun _ h9 => h9) rfl (by decide +kernel) rfl rfl (Nat.le_of_ble_eq_true rfl) dX2_clearTable_7 (fun H locs hP hD hS => ?_)
  rw [wsC_AZ] at hP hD
  have hP : va_P (dC, dI) vwCl (cb_W a k (s_me S 0) (c_sl S) (c_pt S) (lN 0)) H := hP
  have hD : va_D A (cb_W a k (s_me S 0) (c_sl S) (c_pt S) (lN 0)) := hD
  have ew : (cb_W a k (s_me S 0) (c_sl S) (c_pt S) (lN 0)) = (cb_w a k (s_eat (s_me S 0) (fun _ => false))) := (by rw [show lN 0 = c_at (s_eat (s_me S 0) (fun _ => false)) from congrArg lN (bs_none _).symm]; first | done | rfl)
  have hP : va_P (dC, dI) vwCl (cb_w a k (s_eat (s_me S 0) (fun _ => false))) H := by rw [← ew]; exact hP
  have hD : va_D A (cb_w a k (s_eat (s_me S 0) (fun _ => false))) := by rw [← ew]; exact hD
  rw [hQ]
  refine W.widen (k := 0) (n := 0) (by omega) (by omega) ?_
  exact W.vret hx hb hr (fun t9 ht9 hW9 => ⟨⟨(), rfl, trivial, cB_of hP hK hD ht9 hW9⟩, hS.F ht9⟩) hS.2.2 dX2_clearTable_10
abbrev rm_X0_hoursLacking : Room := { frames := 1, cells := 0, slots := 0, locals := 22 }
set_option maxHeartbeats 4000000 in
set_option maxRecDepth 100000 in
theorem c_X0_hoursLacking (l : Launch) (dC : Nat → ClassId) (dI : Nat → Nat → Nat) (a : Nat → Nat) (k : Nat → ClassId) (S : cs_S) (u : Nat) (b : Nat) (hu : u < 30) (hb9 : b < 8) : Met l yX0_hoursLacking wsX0_hoursLacking rm_X0_hoursLacking (va_Pc [.ref (a 5), .int (nI u), .int (nI b), .ref (a 1)] (cR dC dI (cb_w a k S) (cb_ty k))) (vp_Si (fun r => r = lack S u b)) 0 0 (fun _ => False) := by
  refine Met.ofW (cc := cX0_hoursLacking) (maxL := 7) (ret := (some .int)) (by decide) rfl ?_
  intro p e s m args below meth c s₁ B hml hv
  obtain ⟨rfl, hP, hK⟩ := hv
  have hx := B.exec
  have hb := B.bytes
  have hr := B.returns
  have hts := atoms_spec (ws := wsX0_hoursLacking) B.pre
  have hown : s.vm.findClass RX0 = some m.cls := findClass_of_methodNamed B.named
  have hlocks := B.notSynchronized
  obtain ⟨Q, hQ⟩ : ∃ Q, Q = MQ below (vp_Si (fun r => r = lack S u b)) ([.ref (a 5), .int (nI u), .int (nI b), .ref (a 1)] : List Value).toArray s 0 0 (fun _ => False) := ⟨_, rfl⟩
  show W p l e rm_X0_hoursLacking s m _ below meth c s.heap [] 0 0 (MQ below _ _ _ _ _ _) _
  rw [← hQ]
  have i_X0 : ∀ w ∈ wsX00, w ∈ wsX0_hoursLacking := fun w h => List.mem_cons_of_mem _ (List.mem_append_left _ (List.mem_append_right _ h))
  have f_0 := hts (.fieldLink RX0 15 "CampBook$Badges" "wants" "[I") (by decide +kernel)
  have f_1 := hts (.methodLink RX0 34 Lib.Math.max.name) (by decide +kernel)
  have f_2 := hts (.static Lib.Math.max.name) (by decide +kernel)
  have f_3 := hts (.initialized "java/lang/Math") (by decide +kernel)
  have f_4 := hts (.code Lib.Math.max.name Lib.Math.max.code 2 (some .int)) (by decide +kernel)
  have hl := lv_entry ([.ref (a 5), .int (nI u), .int (nI b), .ref (a 1)]) (n := 7) (Nat.le_of_ble_eq_true rfl)
  rw [lg_entry_eq]
  generalize (lg_sl ([.ref (a 5), .int (nI u), .int (nI b), .ref (a 1)]) ++ List.replicate (7 - (lg_sl ([.ref (a 5), .int (nI u), .int (nI b), .ref (a 1)])).length) Slot.unset).toArray = ls at hl ⊢
  have hl : lv_has ls 7 [(0, .ref (a 5)), (1, .int (nI u)), (2, .int (nI b)), (3, .ref (a 1))] := hl
  refine lv_iconst (v := nI 0) hx hb dX0_hoursLacking_0 (by decide) ?_
  refine lv_istore (lv' := [(4, .int (nI 0)), (0, .ref (a 5)), (1, .int (nI u)), (2, .int (nI b)), (3, .ref (a 1))]) hx hb dX0_hoursLacking_1 hl (by decide) rfl (fun ls hl => ?_)
  refine lv_iconst (v := nI 0) hx hb dX0_hoursLacking_3 (by decide) ?_
  refine lv_istore (lv' := [(5, .int (nI 0)), (4, .int (nI 0)), (0, .ref (a 5)), (1, .int (nI u)), (2, .int (nI b)), (3, .ref (a 1))]) hx hb dX0_hoursLacking_4 hl (by decide) rfl (fun ls hl => ?_)
  have L_6 : ∀ (n i : Nat), i ≤ 10 → 10 + 1 ≤ i + n → ∀ (ls : Array Slot), lv_has ls 7 [(0, .ref (a 5)), (1, .int (nI u)), (2, .int (nI b)), (3, .ref (a 1)), (4, .int (sm (lackF S u b) i)), (5, .int (nI i))] → W p l e rm_X0_hoursLacking s m ([.ref (a 5), .int (nI u), .int (nI b), .ref (a 1)] : List Value).toArray below meth c s.heap [] 0 0 Q (F0 m 6 ls []) := by
    intro n
    induction n with
    | zero => intro i h1 h2; exact absurd h2 (by omega)
    | succ n ih_6 =>
      intro i hle_6 hfu_6 ls hl
      refine lv_iload hx hb dX0_hoursLacking_6 (lv_at hl 5 rfl) ?_
      refine lv_bipush (v := nI 10) hx hb dX0_hoursLacking_8 (by decide) ?_
      refine lv_icmp_ge (tgt := 52) hx hb dX0_hoursLacking_10 (by decide) (fun c_10 => ?_) (fun c_10 => ?_)
      · have c_10 : 10 ≤ i := cb_ge (by omega) (by omega) c_10
        refine lv_iload hx hb dX0_hoursLacking_52 (lv_at hl 4 rfl) ?_
        rw [hQ]
        exact W.iret (v := sm (lackF S u b) i) hx hb hr (fun t9 ht9 hW9 => ⟨sm (lackF S u b) i, rfl, (by rw [show i = 10 by omega]; rfl), ht9⟩) (fun q h => absurd h List.not_mem_nil) dX0_hoursLacking_54
      · have c_10 : i < 10 := cb_nge (by omega) (by omega) c_10
        refine lv_aload_n hx hb dX0_hoursLacking_13 rfl (lv_at hl 0 rfl) ?_
        refine va_get (D := (dC, dI)) (ci := 0) (v := .ref (a 19)) (C := RX0) (T := TX0) (N := 3) hx hb hts i_X0 hown hK hP 5 rfl rfl 2 (by decide) f_0 (fun _ h9 => h9) rfl dX0_hoursLacking_14 ?_
        refine lv_iload_n hx hb dX0_hoursLacking_17 rfl (lv_at hl 2 rfl) ?_
        refine lv_bipush (v := nI 10) hx hb dX0_hoursLacking_18 (by decide) ?_
        refine lv_imul hx hb dX0_hoursLacking_20 ?_
        refine cb_topi (pk_mul _ _) ?_
        refine lv_iload hx hb dX0_hoursLacking_21 (lv_at hl 5 rfl) ?_
        refine lv_iadd hx hb dX0_hoursLacking_23 ?_
        refine cb_topi (nI_add _ _) ?_
        refine cb_iald hx hb hK hP 19 13 (f := c_wnt S) rfl rfl (j := (b * 10) + i) (by omega) (Nat.le_of_ble_eq_true rfl) dX0_hoursLacking_24 ?_
        refine lv_istore (lv' := [(6, .int (c_wnt S ((b * 10) + i))), (0, .ref (a 5)), (1, .int (nI u)), (2, .int (nI b)), (3, .ref (a 1)), (4, .int (sm (lackF S u b) i)), (5, .int (nI i))]) hx hb dX0_hoursLacking_25 hl (by decide) rfl (fun ls hl => ?_)
        refine lv_iload hx hb dX0_hoursLacking_27 (lv_at hl 5 rfl) ?_
        refine lv_iconst (v := nI 0) hx hb dX0_hoursLacking_29 (by decide) ?_
        refine lv_iload hx hb dX0_hoursLacking_30 (lv_at hl 0 rfl) ?_
        refine lv_aload_n hx hb dX0_hoursLacking_32 rfl (lv_at hl 4 rfl) ?_
        refine lv_iload_n hx hb dX0_hoursLacking_33 rfl (lv_at hl 2 rfl) ?_
        refine lv_iload hx hb dX0_hoursLacking_34 (lv_at hl 6 rfl) ?_
        refine vp_callSi (W.runV (As := [.int (nI u), .int (nI i)]) (rest := [.int (c_wnt S ((b * 10) + i)), .int (nI 0), .int (sm (lackF S u b) i)]) ⟨hx, hb, hml, hown, hts⟩ (c_X3_hoursIn l dC dI a k S u i (by omega) (by omega)) (cwV 2 hts gX0_hoursLacking_X3_hoursIn rfl rfl rfl (by decide +kernel) ⟨(Nat.le_of_ble_eq_true rfl), (Nat.le_of_ble_eq_true rfl)⟩) ⟨cR_blind, va_recv hK hP (ci := 3) (q0 := 1) rfl rfl, fun U hU hW => ⟨rfl, cR_of hK hP hU hW⟩⟩ rfl rfl hl.1 rfl (lv_room (Nat.le_of_ble_eq_true rfl)) dX0_hoursLacking_36 ⟨(Nat.le_of_ble_eq_true rfl), (Nat.le_of_ble_eq_true rfl)⟩) (fun r er => ?_)
        subst er
        refine lv_isub hx hb dX0_hoursLacking_39 ?_
        refine va_mmax hx hb (hml.trans hl.1.symm) hown f_1 f_2 f_3 f_4 (Nat.le_of_ble_eq_true rfl) (Nat.le_of_ble_eq_true rfl) (Nat.le_of_ble_eq_true rfl) (Nat.le_of_ble_eq_true rfl) dX0_hoursLacking_40 ?_
        refine cb_topi (z := cMax (nI 0) ((c_wnt S ((b * 10) + i)) - (c_hrs S (u * 10 + i)))) rfl ?_
        refine lv_iadd hx hb dX0_hoursLacking_43 ?_
        refine lv_istore (lv' := [(4, .int ((sm (lackF S u b) i) + (cMax (nI 0) ((c_wnt S ((b * 10) + i)) - (c_hrs S (u * 10 + i)))))), (6, .int (c_wnt S ((b * 10) + i))), (0, .ref (a 5)), (1, .int (nI u)), (2, .int (nI b)), (3, .ref (a 1)), (5, .int (nI i))]) hx hb dX0_hoursLacking_44 hl (by decide) rfl (fun ls hl => ?_)
        refine lv_iinc (v := nI (i + 1)) (lv' := [(5, .int (nI (i + 1))), (4, .int ((sm (lackF S u b) i) + (cMax (nI 0) ((c_wnt S ((b * 10) + i)) - (c_hrs S (u * 10 + i)))))), (6, .int (c_wnt S ((b * 10) + i))), (0, .ref (a 5)), (1, .int (nI u)), (2, .int (nI b)), (3, .ref (a 1))]) hx hb dX0_hoursLacking_46 hl (k := 6) rfl (nI_1 _) (by decide) rfl (fun ls hl => ?_)
        refine lv_goto (tgt := 6) hx hb dX0_hoursLacking_49 (by decide) ?_
        have hl : lv_has ls 7 [(5, .int (nI (i + 1))), (4, .int (sm (lackF S u b) (i + 1))), (6, .int (c_wnt S ((b * 10) + i))), (0, .ref (a 5)), (1, .int (nI u)), (2, .int (nI b)), (3, .ref (a 1))] := cb_loc hl (e := Value.int (sm (lackF S u b) (i + 1))) 1 rfl (congrArg Value.int (show (sm (lackF S u b) i) + (cMax (nI 0) ((c_wnt S ((b * 10) + i)) - (c_hrs S (u * 10 + i)))) = sm (lackF S u b) (i + 1) from rfl))
        exact ih_6 (i + 1) (by omega) (by omega) ls (lv_sub hl [3, 4, 5, 6, 1, 0] rfl)
  have hl : lv_has ls 7 [(5, .int (nI 0)), (4, .int (sm (lackF S u b) 0)), (0, .ref (a 5)), (1, .int (nI u)), (2, .int (nI b)), (3, .ref (a 1))] := cb_loc hl (e := Value.int (sm (lackF S u b) 0)) 1 rfl (congrArg Value.int (show nI 0 = sm (lackF S u b) 0 from rfl))
  exact L_6 (10 + 1) 0 (by omega) (by omega) ls (lv_sub hl [2, 3, 4, 5, 1, 0] rfl)
abbrev rm_X0_distance : Room := { frames := 2, cells := 0, slots := 0, locals := 48 }
set_option maxHeartbeats 4000000 in
set_option maxRecDepth 100000 in
theorem c_X0_distance (l : Launch) (dC : Nat → ClassId) (dI : Nat → Nat → Nat) (a : Nat → Nat) (k : Nat → ClassId) (S : cs_S) (u : Nat) (b : Nat) (hu : u < 30) (hb9 : b < 8) : Met l yX0_distance wsX0_distance rm_X0_distance (va_Pc [.ref (a 5), .int (nI u), .int (nI b), .ref (a 1)] (cR dC dI (cb_w a k S) (cb_ty k))) (vp_Si (fun r => r = dist S u b)) 0 0 (fun _ => False) := by
  refine Met.ofW (cc := cX0_distance) (maxL := 4) (ret := (some .int)) (by decide) rfl ?_
  intro p e s m args below meth c s₁ B hml hv
  obtain ⟨rfl, hP, hK⟩ := hv
  have hx := B.exec
  have hb := B.bytes
  have hr := B.returns
  have hts := atoms_spec (ws := wsX0_distance) B.pre
  have hown : s.vm.findClass RX0 = some m.cls := findClass_of_methodNamed B.named
  have hlocks := B.notSynchronized
  obtain ⟨Q, hQ⟩ : ∃ Q, Q = MQ below (vp_Si (fun r => r = dist S u b)) ([.ref (a 5), .int (nI u), .int (nI b), .ref (a 1)] : List Value).toArray s 0 0 (fun _ => False) := ⟨_, rfl⟩
  show W p l e rm_X0_distance s m _ below meth c s.heap [] 0 0 (MQ below _ _ _ _ _ _) _
  rw [← hQ]
  have i_X0 : ∀ w ∈ wsX00, w ∈ wsX0_distance := fun w h => List.mem_cons_of_mem _ (List.mem_append_right _ h)
  have i_X3 : ∀ w ∈ wsX30, w ∈ wsX0_distance := fun w h => List.mem_cons_of_mem _ (List.mem_append_left _ (List.mem_append_right _ h))
  have f_0 := hts (.fieldLink RX0 18 "CampBook$People" "age" "[I") (by decide +kernel)
  have f_1 := hts (.fieldLink RX0 9 "CampBook$Badges" "leastAge" "[I") (by decide +kernel)
  have f_2 := hts (.fieldLink RX0 23 "CampBook$People" "badges" "[I") (by decide +kernel)
  have hl := lv_entry ([.ref (a 5), .int (nI u), .int (nI b), .ref (a 1)]) (n := 4) (Nat.le_of_ble_eq_true rfl)
  rw [lg_entry_eq]
  generalize (lg_sl ([.ref (a 5), .int (nI u), .int (nI b), .ref (a 1)]) ++ List.replicate (4 - (lg_sl ([.ref (a 5), .int (nI u), .int (nI b), .ref (a 1)])).length) Slot.unset).toArray = ls at hl ⊢
  have hl : lv_has ls 4 [(0, .ref (a 5)), (1, .int (nI u)), (2, .int (nI b)), (3, .ref (a 1))] := hl
  refine lv_aload_n hx hb dX0_distance_0 rfl (lv_at hl 3 rfl) ?_
  refine va_get (D := (dC, dI)) (ci := 3) (v := .ref (a 7)) (C := RX3) (T := TX3) (N := 8) hx hb hts i_X3 hown hK hP 1 rfl rfl 3 (by decide) f_0 (fun _ h9 => h9) rfl dX0_distance_1 ?_
  refine lv_iload_n hx hb dX0_distance_4 rfl (lv_at hl 1 rfl) ?_
  refine cb_iald hx hb hK hP 7 1 (f := c_age S) rfl rfl (j := u) (by omega) (Nat.le_of_ble_eq_true rfl) dX0_distance_5 ?_
  refine lv_aload_n hx hb dX0_distance_6 rfl (lv_at hl 0 rfl) ?_
  refine va_get (D := (dC, dI)) (ci := 0) (v := .ref (a 18)) (C := RX0) (T := TX0) (N := 3) hx hb hts i_X0 hown hK hP 5 rfl rfl 1 (by decide) f_1 (fun _ h9 => h9) rfl dX0_distance_7 ?_
  refine lv_iload_n hx hb dX0_distance_10 rfl (lv_at hl 2 rfl) ?_
  refine cb_iald hx hb hK hP 18 12 (f := c_lag S) rfl rfl (j := b) (by omega) (Nat.le_of_ble_eq_true rfl) dX0_distance_11 ?_
  refine lv_icmp_ge (tgt := 17) hx hb dX0_distance_12 (by decide) (fun c_12 => ?_) (fun c_12 => ?_)
  · skip
    refine lv_aload_n hx hb dX0_distance_17 rfl (lv_at hl 3 rfl) ?_
    refine va_get (D := (dC, dI)) (ci := 3) (v := .ref (a 10)) (C := RX3) (T := TX3) (N := 8) hx hb hts i_X3 hown hK hP 1 rfl rfl 6 (by decide) f_2 (fun _ h9 => h9) rfl dX0_distance_18 ?_
    refine lv_iload_n hx hb dX0_distance_21 rfl (lv_at hl 1 rfl) ?_
    refine cb_iald hx hb hK hP 10 4 (f := c_bad S) rfl rfl (j := u) (by omega) (Nat.le_of_ble_eq_true rfl) dX0_distance_22 ?_
    refine lv_iconst (v := nI 1) hx hb dX0_distance_23 (by decide) ?_
    refine lv_iload_n hx hb dX0_distance_24 rfl (lv_at hl 2 rfl) ?_
    refine lv_ishl hx hb dX0_distance_25 ?_
    refine lv_iand hx hb dX0_distance_26 ?_
    refine lv_if_eq (tgt := 33) hx hb dX0_distance_27 (by decide) (fun c_27 => ?_) (fun c_27 => ?_)
    · skip
      refine lv_aload_n hx hb dX0_distance_33 rfl (lv_at hl 0 rfl) ?_
      refine lv_iload_n hx hb dX0_distance_34 rfl (lv_at hl 1 rfl) ?_
      refine lv_iload_n hx hb dX0_distance_35 rfl (lv_at hl 2 rfl) ?_
      refine lv_aload_n hx hb dX0_distance_36 rfl (lv_at hl 3 rfl) ?_
      refine vp_callSi (W.runV (As := [.int (nI u), .int (nI b), .ref (a 1)]) (rest := []) ⟨hx, hb, hml, hown, hts⟩ (c_X0_hoursLacking l dC dI a k S u b (by omega) (by omega)) (cwV 3 hts gX0_distance_X0_hoursLacking rfl rfl rfl (by decide +kernel) ⟨(Nat.le_of_ble_eq_true rfl), (Nat.le_of_ble_eq_true rfl)⟩) ⟨cR_blind, va_recv hK hP (ci := 0) (q0 := 5) rfl rfl, fun U hU hW => ⟨rfl, cR_of hK hP hU hW⟩⟩ rfl rfl hl.1 rfl (lv_room (Nat.le_of_ble_eq_true rfl)) dX0_distance_37 ⟨(Nat.le_of_ble_eq_true rfl), (Nat.le_of_ble_eq_true rfl)⟩) (fun r er => ?_)
      subst er
      rw [hQ]
      exact W.iret (v := lack S u b) hx hb hr (fun t9 ht9 hW9 => ⟨lack S u b, rfl, (by rw [dist, if_neg (Int32.not_lt.mpr c_12), if_neg (by rw [(andbit (by omega)).mp c_27]; decide)]), ht9⟩) (fun q h => absurd h List.not_mem_nil) dX0_distance_40
    · skip
      refine lv_bipush (v := (-2)) hx hb dX0_distance_30 (by decide) ?_
      rw [hQ]
      exact W.iret (v := (-2)) hx hb hr (fun t9 ht9 hW9 => ⟨(-2), rfl, (by rw [dist, if_neg (Int32.not_lt.mpr c_12), if_pos (by cases hz : bt (c_bad S u) b with | true => rfl | false => exact absurd ((andbit (by omega)).mpr hz) c_27)]), ht9⟩) (fun q h => absurd h List.not_mem_nil) dX0_distance_32
  · skip
    refine lv_iconst (v := (-1)) hx hb dX0_distance_15 (by decide) ?_
    rw [hQ]
    exact W.iret (v := (-1)) hx hb hr (fun t9 ht9 hW9 => ⟨(-1), rfl, (by rw [dist, if_pos (Int32.not_le.mp c_12)]), ht9⟩) (fun q h => absurd h List.not_mem_nil) dX0_distance_16
end CBM
