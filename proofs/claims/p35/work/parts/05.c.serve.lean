section CBM
abbrev rm_X2_serve : Room := { frames := 3, cells := 0, slots := 0, locals := 71 }
set_option maxHeartbeats 4000000 in
set_option maxRecDepth 100000 in
theorem c_X2_serve (l : Launch) (dC : Nat → ClassId) (dI : Nat → Nat → Nat) (a : Nat → Nat) (k : Nat → ClassId) (S : cs_S) (sz : Nat) (mm : Nat) (hm : mm < 10) (hI : Inv S) : Met l yX2_serve wsX2_serve rm_X2_serve (va_Pc [.ref (a 4), .int (nI mm), .ref (a 1)] (cT dC dI sz (cb_w a k S) (cb_ty k))) (va_Qi (fun (r : Int32) (_ : Unit) => r = nI (cntE S mm)) (fun _ t => cB dC dI (va_A (cb_w a k S) sz) (cb_w a k (s_eat (s_me (s_sto S (sv S mm (c_nf S))) (c_me S + 1)) (eatM S mm))) (cb_ty k) t) (va_A (cb_w a k S) sz)) 0 0 (va_A (cb_w a k S) sz) := by
  refine Met.ofW (cc := cX2_serve) (maxL := 7) (ret := (some .int)) (by decide) rfl ?_
  intro p e s m args below meth c s₁ B hml hv
  obtain ⟨rfl, hsz, hP, hK, hD0⟩ := hv
  have hx := B.exec
  have hb := B.bytes
  have hr := B.returns
  have hts := atoms_spec (ws := wsX2_serve) B.pre
  have hown : s.vm.findClass RX2 = some m.cls := findClass_of_methodNamed B.named
  have hlocks := B.notSynchronized
  subst hsz
  have hD := hD0.self (sz := s.heap.size)
  generalize hAe : va_A (cb_w a k S) s.heap.size = A at hD ⊢
  have hA : ∀ q : Nat, s.heap.size ≤ q → A q := fun q h => by rw [← hAe]; exact Or.inr h
  have hS : va_S A s.heap s.heap [] := va_S.rf
  obtain ⟨Q, hQ⟩ : ∃ Q, Q = MQ below (va_Qi (fun (r : Int32) (_ : Unit) => r = nI (cntE S mm)) (fun _ t => cB dC dI A (cb_w a k (s_eat (s_me (s_sto S (sv S mm (c_nf S))) (c_me S + 1)) (eatM S mm))) (cb_ty k) t) A) ([.ref (a 4), .int (nI mm), .ref (a 1)] : List Value).toArray s 0 0 A := ⟨_, rfl⟩
  show W p l e rm_X2_serve s m _ below meth c s.heap [] 0 0 (MQ below _ _ _ _ _ _) _
  rw [← hQ]
  have i_X2 : ∀ w ∈ wsX20, w ∈ wsX2_serve := fun w h => List.mem_cons_of_mem _ (List.mem_append_left _ (List.mem_append_right _ h))
  obtain ⟨⟨hday, hnp, hns, hnt, hnf, hnm, hnb, hme⟩, hpat, hage, hten, hcnt, hplc, heat, hned, hhld, hbad, hbad0, hbag⟩ := id hI
  have f_0 := hts (.fieldLink RX2 18 "CampBook$Kitchen" "foods" "I") (by decide +kernel)
  have f_1 := hts (.fieldLink RX2 55 "CampBook$Kitchen" "ateToday" "J") (by decide +kernel)
  have f_2 := hts (.fieldLink RX2 48 "CampBook$Kitchen" "mealsToday" "I") (by decide +kernel)
  have f_3 := hts (.fieldLink RX2 9 "CampBook$Kitchen" "stores" "[I") (by decide +kernel)
  have hl := lv_entry ([.ref (a 4), .int (nI mm), .ref (a 1)]) (n := 7) (Nat.le_of_ble_eq_true rfl)
  rw [lg_entry_eq]
  generalize (lg_sl ([.ref (a 4), .int (nI mm), .ref (a 1)]) ++ List.replicate (7 - (lg_sl ([.ref (a 4), .int (nI mm), .ref (a 1)])).length) Slot.unset).toArray = ls at hl ⊢
  have hl : lv_has ls 7 [(0, .ref (a 4)), (1, .int (nI mm)), (2, .ref (a 1))] := hl
  refine lv_aload_n hx hb dX2_serve_0 rfl (lv_at hl 0 rfl) ?_
  refine lv_iload_n hx hb dX2_serve_1 rfl (lv_at hl 1 rfl) ?_
  refine lv_aload_n hx hb dX2_serve_2 rfl (lv_at hl 2 rfl) ?_
  refine vp_callSl (W.runV (As := [.int (nI mm), .ref (a 1)]) (rest := []) ⟨hx, hb, hml, hown, hts⟩ (c_X2_eatersOf l dC dI a k S mm (by omega) hI) (cwV 2 hts gX2_serve_X2_eatersOf rfl rfl rfl (by decide +kernel) ⟨(Nat.le_of_ble_eq_true rfl), (Nat.le_of_ble_eq_true rfl)⟩) ⟨cR_blind, va_recv hK hP (ci := 2) (q0 := 4) rfl rfl, fun U hU hW => ⟨rfl, cR_of hK hP hU hW⟩⟩ rfl rfl hl.1 rfl (lv_room (Nat.le_of_ble_eq_true rfl)) dX2_serve_3 ⟨(by show 0 + 0 ≤ 0; omega), (by show 0 + 0 ≤ 0; omega)⟩) (fun r er => ?_)
  subst er
  refine lv_lstore_n (lv' := [(3, .long (lN (bs (canE S mm) (c_ns S)))), (0, .ref (a 4)), (1, .int (nI mm)), (2, .ref (a 1))]) hx hb dX2_serve_6 rfl hl (by decide) rfl (fun ls hl => ?_)
  refine lv_lload_n hx hb dX2_serve_7 rfl (lv_at hl 0 rfl) ?_
  refine vp_callSi (W.runS (As := [.long (lN (bs (canE S mm) (c_ns S)))]) (rest := []) ⟨hx, hb, hml, hown, hts⟩ (c_J13_bitCount_95d88 l (bs (canE S mm) (c_ns S)) (bs_lt32 (by omega))) (va_cwS 1 hts gX2_serve_J13_bitCount_95d88 rfl rfl rfl (by decide +kernel) ⟨(Nat.le_of_ble_eq_true rfl), (Nat.le_of_ble_eq_true rfl)⟩) ⟨cN_blind, fun U hU hW => ⟨rfl, trivial⟩⟩ rfl rfl hl.1 rfl (lv_room (Nat.le_of_ble_eq_true rfl)) dX2_serve_8 ⟨(by show 0 + 0 ≤ 0; omega), (by show 0 + 0 ≤ 0; omega)⟩) (fun r er => ?_)
  subst er
  refine cb_topi (z := nI (cntE S mm)) (congrArg nI (popc_bs (by omega))) ?_
  refine lv_istore (lv' := [(5, .int (nI (cntE S mm))), (3, .long (lN (bs (canE S mm) (c_ns S)))), (0, .ref (a 4)), (1, .int (nI mm)), (2, .ref (a 1))]) hx hb dX2_serve_11 hl (by decide) rfl (fun ls hl => ?_)
  refine lv_iconst (v := nI 0) hx hb dX2_serve_13 (by decide) ?_
  refine lv_istore (lv' := [(6, .int (nI 0)), (5, .int (nI (cntE S mm))), (3, .long (lN (bs (canE S mm) (c_ns S)))), (0, .ref (a 4)), (1, .int (nI mm)), (2, .ref (a 1))]) hx hb dX2_serve_14 hl (by decide) rfl (fun ls hl => ?_)
  have L_16 : ∀ (n i : Nat), i ≤ c_nf S → c_nf S + 1 ≤ i + n → ∀ (H : Heap) (locs : List Loc), va_P (dC, dI) vwCl (cb_W a k (s_sto S (sv S mm i)) (c_sl S) (c_pt S) (c_at S)) H → va_D A (cb_W a k (s_sto S (sv S mm i)) (c_sl S) (c_pt S) (c_at S)) → va_S A s.heap H locs → ∀ (ls : Array Slot), lv_has ls 7 [(0, .ref (a 4)), (1, .int (nI mm)), (2, .ref (a 1)), (3, .long (lN (bs (canE S mm) (c_ns S)))), (5, .int (nI (cntE S mm))), (6, .int (nI i))] → W p l e rm_X2_serve s m ([.ref (a 4), .int (nI mm), .ref (a 1)] : List Value).toArray below meth c H locs 0 0 Q (F0 m 16 ls []) := by
    intro n
    induction n with
    | zero => intro i h1 h2; exact absurd h2 (by omega)
    | succ n ih_16 =>
      intro i hle_16 hfu_16 H locs hP hD hS ls hl
      refine lv_iload hx hb dX2_serve_16 (lv_at hl 5 rfl) ?_
      refine lv_aload_n hx hb dX2_serve_18 rfl (lv_at hl 0 rfl) ?_
      refine va_get (D := (dC, dI)) (ci := 2) (v := .int (nI (c_nf S))) (C := RX2) (T := TX2) (N := 6) hx hb hts i_X2 hown hK hP 4 rfl rfl 0 (by decide) f_0 (fun _ h9 => h9) rfl dX2_serve_19 ?_
      refine lv_icmp_ge (tgt := 51) hx hb dX2_serve_22 (by decide) (fun c_22 => ?_) (fun c_22 => ?_)
      · have c_22 : (c_nf S) ≤ i := cb_ge (by omega) (by omega) c_22
        generalize hf9 : sv S mm i = f9 at hP hD
        refine lv_aload_n hx hb dX2_serve_51 rfl (lv_at hl 0 rfl) ?_
        refine lv_dup hx hb dX2_serve_52 rfl ?_
        refine va_get (D := (dC, dI)) (ci := 2) (v := .long (c_at S)) (C := RX2) (T := TX2) (N := 6) hx hb hts i_X2 hown hK hP 4 rfl rfl 3 (by decide) f_1 (fun _ h9 => h9) rfl dX2_serve_53 ?_
        refine lv_lload_n hx hb dX2_serve_56 rfl (lv_at hl 3 rfl) ?_
        refine lv_lor hx hb dX2_serve_57 ?_
        refine va_put (D := (dC, dI)) (ci := 2) (v := .long ((c_at S) ||| (lN (bs (canE S mm) (c_ns S))))) (ty := .long) (C := RX2) (T := TX2) (N := 6) hx hb hts i_X2 tyX2 tyX2_ok nmX2 hown hK hP hD hS 4 rfl rfl 3 (by decide) f_1 (fun _ h9 => h9) rfl (by decide +kernel) rfl rfl (Nat.le_of_ble_eq_true rfl) dX2_serve_58 (fun H locs hP hD hS => ?_)
        rw [wsC_AZ] at hP hD
        have hP : va_P (dC, dI) vwCl (cb_W a k (s_sto S f9) (c_sl S) (c_pt S) ((c_at S) ||| (lN (bs (canE S mm) (c_ns S))))) H := hP
        have hD : va_D A (cb_W a k (s_sto S f9) (c_sl S) (c_pt S) ((c_at S) ||| (lN (bs (canE S mm) (c_ns S))))) := hD
        refine lv_aload_n hx hb dX2_serve_61 rfl (lv_at hl 0 rfl) ?_
        refine lv_dup hx hb dX2_serve_62 rfl ?_
        refine va_get (D := (dC, dI)) (ci := 2) (v := .int (nI (c_me S))) (C := RX2) (T := TX2) (N := 6) hx hb hts i_X2 hown hK hP 4 rfl rfl 2 (by decide) f_2 (fun _ h9 => h9) rfl dX2_serve_63 ?_
        refine lv_iconst (v := nI 1) hx hb dX2_serve_66 (by decide) ?_
        refine lv_iadd hx hb dX2_serve_67 ?_
        refine cb_topi (nI_add _ _) ?_
        refine va_put (D := (dC, dI)) (ci := 2) (v := .int (nI ((c_me S) + 1))) (ty := .int) (C := RX2) (T := TX2) (N := 6) hx hb hts i_X2 tyX2 tyX2_ok nmX2 hown hK hP hD hS 4 rfl rfl 2 (by decide) f_2 (fun _ h9 => h9) rfl (by decide +kernel) rfl rfl (Nat.le_of_ble_eq_true rfl) dX2_serve_68 (fun H locs hP hD hS => ?_)
        rw [wsC_me] at hP hD
        have hP : va_P (dC, dI) vwCl (cb_W a k (s_me (s_sto S f9) ((c_me S) + 1)) (c_sl S) (c_pt S) ((c_at S) ||| (lN (bs (canE S mm) (c_ns S))))) H := hP
        have hD : va_D A (cb_W a k (s_me (s_sto S f9) ((c_me S) + 1)) (c_sl S) (c_pt S) ((c_at S) ||| (lN (bs (canE S mm) (c_ns S))))) := hD
        refine lv_iload hx hb dX2_serve_71 (lv_at hl 4 rfl) ?_
        have ew : (cb_W a k (s_me (s_sto S f9) ((c_me S) + 1)) (c_sl S) (c_pt S) ((c_at S) ||| (lN (bs (canE S mm) (c_ns S))))) = (cb_w a k (s_eat (s_me (s_sto S (sv S mm (c_nf S))) (c_me S + 1)) (eatM S mm))) := (by rw [show sv S mm (c_nf S) = f9 from by rw [← hf9, show i = c_nf S by omega], c_at_or hns]; exact serve_w)
        have hP : va_P (dC, dI) vwCl (cb_w a k (s_eat (s_me (s_sto S (sv S mm (c_nf S))) (c_me S + 1)) (eatM S mm))) H := by rw [← ew]; exact hP
        have hD : va_D A (cb_w a k (s_eat (s_me (s_sto S (sv S mm (c_nf S))) (c_me S + 1)) (eatM S mm))) := by rw [← ew]; exact hD
        rw [hQ]
        refine W.widen (k := 0) (n := 0) (by omega) (by omega) ?_
        exact W.iret (v := nI (cntE S mm)) hx hb hr (fun t9 ht9 hW9 => ⟨⟨nI (cntE S mm), (), rfl, rfl, cB_of hP hK hD ht9 hW9⟩, hS.F ht9⟩) hS.2.2 dX2_serve_73
      · have c_22 : i < (c_nf S) := cb_nge (by omega) (by omega) c_22
        refine lv_aload_n hx hb dX2_serve_25 rfl (lv_at hl 0 rfl) ?_
        refine va_get (D := (dC, dI)) (ci := 2) (v := .ref (a 16)) (C := RX2) (T := TX2) (N := 6) hx hb hts i_X2 hown hK hP 4 rfl rfl 4 (by decide) f_3 (fun _ h9 => h9) rfl dX2_serve_26 ?_
        refine lv_iload hx hb dX2_serve_29 (lv_at hl 5 rfl) ?_
        refine lv_dup2_11 hx hb dX2_serve_31 rfl rfl ?_
        refine cb_iald hx hb hK hP 16 10 (f := sv S mm i) rfl rfl (j := i) (by omega) (Nat.le_of_ble_eq_true rfl) dX2_serve_32 ?_
        refine lv_aload_n hx hb dX2_serve_33 rfl (lv_at hl 0 rfl) ?_
        refine lv_iload_n hx hb dX2_serve_34 rfl (lv_at hl 1 rfl) ?_
        refine lv_iload hx hb dX2_serve_35 (lv_at hl 5 rfl) ?_
        have hPw : va_P (dC, dI) vwCl (cb_w a k (s_sto S (sv S mm i))) H := by rw [cw_sto]; exact hP
        refine vp_callSi (W.runV (As := [.int (nI mm), .int (nI i)]) (rest := [.int (sv S mm i i), .int (nI i), .ref (a 16)]) ⟨hx, hb, hml, hown, hts⟩ (c_X2_needOf l dC dI a k (s_sto S (sv S mm i)) mm i (by omega) (by omega)) (cwV 2 hts gX2_serve_X2_needOf rfl rfl rfl (by decide +kernel) ⟨(Nat.le_of_ble_eq_true rfl), (Nat.le_of_ble_eq_true rfl)⟩) ⟨cR_blind, va_recv hK hPw (ci := 2) (q0 := 4) rfl rfl, fun U hU hW => ⟨rfl, cR_of hK hPw hU hW⟩⟩ rfl rfl hl.1 rfl (lv_room (Nat.le_of_ble_eq_true rfl)) dX2_serve_37 ⟨(by show 0 + 0 ≤ 0; omega), (by show 0 + 0 ≤ 0; omega)⟩) (fun r er => ?_)
        subst er
        refine cb_topi (z := c_ned S (mm * 12 + i)) rfl ?_
        refine lv_iload hx hb dX2_serve_40 (lv_at hl 4 rfl) ?_
        refine lv_imul hx hb dX2_serve_42 ?_
        refine lv_isub hx hb dX2_serve_43 ?_
        refine cb_iast hx hb hK hP hD hS 16 10 (f := sv S mm i) rfl rfl (j := i) (by omega) (Nat.le_of_ble_eq_true rfl) dX2_serve_44 (fun H locs hP hD hS => ?_)
        rw [wsC_sto, ss_sto] at hP hD
        have hP : va_P (dC, dI) vwCl (cb_W a k (s_sto S (upd (sv S mm i) i ((sv S mm i i) - ((c_ned S (mm * 12 + i)) * (nI (cntE S mm)))))) (c_sl S) (c_pt S) (c_at S)) H := hP
        have hD : va_D A (cb_W a k (s_sto S (upd (sv S mm i) i ((sv S mm i i) - ((c_ned S (mm * 12 + i)) * (nI (cntE S mm)))))) (c_sl S) (c_pt S) (c_at S)) := hD
        refine lv_iinc (v := nI (i + 1)) (lv' := [(6, .int (nI (i + 1))), (0, .ref (a 4)), (1, .int (nI mm)), (2, .ref (a 1)), (3, .long (lN (bs (canE S mm) (c_ns S)))), (5, .int (nI (cntE S mm)))]) hx hb dX2_serve_45 hl (k := 5) rfl (nI_1 _) (by decide) rfl (fun ls hl => ?_)
        refine lv_goto (tgt := 16) hx hb dX2_serve_48 (by decide) ?_
        have ew : (cb_W a k (s_sto S (upd (sv S mm i) i ((sv S mm i i) - ((c_ned S (mm * 12 + i)) * (nI (cntE S mm)))))) (c_sl S) (c_pt S) (c_at S)) = (cb_W a k (s_sto S (sv S mm (i + 1))) (c_sl S) (c_pt S) (c_at S)) := (by rw [sv_s])
        have hP : va_P (dC, dI) vwCl (cb_W a k (s_sto S (sv S mm (i + 1))) (c_sl S) (c_pt S) (c_at S)) H := by rw [← ew]; exact hP
        have hD : va_D A (cb_W a k (s_sto S (sv S mm (i + 1))) (c_sl S) (c_pt S) (c_at S)) := by rw [← ew]; exact hD
        exact ih_16 (i + 1) (by omega) (by omega) H locs hP hD hS ls (lv_sub hl [1, 2, 3, 4, 5, 0] rfl)
  have ew : (cb_W a k S (c_sl S) (c_pt S) (c_at S)) = (cb_W a k (s_sto S (sv S mm 0)) (c_sl S) (c_pt S) (c_at S)) := rfl
  have hP : va_P (dC, dI) vwCl (cb_W a k (s_sto S (sv S mm 0)) (c_sl S) (c_pt S) (c_at S)) s.heap := by rw [← ew]; exact hP
  have hD : va_D A (cb_W a k (s_sto S (sv S mm 0)) (c_sl S) (c_pt S) (c_at S)) := by rw [← ew]; exact hD
  exact L_16 (c_nf S + 1) 0 (by omega) (by omega) s.heap [] hP hD hS ls (lv_sub hl [3, 4, 5, 2, 1, 0] rfl)
end CBM
