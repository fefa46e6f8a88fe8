section CBM
abbrev rm_X6_findTents : Room := { frames := 3, cells := 0, slots := 0, locals := 72 }
set_option maxHeartbeats 4000000 in
set_option maxRecDepth 100000 in
theorem c_X6_findTents (l : Launch) (dC : Nat → ClassId) (dI : Nat → Nat → Nat) (a : Nat → Nat) (k : Nat → ClassId) (S : cs_S) (th : Nat) (sz : Nat) (hI : Inv S) : Met l yX6_findTents wsX6_findTents rm_X6_findTents (va_Pc [.ref (a 0)] (cT dC dI sz (mb_w a k S th) (mb_ty k))) (va_Qi (fun (r : Int32) (_ : Unit) => r = nI (c_out (S_findTents S))) (fun _ t => cB dC dI (va_A (mb_w a k S th) sz) (mb_w a k (S_findTents S) 0) (mb_ty k) t) (va_A (mb_w a k S th) sz)) 0 0 (va_A (mb_w a k S th) sz) := by
  refine Met.ofW (cc := cX6_findTents) (maxL := 3) (ret := (some .int)) (by decide) rfl ?_
  intro p e s m args below meth c s₁ B hml hv
  obtain ⟨rfl, hsz, hP, hK, hD0⟩ := hv
  have hx := B.exec
  have hb := B.bytes
  have hr := B.returns
  have hts := atoms_spec (ws := wsX6_findTents) B.pre
  have hown : s.vm.findClass RX6 = some m.cls := findClass_of_methodNamed B.named
  have hlocks := B.notSynchronized
  subst hsz
  have hD := hD0.self (sz := s.heap.size)
  generalize hAe : va_A (mb_w a k S th) s.heap.size = A at hD ⊢
  have hA : ∀ q : Nat, s.heap.size ≤ q → A q := fun q h => by rw [← hAe]; exact Or.inr h
  have hS : va_S A s.heap s.heap [] := va_S.rf
  obtain ⟨Q, hQ⟩ : ∃ Q, Q = MQ below (va_Qi (fun (r : Int32) (_ : Unit) => r = nI (c_out (S_findTents S))) (fun _ t => cB dC dI A (mb_w a k (S_findTents S) 0) (mb_ty k) t) A) ([.ref (a 0)] : List Value).toArray s 0 0 A := ⟨_, rfl⟩
  show W p l e rm_X6_findTents s m _ below meth c s.heap [] 0 0 (MQ below _ _ _ _ _ _) _
  rw [← hQ]
  have i_X6 : ∀ w ∈ wsX60, w ∈ wsX6_findTents := fun w h => List.mem_cons_of_mem _ (List.mem_append_right _ h)
  obtain ⟨⟨hday, hnp, hns, hnt, hnf, hnm, hnb, hme⟩, hpat, hage, hten, hcnt, hplc, heat, hned, hhld, hbad, hbad0, hbag⟩ := id hI
  have f_0 := hts (.fieldLink RX6 53 "CampBookModel" "thrown" "I") (by decide +kernel)
  have f_1 := hts (.fieldLink RX6 64 "CampBookModel" "scouts" "I") (by decide +kernel)
  have f_2 := hts (.fieldLink RX6 13 "CampBookModel" "ages" "[I") (by decide +kernel)
  have f_3 := hts (.fieldLink RX6 22 "CampBookModel" "tentOf" "[I") (by decide +kernel)
  have hl := lv_entry ([.ref (a 0)]) (n := 3) (Nat.le_of_ble_eq_true rfl)
  rw [lg_entry_eq]
  generalize (lg_sl ([.ref (a 0)]) ++ List.replicate (3 - (lg_sl ([.ref (a 0)])).length) Slot.unset).toArray = ls at hl ⊢
  have hl : lv_has ls 3 [(0, .ref (a 0))] := hl
  refine lv_aload_n hx hb dX6_findTents_0 rfl (lv_at hl 0 rfl) ?_
  refine lv_iconst (v := nI 0) hx hb dX6_findTents_1 (by decide) ?_
  refine va_put (D := (dC, dI)) (ci := 6) (v := .int (nI 0)) (ty := .int) (C := RX6) (T := TX6) (N := 23) hx hb hts i_X6 tyX6 tyX6_ok nmX6 hown hK hP hD hS 0 rfl rfl 0 (by decide) f_0 (fun _ h9 => h9) rfl (by decide +kernel) rfl rfl (Nat.le_of_ble_eq_true rfl) dX6_findTents_2 (fun H locs hP hD hS => ?_)
  rw [wsM_TH] at hP hD
  have hP : va_P (dC, dI) vwCl (mb_w a k S 0) H := hP
  have hD : va_D A (mb_w a k S 0) := hD
  refine lv_bipush (v := nI 17) hx hb dX6_findTents_5 (by decide) ?_
  refine lv_istore_n (lv' := [(1, .int (nI 17)), (0, .ref (a 0))]) hx hb dX6_findTents_7 rfl hl (by decide) rfl (fun ls hl => ?_)
  have L_8 : ∀ (n g : Nat) (T : cs_S), g ≤ 12 → 12 + 1 ≤ g + n → Inv T → c_ns T = c_ns S → T = ftOut S g → ∀ (H : Heap) (locs : List Loc), va_P (dC, dI) vwCl (mb_w a k T 0) H → va_D A (mb_w a k T 0) → va_S A s.heap H locs → ∀ (ls : Array Slot), lv_has ls 3 [(0, .ref (a 0)), (1, .int (nI (17 - g)))] → W p l e rm_X6_findTents s m ([.ref (a 0)] : List Value).toArray below meth c H locs 0 0 Q (F0 m 8 ls []) := by
    intro n
    induction n with
    | zero => intro g T h1 h2; exact absurd h2 (by omega)
    | succ n ih_8 =>
      intro g T hle_8 hfu_8 hJ hTn hTe H locs hP hD hS ls hl
      obtain ⟨⟨bday, bnp, bns, bnt, bnf, bnm, bnb, bme⟩, -⟩ := id hJ
      refine lv_iload_n hx hb dX6_findTents_8 rfl (lv_at hl 1 rfl) ?_
      refine lv_bipush (v := nI 6) hx hb dX6_findTents_9 (by decide) ?_
      refine lv_icmp_lt (tgt := 67) hx hb dX6_findTents_11 (by decide) (fun c_11 => ?_) (fun c_11 => ?_)
      · have c_11 : (17 - g) < 6 := cb_lt (by omega) (by omega) c_11
        refine lv_aload_n hx hb dX6_findTents_67 rfl (lv_at hl 0 rfl) ?_
        refine lv_iconst (v := (-1)) hx hb dX6_findTents_68 (by decide) ?_
        refine lv_iconst (v := (-1)) hx hb dX6_findTents_69 (by decide) ?_
        refine vp_callSi (W.runV (As := [.int (-1), .int (-1)]) (rest := []) ⟨hx, hb, hml, hown, hts⟩ (c_X6_sleepers l dC dI a k T 0 (-1) (-1) (by omega)) (cwV 2 hts gX6_findTents_X6_sleepers rfl rfl rfl (by decide +kernel) ⟨(Nat.le_of_ble_eq_true rfl), (Nat.le_of_ble_eq_true rfl)⟩) ⟨cR_blind, va_recv hK hP (ci := 6) (q0 := 0) rfl rfl, fun U hU hW => ⟨rfl, cR_of hK hP hU hW⟩⟩ rfl rfl hl.1 rfl (lv_room (Nat.le_of_ble_eq_true rfl)) dX6_findTents_70 ⟨(by show 0 + 0 ≤ 0; omega), (by show 0 + 0 ≤ 0; omega)⟩) (fun r er => ?_)
        subst er
        refine cb_topi (z := nI (c_out T)) (congrArg nI slp_out) ?_
        have ew : (mb_w a k T 0) = (mb_w a k (S_findTents S) 0) := (by rw [hTe, show g = 12 by omega]; rfl)
        have hP : va_P (dC, dI) vwCl (mb_w a k (S_findTents S) 0) H := by rw [← ew]; exact hP
        have hD : va_D A (mb_w a k (S_findTents S) 0) := by rw [← ew]; exact hD
        rw [hQ]
        refine W.widen (k := 0) (n := 0) (by omega) (by omega) ?_
        exact W.iret (v := nI (c_out T)) hx hb hr (fun t9 ht9 hW9 => ⟨⟨nI (c_out T), (), rfl, (by rw [hTe, show g = 12 by omega]; rfl), cB_of hP hK hD ht9 hW9⟩, hS.F ht9⟩) hS.2.2 dX6_findTents_73
      · have c_11 : 6 ≤ (17 - g) := cb_nlt (by omega) (by omega) c_11
        refine lv_iconst (v := nI 0) hx hb dX6_findTents_14 (by decide) ?_
        refine lv_istore_n (lv' := [(2, .int (nI 0)), (0, .ref (a 0)), (1, .int (nI (17 - g)))]) hx hb dX6_findTents_15 rfl hl (by decide) rfl (fun ls hl => ?_)
        have L_16 : ∀ (n u : Nat) (T : cs_S), u ≤ c_ns S → c_ns S + 1 ≤ u + n → Inv T → c_ns T = c_ns S → T = ftIn (ftOut S g) (17 - g) u → ∀ (H : Heap) (locs : List Loc), va_P (dC, dI) vwCl (mb_w a k T 0) H → va_D A (mb_w a k T 0) → va_S A s.heap H locs → ∀ (ls : Array Slot), lv_has ls 3 [(0, .ref (a 0)), (1, .int (nI (17 - g))), (2, .int (nI u))] → W p l e rm_X6_findTents s m ([.ref (a 0)] : List Value).toArray below meth c H locs 0 0 Q (F0 m 16 ls []) := by
          intro n
          induction n with
          | zero => intro u T h1 h2; exact absurd h2 (by omega)
          | succ n ih_16 =>
            intro u T hle_16 hfu_16 hJ hTn hTe H locs hP hD hS ls hl
            obtain ⟨⟨bday, bnp, bns, bnt, bnf, bnm, bnb, bme⟩, -⟩ := id hJ
            refine lv_iload_n hx hb dX6_findTents_16 rfl (lv_at hl 2 rfl) ?_
            refine lv_aload_n hx hb dX6_findTents_17 rfl (lv_at hl 0 rfl) ?_
            refine va_get (D := (dC, dI)) (ci := 6) (v := .int (nI (c_ns T))) (C := RX6) (T := TX6) (N := 23) hx hb hts i_X6 hown hK hP 0 rfl rfl 3 (by decide) f_1 (fun _ h9 => h9) rfl dX6_findTents_18 ?_
            refine lv_icmp_ge (tgt := 61) hx hb dX6_findTents_21 (by decide) (fun c_21 => ?_) (fun c_21 => ?_)
            · have c_21 : (c_ns T) ≤ u := cb_ge (by omega) (by omega) c_21
              refine lv_iinc (v := (nI (17 - g)) + Int32.ofInt (-1)) (lv' := [(1, .int ((nI (17 - g)) + Int32.ofInt (-1))), (0, .ref (a 0)), (2, .int (nI u))]) hx hb dX6_findTents_61 hl (k := 1) rfl rfl (by decide) rfl (fun ls hl => ?_)
              refine lv_goto (tgt := 8) hx hb dX6_findTents_64 (by decide) ?_
              have hl : lv_has ls 3 [(1, .int (nI (17 - (g + 1)))), (0, .ref (a 0)), (2, .int (nI u))] := cb_loc hl (e := Value.int (nI (17 - (g + 1)))) 0 rfl (congrArg Value.int (show (nI (17 - g)) + Int32.ofInt (-1) = nI (17 - (g + 1)) from (nI_dec (by omega))))
              exact ih_8 (g + 1) T (by omega) (by omega) hJ hTn (by rw [hTe, show u = c_ns S by omega]; rfl) H locs hP hD hS ls (lv_sub hl [1, 0] rfl)
            · have c_21 : u < (c_ns T) := cb_nge (by omega) (by omega) c_21
              refine lv_aload_n hx hb dX6_findTents_24 rfl (lv_at hl 0 rfl) ?_
              refine va_get (D := (dC, dI)) (ci := 6) (v := .ref (a 2)) (C := RX6) (T := TX6) (N := 23) hx hb hts i_X6 hown hK hP 0 rfl rfl 5 (by decide) f_2 (fun _ h9 => h9) rfl dX6_findTents_25 ?_
              refine lv_iload_n hx hb dX6_findTents_28 rfl (lv_at hl 2 rfl) ?_
              refine cb_iald hx hb hK hP 2 1 (f := c_age T) rfl rfl (j := u) (by omega) (Nat.le_of_ble_eq_true rfl) dX6_findTents_29 ?_
              refine lv_iload_n hx hb dX6_findTents_30 rfl (lv_at hl 1 rfl) ?_
              refine lv_icmp_ne (tgt := 55) hx hb dX6_findTents_31 (by decide) (fun c_31 => ?_) (fun c_31 => ?_)
              · skip
                refine lv_iinc (v := nI (u + 1)) (lv' := [(2, .int (nI (u + 1))), (0, .ref (a 0)), (1, .int (nI (17 - g)))]) hx hb dX6_findTents_55 hl (k := 2) rfl (nI_1 _) (by decide) rfl (fun ls hl => ?_)
                refine lv_goto (tgt := 16) hx hb dX6_findTents_58 (by decide) ?_
                exact ih_16 (u + 1) T (by omega) (by omega) hJ hTn (ftIn_f hTe (fun z => c_31 z.1)) H locs hP hD hS ls (lv_sub hl [1, 2, 0] rfl)
              · skip
                refine lv_aload_n hx hb dX6_findTents_34 rfl (lv_at hl 0 rfl) ?_
                refine va_get (D := (dC, dI)) (ci := 6) (v := .ref (a 5)) (C := RX6) (T := TX6) (N := 23) hx hb hts i_X6 hown hK hP 0 rfl rfl 8 (by decide) f_3 (fun _ h9 => h9) rfl dX6_findTents_35 ?_
                refine lv_iload_n hx hb dX6_findTents_38 rfl (lv_at hl 2 rfl) ?_
                refine cb_iald hx hb hK hP 5 4 (f := c_ten T) rfl rfl (j := u) (by omega) (Nat.le_of_ble_eq_true rfl) dX6_findTents_39 ?_
                refine lv_iconst (v := (-1)) hx hb dX6_findTents_40 (by decide) ?_
                refine lv_icmp_ne (tgt := 55) hx hb dX6_findTents_41 (by decide) (fun c_41 => ?_) (fun c_41 => ?_)
                · skip
                  refine lv_iinc (v := nI (u + 1)) (lv' := [(2, .int (nI (u + 1))), (0, .ref (a 0)), (1, .int (nI (17 - g)))]) hx hb dX6_findTents_55 hl (k := 2) rfl (nI_1 _) (by decide) rfl (fun ls hl => ?_)
                  refine lv_goto (tgt := 16) hx hb dX6_findTents_58 (by decide) ?_
                  exact ih_16 (u + 1) T (by omega) (by omega) hJ hTn (ftIn_f hTe (fun z => c_41 z.2)) H locs hP hD hS ls (lv_sub hl [1, 2, 0] rfl)
                · skip
                  refine lv_aload_n hx hb dX6_findTents_44 rfl (lv_at hl 0 rfl) ?_
                  refine va_get (D := (dC, dI)) (ci := 6) (v := .ref (a 5)) (C := RX6) (T := TX6) (N := 23) hx hb hts i_X6 hown hK hP 0 rfl rfl 8 (by decide) f_3 (fun _ h9 => h9) rfl dX6_findTents_45 ?_
                  refine lv_iload_n hx hb dX6_findTents_48 rfl (lv_at hl 2 rfl) ?_
                  refine lv_aload_n hx hb dX6_findTents_49 rfl (lv_at hl 0 rfl) ?_
                  refine lv_iload_n hx hb dX6_findTents_50 rfl (lv_at hl 2 rfl) ?_
                  refine vp_callSi (W.runV (As := [.int (nI u)]) (rest := [.int (nI u), .ref (a 5)]) ⟨hx, hb, hml, hown, hts⟩ (c_X6_bestTent l dC dI a k T 0 u (by omega) hJ) (cwV 1 hts gX6_findTents_X6_bestTent rfl rfl rfl (by decide +kernel) ⟨(Nat.le_of_ble_eq_true rfl), (Nat.le_of_ble_eq_true rfl)⟩) ⟨cR_blind, va_recv hK hP (ci := 6) (q0 := 0) rfl rfl, fun U hU hW => ⟨rfl, cR_of hK hP hU hW⟩⟩ rfl rfl hl.1 rfl (lv_room (Nat.le_of_ble_eq_true rfl)) dX6_findTents_51 ⟨(by show 0 + 0 ≤ 0; omega), (by show 0 + 0 ≤ 0; omega)⟩) (fun r er => ?_)
                  subst er
                  refine cb_iast hx hb hK hP hD hS 5 4 (f := c_ten T) rfl rfl (j := u) (by omega) (Nat.le_of_ble_eq_true rfl) dX6_findTents_54 (fun H locs hP hD hS => ?_)
                  rw [wsM_ten] at hP hD
                  have hP : va_P (dC, dI) vwCl (mb_w a k (s_ten T (upd (c_ten T) u (oI (bT T u (c_nt T))))) 0) H := hP
                  have hD : va_D A (mb_w a k (s_ten T (upd (c_ten T) u (oI (bT T u (c_nt T))))) 0) := hD
                  refine lv_iinc (v := nI (u + 1)) (lv' := [(2, .int (nI (u + 1))), (0, .ref (a 0)), (1, .int (nI (17 - g)))]) hx hb dX6_findTents_55 hl (k := 2) rfl (nI_1 _) (by decide) rfl (fun ls hl => ?_)
                  refine lv_goto (tgt := 16) hx hb dX6_findTents_58 (by decide) ?_
                  exact ih_16 (u + 1) (s_ten T (upd (c_ten T) u (oI (bT T u (c_nt T))))) (by omega) (by omega) (inv_ft1 (u := u) hJ) hTn (ftIn_t hTe c_31 c_41) H locs hP hD hS ls (lv_sub hl [1, 2, 0] rfl)
        exact L_16 (c_ns S + 1) 0 T (by omega) (by omega) hJ hTn hTe H locs hP hD hS ls (lv_sub hl [1, 2, 0] rfl)
  have hl : lv_has ls 3 [(1, .int (nI (17 - 0))), (0, .ref (a 0))] := cb_loc hl (e := Value.int (nI (17 - 0))) 0 rfl (congrArg Value.int (show nI 17 = nI (17 - 0) from rfl))
  exact L_8 (12 + 1) 0 S (by omega) (by omega) hI rfl rfl H locs hP hD hS ls (lv_sub hl [1, 0] rfl)
abbrev rm_X6_findDuties : Room := { frames := 3, cells := 61, slots := 305, locals := 69 }
set_option maxHeartbeats 4000000 in
set_option maxRecDepth 100000 in
theorem c_X6_findDuties (l : Launch) (dC : Nat → ClassId) (dI : Nat → Nat → Nat) (a : Nat → Nat) (k : Nat → ClassId) (S : cs_S) (th : Nat) (sz : Nat) (hI : Inv S) : Met l yX6_findDuties wsX6_findDuties rm_X6_findDuties (va_Pc [.ref (a 0)] (cT dC dI sz (mb_w a k S th) (mb_ty k))) (va_Qi (fun (r : Int32) (_ : Unit) => r = r_findDuties S) (fun _ t => cB dC dI (va_A (mb_w a k S th) sz) (mb_w a k (S_findDuties S) 0) (mb_ty k) t) (va_A (mb_w a k S th) sz)) 61 305 (va_A (mb_w a k S th) sz) := by
  refine Met.ofW (cc := cX6_findDuties) (maxL := 9) (ret := (some .int)) (by decide) rfl ?_
  intro p e s m args below meth c s₁ B hml hv
  obtain ⟨rfl, hsz, hP, hK, hD0⟩ := hv
  have hx := B.exec
  have hb := B.bytes
  have hr := B.returns
  have hts := atoms_spec (ws := wsX6_findDuties) B.pre
  have hown : s.vm.findClass RX6 = some m.cls := findClass_of_methodNamed B.named
  have hlocks := B.notSynchronized
  subst hsz
  have hD := hD0.self (sz := s.heap.size)
  generalize hAe : va_A (mb_w a k S th) s.heap.size = A at hD ⊢
  have hA : ∀ q : Nat, s.heap.size ≤ q → A q := fun q h => by rw [← hAe]; exact Or.inr h
  have hS : va_S A s.heap s.heap [] := va_S.rf
  obtain ⟨Q, hQ⟩ : ∃ Q, Q = MQ below (va_Qi (fun (r : Int32) (_ : Unit) => r = r_findDuties S) (fun _ t => cB dC dI A (mb_w a k (S_findDuties S) 0) (mb_ty k) t) A) ([.ref (a 0)] : List Value).toArray s 61 305 A := ⟨_, rfl⟩
  show W p l e rm_X6_findDuties s m _ below meth c s.heap [] 0 0 (MQ below _ _ _ _ _ _) _
  rw [← hQ]
  have i_X6 : ∀ w ∈ wsX60, w ∈ wsX6_findDuties := fun w h => List.mem_cons_of_mem _ (List.mem_append_right _ h)
  obtain ⟨⟨hday, hnp, hns, hnt, hnf, hnm, hnb, hme⟩, hpat, hage, hten, hcnt, hplc, heat, hned, hhld, hbad, hbad0, hbag⟩ := id hI
  have f_0 := hts (.fieldLink RX6 53 "CampBookModel" "thrown" "I") (by decide +kernel)
  have f_1 := hts (.arrayClass .int) (by decide +kernel)
  have f_2 := hts (.fieldLink RX6 128 "CampBookModel" "day" "I") (by decide +kernel)
  have f_3 := hts (.fieldLink RX6 57 "CampBookModel" "patrols" "I") (by decide +kernel)
  have f_4 := hts (.fieldLink RX6 38 "CampBookModel" "duties" "[I") (by decide +kernel)
  have hl := lv_entry ([.ref (a 0)]) (n := 9) (Nat.le_of_ble_eq_true rfl)
  rw [lg_entry_eq]
  generalize (lg_sl ([.ref (a 0)]) ++ List.replicate (9 - (lg_sl ([.ref (a 0)])).length) Slot.unset).toArray = ls at hl ⊢
  have hl : lv_has ls 9 [(0, .ref (a 0))] := hl
  refine lv_aload_n hx hb dX6_findDuties_0 rfl (lv_at hl 0 rfl) ?_
  refine lv_iconst (v := nI 0) hx hb dX6_findDuties_1 (by decide) ?_
  refine va_put (D := (dC, dI)) (ci := 6) (v := .int (nI 0)) (ty := .int) (C := RX6) (T := TX6) (N := 23) hx hb hts i_X6 tyX6 tyX6_ok nmX6 hown hK hP hD hS 0 rfl rfl 0 (by decide) f_0 (fun _ h9 => h9) rfl (by decide +kernel) rfl rfl (Nat.le_of_ble_eq_true rfl) dX6_findDuties_2 (fun H locs hP hD hS => ?_)
  rw [wsM_TH] at hP hD
  have hP : va_P (dC, dI) vwCl (mb_w a k S 0) H := hP
  have hD : va_D A (mb_w a k S 0) := hD
  refine lv_iconst (v := nI 5) hx hb dX6_findDuties_5 (by decide) ?_
  refine va_newa (atype := .int) hx hb f_1 rfl hK hP hD hS hA (a0 := (5, .inl (fun _ => 0))) (fun _ => rfl) (by decide) (N' := 5) rfl (by decide) (by show 0 + 1 ≤ 61; omega) (by show 0 + 5 ≤ 305; omega) dX6_findDuties_6 (fun q_6 k_6 H hK hP hD hS => ?_)
  have hP : va_P (dC, dI) vwCl ((mb_w a k S 0) ++ [(q_6, .inl (k_6, (5, .inl (fun _ => 0))))]) H := hP
  have hD : va_D A ((mb_w a k S 0) ++ [(q_6, .inl (k_6, (5, .inl (fun _ => 0))))]) := hD
  refine lv_dup hx hb dX6_findDuties_8 rfl ?_
  refine lv_iconst (v := nI 0) hx hb dX6_findDuties_9 (by decide) ?_
  refine lv_iconst (v := nI 4) hx hb dX6_findDuties_10 (by decide) ?_
  refine cb_iast hx hb hK hP hD hS 15 14 (f := fun _ => 0) rfl rfl (j := 0) (by omega) (Nat.le_of_ble_eq_true rfl) dX6_findDuties_11 (fun H locs hP hD hS => ?_)
  have hP : va_P (dC, dI) vwCl ((mb_w a k S 0) ++ [(q_6, .inl (k_6, (5, .inl (upd (fun _ => 0) 0 (nI 4)))))]) H := hP
  have hD : va_D A ((mb_w a k S 0) ++ [(q_6, .inl (k_6, (5, .inl (upd (fun _ => 0) 0 (nI 4)))))]) := hD
  refine lv_dup hx hb dX6_findDuties_12 rfl ?_
  refine lv_iconst (v := nI 1) hx hb dX6_findDuties_13 (by decide) ?_
  refine lv_iconst (v := nI 2) hx hb dX6_findDuties_14 (by decide) ?_
  refine cb_iast hx hb hK hP hD hS 15 14 (f := upd (fun _ => 0) 0 (nI 4)) rfl rfl (j := 1) (by omega) (Nat.le_of_ble_eq_true rfl) dX6_findDuties_15 (fun H locs hP hD hS => ?_)
  have hP : va_P (dC, dI) vwCl ((mb_w a k S 0) ++ [(q_6, .inl (k_6, (5, .inl (upd (upd (fun _ => 0) 0 (nI 4)) 1 (nI 2)))))]) H := hP
  have hD : va_D A ((mb_w a k S 0) ++ [(q_6, .inl (k_6, (5, .inl (upd (upd (fun _ => 0) 0 (nI 4)) 1 (nI 2)))))]) := hD
  refine lv_dup hx hb dX6_findDuties_16 rfl ?_
  refine lv_iconst (v := nI 2) hx hb dX6_findDuties_17 (by decide) ?_
  refine lv_iconst (v := nI 1) hx hb dX6_findDuties_18 (by decide) ?_
  refine cb_iast hx hb hK hP hD hS 15 14 (f := upd (upd (fun _ => 0) 0 (nI 4)) 1 (nI 2)) rfl rfl (j := 2) (by omega) (Nat.le_of_ble_eq_true rfl) dX6_findDuties_19 (fun H locs hP hD hS => ?_)
  have hP : va_P (dC, dI) vwCl ((mb_w a k S 0) ++ [(q_6, .inl (k_6, (5, .inl (upd (upd (upd (fun _ => 0) 0 (nI 4)) 1 (nI 2)) 2 (nI 1)))))]) H := hP
  have hD : va_D A ((mb_w a k S 0) ++ [(q_6, .inl (k_6, (5, .inl (upd (upd (upd (fun _ => 0) 0 (nI 4)) 1 (nI 2)) 2 (nI 1)))))]) := hD
  refine lv_dup hx hb dX6_findDuties_20 rfl ?_
  refine lv_iconst (v := nI 3) hx hb dX6_findDuties_21 (by decide) ?_
  refine lv_iconst (v := nI 0) hx hb dX6_findDuties_22 (by decide) ?_
  refine cb_iast hx hb hK hP hD hS 15 14 (f := upd (upd (upd (fun _ => 0) 0 (nI 4)) 1 (nI 2)) 2 (nI 1)) rfl rfl (j := 3) (by omega) (Nat.le_of_ble_eq_true rfl) dX6_findDuties_23 (fun H locs hP hD hS => ?_)
  have hP : va_P (dC, dI) vwCl ((mb_w a k S 0) ++ [(q_6, .inl (k_6, (5, .inl (upd (upd (upd (upd (fun _ => 0) 0 (nI 4)) 1 (nI 2)) 2 (nI 1)) 3 (nI 0)))))]) H := hP
  have hD : va_D A ((mb_w a k S 0) ++ [(q_6, .inl (k_6, (5, .inl (upd (upd (upd (upd (fun _ => 0) 0 (nI 4)) 1 (nI 2)) 2 (nI 1)) 3 (nI 0)))))]) := hD
  refine lv_dup hx hb dX6_findDuties_24 rfl ?_
  refine lv_iconst (v := nI 4) hx hb dX6_findDuties_25 (by decide) ?_
  refine lv_iconst (v := nI 3) hx hb dX6_findDuties_26 (by decide) ?_
  refine cb_iast hx hb hK hP hD hS 15 14 (f := upd (upd (upd (upd (fun _ => 0) 0 (nI 4)) 1 (nI 2)) 2 (nI 1)) 3 (nI 0)) rfl rfl (j := 4) (by omega) (Nat.le_of_ble_eq_true rfl) dX6_findDuties_27 (fun H locs hP hD hS => ?_)
  have hP : va_P (dC, dI) vwCl ((mb_w a k S 0) ++ [(q_6, .inl (k_6, (5, .inl (upd (upd (upd (upd (upd (fun _ => 0) 0 (nI 4)) 1 (nI 2)) 2 (nI 1)) 3 (nI 0)) 4 (nI 3)))))]) H := hP
  have hD : va_D A ((mb_w a k S 0) ++ [(q_6, .inl (k_6, (5, .inl (upd (upd (upd (upd (upd (fun _ => 0) 0 (nI 4)) 1 (nI 2)) 2 (nI 1)) 3 (nI 0)) 4 (nI 3)))))]) := hD
  refine lv_astore_n (lv' := [(1, .ref q_6), (0, .ref (a 0))]) hx hb dX6_findDuties_28 rfl hl (by decide) rfl (fun ls hl => ?_)
  generalize hF9 : (upd (upd (upd (upd (upd (fun _ => 0) 0 (nI 4)) 1 (nI 2)) 2 (nI 1)) 3 (nI 0)) 4 (nI 3)) = F9 at hP hD
  have hT9 : ∀ j, j < 5 → F9 j = dO j := by subst hF9; exact lt5 rfl rfl rfl rfl rfl
  refine lv_iconst (v := nI 0) hx hb dX6_findDuties_29 (by decide) ?_
  refine lv_istore_n (lv' := [(2, .int (nI 0)), (1, .ref q_6), (0, .ref (a 0))]) hx hb dX6_findDuties_30 rfl hl (by decide) rfl (fun ls hl => ?_)
  refine lv_aload_n hx hb dX6_findDuties_31 rfl (lv_at hl 1 rfl) ?_
  refine lv_astore_n (lv' := [(3, .ref q_6), (2, .int (nI 0)), (1, .ref q_6), (0, .ref (a 0))]) hx hb dX6_findDuties_32 rfl hl (by decide) rfl (fun ls hl => ?_)
  refine lv_aload_n hx hb dX6_findDuties_33 rfl (lv_at hl 0 rfl) ?_
  refine va_alen hx hb hK hP 15 14 rfl rfl (v := nI 5) rfl dX6_findDuties_34 ?_
  refine lv_istore (lv' := [(4, .int (nI 5)), (3, .ref q_6), (2, .int (nI 0)), (1, .ref q_6), (0, .ref (a 0))]) hx hb dX6_findDuties_35 hl (by decide) rfl (fun ls hl => ?_)
  refine lv_iconst (v := nI 0) hx hb dX6_findDuties_37 (by decide) ?_
  refine lv_istore (lv' := [(5, .int (nI 0)), (4, .int (nI 5)), (3, .ref q_6), (2, .int (nI 0)), (1, .ref q_6), (0, .ref (a 0))]) hx hb dX6_findDuties_38 hl (by decide) rfl (fun ls hl => ?_)
  have L_40 : ∀ (n i : Nat) (T : cs_S), i ≤ 5 → 5 + 1 ≤ i + n → Inv T → T = fdF S i → ∀ (H : Heap) (locs : List Loc), va_P (dC, dI) vwCl ((mb_w a k T 0) ++ [(q_6, .inl (k_6, (5, .inl (F9))))]) H → va_D A ((mb_w a k T 0) ++ [(q_6, .inl (k_6, (5, .inl (F9))))]) → va_S A s.heap H locs → ∀ (ls : Array Slot), lv_has ls 9 [(0, .ref (a 0)), (1, .ref q_6), (2, .int (nI (fb_ct (lfF T) i))), (3, .ref q_6), (4, .int (nI 5)), (5, .int (nI i))] → W p l e rm_X6_findDuties s m ([.ref (a 0)] : List Value).toArray below meth c H locs (1 + 12 * i) (5 + 60 * i) Q (F0 m 40 ls []) := by
    intro n
    induction n with
    | zero => intro i T h1 h2; exact absurd h2 (by omega)
    | succ n ih_40 =>
      intro i T hle_40 hfu_40 hJ hTe H locs hP hD hS ls hl
      obtain ⟨⟨bday, bnp, bns, bnt, bnf, bnm, bnb, bme⟩, -⟩ := id hJ
      have hdq := dON_lt i
      refine lv_iload hx hb dX6_findDuties_40 (lv_at hl 5 rfl) ?_
      refine lv_iload hx hb dX6_findDuties_42 (lv_at hl 4 rfl) ?_
      refine lv_icmp_ge (tgt := 167) hx hb dX6_findDuties_44 (by decide) (fun c_44 => ?_) (fun c_44 => ?_)
      · have c_44 : 5 ≤ i := cb_ge (by omega) (by omega) c_44
        refine lv_iload_n hx hb dX6_findDuties_167 rfl (lv_at hl 2 rfl) ?_
        have hP := hP.sub (ws' := (mb_w a k T 0)) [0, 1, 2, 3, 4, 5, 6, 7, 8, 9, 10, 11, 12, 13, 14] rfl
        have hD := hD.sub (ws' := (mb_w a k T 0)) [0, 1, 2, 3, 4, 5, 6, 7, 8, 9, 10, 11, 12, 13, 14] (by decide) rfl
        have hK := hK.sub (tys' := (mb_ty k)) [0, 1, 2, 3, 4, 5, 6, 7, 8, 9, 10, 11, 12, 13] rfl
        have ew : (mb_w a k T 0) = (mb_w a k (S_findDuties S) 0) := (by rw [hTe, show i = 5 by omega]; rfl)
        have hP : va_P (dC, dI) vwCl (mb_w a k (S_findDuties S) 0) H := by rw [← ew]; exact hP
        have hD : va_D A (mb_w a k (S_findDuties S) 0) := by rw [← ew]; exact hD
        rw [hQ]
        refine W.widen (k := 61) (n := 305) (by omega) (by omega) ?_
        exact W.iret (v := nI (fb_ct (lfF T) i)) hx hb hr (fun t9 ht9 hW9 => ⟨⟨nI (fb_ct (lfF T) i), (), rfl, (by rw [show i = 5 by omega] at hTe ⊢; rw [lf_5, hTe]; rfl), cB_of hP hK hD ht9 hW9⟩, hS.F ht9⟩) hS.2.2 dX6_findDuties_168
      · have c_44 : i < 5 := cb_nge (by omega) (by omega) c_44
        refine lv_aload_n hx hb dX6_findDuties_47 rfl (lv_at hl 3 rfl) ?_
        refine lv_iload hx hb dX6_findDuties_48 (lv_at hl 5 rfl) ?_
        refine cb_iald hx hb hK hP 15 14 (f := F9) rfl rfl (j := i) (by omega) (Nat.le_of_ble_eq_true rfl) dX6_findDuties_50 ?_
        refine cb_topi (z := nI (dON i)) ((hT9 i (by omega)).trans (dO_nI i)) ?_
        refine lv_istore (lv' := [(6, .int (nI (dON i))), (0, .ref (a 0)), (1, .ref q_6), (2, .int (nI (fb_ct (lfF T) i))), (3, .ref q_6), (4, .int (nI 5)), (5, .int (nI i))]) hx hb dX6_findDuties_51 hl (by decide) rfl (fun ls hl => ?_)
        refine lv_aload_n hx hb dX6_findDuties_53 rfl (lv_at hl 1 rfl) ?_
        refine lv_aload_n hx hb dX6_findDuties_54 rfl (lv_at hl 1 rfl) ?_
        refine va_get (D := (dC, dI)) (ci := 6) (v := .int (nI (c_day T))) (C := RX6) (T := TX6) (N := 23) hx hb hts i_X6 hown hK hP 0 rfl rfl 1 (by decide) f_2 (fun _ h9 => h9) rfl dX6_findDuties_55 ?_
        refine lv_iload hx hb dX6_findDuties_58 (lv_at hl 0 rfl) ?_
        have hPc := hP.sub (ws' := (mb_w a k T 0)) [0, 1, 2, 3, 4, 5, 6, 7, 8, 9, 10, 11, 12, 13, 14] rfl
        have hDc := hD.sub (ws' := (mb_w a k T 0)) [0, 1, 2, 3, 4, 5, 6, 7, 8, 9, 10, 11, 12, 13, 14] (by decide) rfl
        have hKc := hK.sub (tys' := (mb_ty k)) [0, 1, 2, 3, 4, 5, 6, 7, 8, 9, 10, 11, 12, 13] rfl
        refine vp_callSi (W.runV (As := [.int (nI (c_day T)), .int (nI (dON i))]) (rest := []) ⟨hx, hb, hml, hown, hts⟩ (c_X6_at l dC dI a k T 0 (nI (c_day T)) (dON i) hdq) (cwV 2 hts gX6_findDuties_X6_at rfl rfl rfl (by decide +kernel) ⟨(Nat.le_of_ble_eq_true rfl), (Nat.le_of_ble_eq_true rfl)⟩) ⟨cR_blind, va_recv hKc hPc (ci := 6) (q0 := 0) rfl rfl, fun U hU hW => ⟨rfl, cR_of hKc hPc hU hW⟩⟩ rfl rfl hl.1 rfl (lv_room (Nat.le_of_ble_eq_true rfl)) dX6_findDuties_60 ⟨(by show (1 + 12 * i) + 0 ≤ 61; omega), (by show (5 + 60 * i) + 0 ≤ 305; omega)⟩) (fun r er => ?_)
        subst er
        refine cb_topi (z := c_hld T (c_day T * 5 + dON i)) (hol_nI hJ.1.1) ?_
        refine lv_iconst (v := (-1)) hx hb dX6_findDuties_63 (by decide) ?_
        refine lv_icmp_eq (tgt := 70) hx hb dX6_findDuties_64 (by decide) (fun c_64 => ?_) (fun c_64 => ?_)
        · skip
          refine lv_iconst (v := (-1)) hx hb dX6_findDuties_70 (by decide) ?_
          refine lv_istore (lv' := [(7, .int (-1)), (6, .int (nI (dON i))), (0, .ref (a 0)), (1, .ref q_6), (2, .int (nI (fb_ct (lfF T) i))), (3, .ref q_6), (4, .int (nI 5)), (5, .int (nI i))]) hx hb dX6_findDuties_71 hl (by decide) rfl (fun ls hl => ?_)
          refine lv_iconst (v := nI 0) hx hb dX6_findDuties_73 (by decide) ?_
          refine lv_istore (lv' := [(8, .int (nI 0)), (7, .int (-1)), (6, .int (nI (dON i))), (0, .ref (a 0)), (1, .ref q_6), (2, .int (nI (fb_ct (lfF T) i))), (3, .ref q_6), (4, .int (nI 5)), (5, .int (nI i))]) hx hb dX6_findDuties_74 hl (by decide) rfl (fun ls hl => ?_)
          have L_76 : ∀ (n v : Nat), v ≤ c_np T → c_np T + 1 ≤ v + n → ∀ (H : Heap) (locs : List Loc), va_P (dC, dI) vwCl ((mb_w a k T 0) ++ [(q_6, .inl (k_6, (5, .inl (F9))))]) H → va_D A ((mb_w a k T 0) ++ [(q_6, .inl (k_6, (5, .inl (F9))))]) → va_S A s.heap H locs → ∀ (ls : Array Slot), lv_has ls 9 [(0, .ref (a 0)), (1, .ref q_6), (2, .int (nI (fb_ct (lfF T) i))), (3, .ref q_6), (4, .int (nI 5)), (5, .int (nI i)), (6, .int (nI (dON i))), (7, .int (oI (bD T (c_day T) (dON i) v))), (8, .int (nI v))] → W p l e rm_X6_findDuties s m ([.ref (a 0)] : List Value).toArray below meth c H locs (1 + 12 * i + 2 * v) (5 + 60 * i + 10 * v) Q (F0 m 76 ls []) := by
            intro n
            induction n with
            | zero => intro v h1 h2; exact absurd h2 (by omega)
            | succ n ih_76 =>
              intro v hle_76 hfu_76 H locs hP hD hS ls hl
              refine lv_iload hx hb dX6_findDuties_76 (lv_at hl 8 rfl) ?_
              refine lv_aload_n hx hb dX6_findDuties_78 rfl (lv_at hl 0 rfl) ?_
              refine va_get (D := (dC, dI)) (ci := 6) (v := .int (nI (c_np T))) (C := RX6) (T := TX6) (N := 23) hx hb hts i_X6 hown hK hP 0 rfl rfl 2 (by decide) f_3 (fun _ h9 => h9) rfl dX6_findDuties_79 ?_
              refine lv_icmp_ge (tgt := 131) hx hb dX6_findDuties_82 (by decide) (fun c_82 => ?_) (fun c_82 => ?_)
              · have c_82 : (c_np T) ≤ v := cb_ge (by omega) (by omega) c_82
                have e9 : v = c_np T := by omega
                subst e9
                refine lv_aload_n hx hb dX6_findDuties_131 rfl (lv_at hl 0 rfl) ?_
                refine va_get (D := (dC, dI)) (ci := 6) (v := .ref (a 10)) (C := RX6) (T := TX6) (N := 23) hx hb hts i_X6 hown hK hP 0 rfl rfl 14 (by decide) f_4 (fun _ h9 => h9) rfl dX6_findDuties_132 ?_
                refine lv_iconst (v := nI 5) hx hb dX6_findDuties_135 (by decide) ?_
                refine lv_aload_n hx hb dX6_findDuties_136 rfl (lv_at hl 0 rfl) ?_
                refine va_get (D := (dC, dI)) (ci := 6) (v := .int (nI (c_day T))) (C := RX6) (T := TX6) (N := 23) hx hb hts i_X6 hown hK hP 0 rfl rfl 1 (by decide) f_2 (fun _ h9 => h9) rfl dX6_findDuties_137 ?_
                refine lv_imul hx hb dX6_findDuties_140 ?_
                refine cb_topi (pk_mul _ _) ?_
                refine lv_iload hx hb dX6_findDuties_141 (lv_at hl 6 rfl) ?_
                refine lv_iadd hx hb dX6_findDuties_143 ?_
                refine cb_topi (nI_add _ _) ?_
                refine cb_topi (z := nI (c_day T * 5 + dON i)) (congrArg nI (by omega)) ?_
                refine lv_iload hx hb dX6_findDuties_144 (lv_at hl 7 rfl) ?_
                refine cb_iast hx hb hK hP hD hS 10 9 (f := c_hld T) rfl rfl (j := c_day T * 5 + dON i) (by omega) (Nat.le_of_ble_eq_true rfl) dX6_findDuties_146 (fun H locs hP hD hS => ?_)
                rw [wsMX_hld] at hP hD
                have hP : va_P (dC, dI) vwCl ((mb_w a k (s_hld T (upd (c_hld T) (c_day T * 5 + dON i) (oI (bD T (c_day T) (dON i) (c_np T))))) 0) ++ [(q_6, .inl (k_6, (5, .inl (F9))))]) H := hP
                have hD : va_D A ((mb_w a k (s_hld T (upd (c_hld T) (c_day T * 5 + dON i) (oI (bD T (c_day T) (dON i) (c_np T))))) 0) ++ [(q_6, .inl (k_6, (5, .inl (F9))))]) := hD
                have hP : va_P (dC, dI) vwCl ((mb_w a k (fd1 T (dON i)) 0) ++ [(q_6, .inl (k_6, (5, .inl (F9))))]) H := hP
                have hD : va_D A ((mb_w a k (fd1 T (dON i)) 0) ++ [(q_6, .inl (k_6, (5, .inl (F9))))]) := hD
                refine lv_iload_n hx hb dX6_findDuties_147 rfl (lv_at hl 2 rfl) ?_
                refine lv_iload hx hb dX6_findDuties_148 (lv_at hl 7 rfl) ?_
                refine lv_iconst (v := (-1)) hx hb dX6_findDuties_150 (by decide) ?_
                refine lv_icmp_ne (tgt := 158) hx hb dX6_findDuties_151 (by decide) (fun c_151 => ?_) (fun c_151 => ?_)
                · skip
                  refine lv_iconst (v := nI 0) hx hb dX6_findDuties_158 (by decide) ?_
                  refine lv_iadd hx hb dX6_findDuties_159 ?_
                  refine cb_topi (nI_add _ _) ?_
                  refine lv_istore_n (lv' := [(2, .int (nI ((fb_ct (lfF T) i) + 0))), (0, .ref (a 0)), (1, .ref q_6), (3, .ref q_6), (4, .int (nI 5)), (5, .int (nI i)), (6, .int (nI (dON i))), (7, .int (oI (bD T (c_day T) (dON i) (c_np T)))), (8, .int (nI (c_np T)))]) hx hb dX6_findDuties_160 rfl hl (by decide) rfl (fun ls hl => ?_)
                  refine lv_iinc (v := nI (i + 1)) (lv' := [(5, .int (nI (i + 1))), (2, .int (nI ((fb_ct (lfF T) i) + 0))), (0, .ref (a 0)), (1, .ref q_6), (3, .ref q_6), (4, .int (nI 5)), (6, .int (nI (dON i))), (7, .int (oI (bD T (c_day T) (dON i) (c_np T)))), (8, .int (nI (c_np T)))]) hx hb dX6_findDuties_161 hl (k := 5) rfl (nI_1 _) (by decide) rfl (fun ls hl => ?_)
                  refine lv_goto (tgt := 40) hx hb dX6_findDuties_164 (by decide) ?_
                  have hl : lv_has ls 9 [(5, .int (nI (i + 1))), (2, .int (nI (fb_ct (lfF (fd1 T (dON i))) (i + 1)))), (0, .ref (a 0)), (1, .ref q_6), (3, .ref q_6), (4, .int (nI 5)), (6, .int (nI (dON i))), (7, .int (oI (bD T (c_day T) (dON i) (c_np T)))), (8, .int (nI (c_np T)))] := cb_loc hl (e := Value.int (nI (fb_ct (lfF (fd1 T (dON i))) (i + 1)))) 1 rfl (congrArg Value.int (show nI ((fb_ct (lfF T) i) + 0) = nI (fb_ct (lfF (fd1 T (dON i))) (i + 1)) from (by rw [fb_ct_succ, lf_fd1 (by omega), lf_last, decide_eq_false c_151]; rfl)))
                  refine W.widen (k := (1 + 12 * (i + 1))) (n := (5 + 60 * (i + 1))) (by omega) (by omega) ?_
                  exact ih_40 (i + 1) (fd1 T (dON i)) (by omega) (by omega) (inv_fd1 hJ) (fdF_t hTe c_64) H locs hP hD hS ls (lv_sub hl [2, 3, 1, 4, 5, 0] rfl)
                · skip
                  refine lv_iconst (v := nI 1) hx hb dX6_findDuties_154 (by decide) ?_
                  refine lv_goto (tgt := 159) hx hb dX6_findDuties_155 (by decide) ?_
                  refine lv_iadd hx hb dX6_findDuties_159 ?_
                  refine cb_topi (nI_add _ _) ?_
                  refine lv_istore_n (lv' := [(2, .int (nI ((fb_ct (lfF T) i) + 1))), (0, .ref (a 0)), (1, .ref q_6), (3, .ref q_6), (4, .int (nI 5)), (5, .int (nI i)), (6, .int (nI (dON i))), (7, .int (oI (bD T (c_day T) (dON i) (c_np T)))), (8, .int (nI (c_np T)))]) hx hb dX6_findDuties_160 rfl hl (by decide) rfl (fun ls hl => ?_)
                  refine lv_iinc (v := nI (i + 1)) (lv' := [(5, .int (nI (i + 1))), (2, .int (nI ((fb_ct (lfF T) i) + 1))), (0, .ref (a 0)), (1, .ref q_6), (3, .ref q_6), (4, .int (nI 5)), (6, .int (nI (dON i))), (7, .int (oI (bD T (c_day T) (dON i) (c_np T)))), (8, .int (nI (c_np T)))]) hx hb dX6_findDuties_161 hl (k := 5) rfl (nI_1 _) (by decide) rfl (fun ls hl => ?_)
                  refine lv_goto (tgt := 40) hx hb dX6_findDuties_164 (by decide) ?_
                  have hl : lv_has ls 9 [(5, .int (nI (i + 1))), (2, .int (nI (fb_ct (lfF (fd1 T (dON i))) (i + 1)))), (0, .ref (a 0)), (1, .ref q_6), (3, .ref q_6), (4, .int (nI 5)), (6, .int (nI (dON i))), (7, .int (oI (bD T (c_day T) (dON i) (c_np T)))), (8, .int (nI (c_np T)))] := cb_loc hl (e := Value.int (nI (fb_ct (lfF (fd1 T (dON i))) (i + 1)))) 1 rfl (congrArg Value.int (show nI ((fb_ct (lfF T) i) + 1) = nI (fb_ct (lfF (fd1 T (dON i))) (i + 1)) from (by rw [fb_ct_succ, lf_fd1 (by omega), lf_last, decide_eq_true c_151]; rfl)))
                  refine W.widen (k := (1 + 12 * (i + 1))) (n := (5 + 60 * (i + 1))) (by omega) (by omega) ?_
                  exact ih_40 (i + 1) (fd1 T (dON i)) (by omega) (by omega) (inv_fd1 hJ) (fdF_t hTe c_64) H locs hP hD hS ls (lv_sub hl [2, 3, 1, 4, 5, 0] rfl)
              · have c_82 : v < (c_np T) := cb_nge (by omega) (by omega) c_82
                refine lv_aload_n hx hb dX6_findDuties_85 rfl (lv_at hl 0 rfl) ?_
                refine lv_aload_n hx hb dX6_findDuties_86 rfl (lv_at hl 0 rfl) ?_
                refine va_get (D := (dC, dI)) (ci := 6) (v := .int (nI (c_day T))) (C := RX6) (T := TX6) (N := 23) hx hb hts i_X6 hown hK hP 0 rfl rfl 1 (by decide) f_2 (fun _ h9 => h9) rfl dX6_findDuties_87 ?_
                refine lv_iload hx hb dX6_findDuties_90 (lv_at hl 6 rfl) ?_
                refine lv_iload hx hb dX6_findDuties_92 (lv_at hl 8 rfl) ?_
                have hPc := hP.sub (ws' := (mb_w a k T 0)) [0, 1, 2, 3, 4, 5, 6, 7, 8, 9, 10, 11, 12, 13, 14] rfl
                have hDc := hD.sub (ws' := (mb_w a k T 0)) [0, 1, 2, 3, 4, 5, 6, 7, 8, 9, 10, 11, 12, 13, 14] (by decide) rfl
                have hKc := hK.sub (tys' := (mb_ty k)) [0, 1, 2, 3, 4, 5, 6, 7, 8, 9, 10, 11, 12, 13] rfl
                refine vp_callSi (W.runV (As := [.int (nI (c_day T)), .int (nI (dON i)), .int (nI v)]) (rest := []) ⟨hx, hb, hml, hown, hts⟩ (c_X6_canBeGiven l dC dI a k T 0 (c_day T) (dON i) v hJ.1.1 hdq (by omega) hJ) (cwV 3 hts gX6_findDuties_X6_canBeGiven rfl rfl rfl (by decide +kernel) ⟨(Nat.le_of_ble_eq_true rfl), (Nat.le_of_ble_eq_true rfl)⟩) ⟨cR_blind, va_recv hKc hPc (ci := 6) (q0 := 0) rfl rfl, fun U hU hW => ⟨rfl, cR_of hKc hPc hU hW⟩⟩ rfl rfl hl.1 rfl (lv_room (Nat.le_of_ble_eq_true rfl)) dX6_findDuties_94 ⟨(by show (1 + 12 * i + 2 * v) + 0 ≤ 61; omega), (by show (5 + 60 * i + 10 * v) + 0 ≤ 305; omega)⟩) (fun r er => ?_)
                subst er
                refine lv_if_eq (tgt := 125) hx hb dX6_findDuties_97 (by decide) (fun c_97 => ?_) (fun c_97 => ?_)
                · have c_97 : (canG T (c_day T) (dON i) v) = false := bI_0 c_97
                  refine lv_iinc (v := nI (v + 1)) (lv' := [(8, .int (nI (v + 1))), (0, .ref (a 0)), (1, .ref q_6), (2, .int (nI (fb_ct (lfF T) i))), (3, .ref q_6), (4, .int (nI 5)), (5, .int (nI i)), (6, .int (nI (dON i))), (7, .int (oI (bD T (c_day T) (dON i) v)))]) hx hb dX6_findDuties_125 hl (k := 8) rfl (nI_1 _) (by decide) rfl (fun ls hl => ?_)
                  refine lv_goto (tgt := 76) hx hb dX6_findDuties_128 (by decide) ?_
                  have hl : lv_has ls 9 [(8, .int (nI (v + 1))), (0, .ref (a 0)), (1, .ref q_6), (2, .int (nI (fb_ct (lfF T) i))), (3, .ref q_6), (4, .int (nI 5)), (5, .int (nI i)), (6, .int (nI (dON i))), (7, .int (oI (bD T (c_day T) (dON i) (v + 1))))] := cb_loc hl (e := Value.int (oI (bD T (c_day T) (dON i) (v + 1)))) 8 rfl (congrArg Value.int (show oI (bD T (c_day T) (dON i) v) = oI (bD T (c_day T) (dON i) (v + 1)) from (bD_no1 c_97)))
                  refine W.widen (k := (1 + 12 * i + 2 * (v + 1))) (n := (5 + 60 * i + 10 * (v + 1))) (by omega) (by omega) ?_
                  exact ih_76 (v + 1) (by omega) (by omega) H locs hP hD hS ls (lv_sub hl [1, 2, 3, 4, 5, 6, 7, 8, 0] rfl)
                · have c_97 : (canG T (c_day T) (dON i) v) = true := bI_n c_97
                  refine lv_iload hx hb dX6_findDuties_100 (lv_at hl 7 rfl) ?_
                  refine lv_iconst (v := (-1)) hx hb dX6_findDuties_102 (by decide) ?_
                  refine lv_icmp_eq (tgt := 121) hx hb dX6_findDuties_103 (by decide) (fun c_103 => ?_) (fun c_103 => ?_)
                  · skip
                    have eb9 := oI_none c_103 (fun b hb => Nat.lt_trans (bD_lt hb) (by omega))
                    refine lv_iload hx hb dX6_findDuties_121 (lv_at hl 8 rfl) ?_
                    refine lv_istore (lv' := [(7, .int (nI v)), (0, .ref (a 0)), (1, .ref q_6), (2, .int (nI (fb_ct (lfF T) i))), (3, .ref q_6), (4, .int (nI 5)), (5, .int (nI i)), (6, .int (nI (dON i))), (8, .int (nI v))]) hx hb dX6_findDuties_123 hl (by decide) rfl (fun ls hl => ?_)
                    refine lv_iinc (v := nI (v + 1)) (lv' := [(8, .int (nI (v + 1))), (7, .int (nI v)), (0, .ref (a 0)), (1, .ref q_6), (2, .int (nI (fb_ct (lfF T) i))), (3, .ref q_6), (4, .int (nI 5)), (5, .int (nI i)), (6, .int (nI (dON i)))]) hx hb dX6_findDuties_125 hl (k := 8) rfl (nI_1 _) (by decide) rfl (fun ls hl => ?_)
                    refine lv_goto (tgt := 76) hx hb dX6_findDuties_128 (by decide) ?_
                    have hl : lv_has ls 9 [(8, .int (nI (v + 1))), (7, .int (oI (bD T (c_day T) (dON i) (v + 1)))), (0, .ref (a 0)), (1, .ref q_6), (2, .int (nI (fb_ct (lfF T) i))), (3, .ref q_6), (4, .int (nI 5)), (5, .int (nI i)), (6, .int (nI (dON i)))] := cb_loc hl (e := Value.int (oI (bD T (c_day T) (dON i) (v + 1)))) 1 rfl (congrArg Value.int (show nI v = oI (bD T (c_day T) (dON i) (v + 1)) from (bD_yes (by rw [eb9]; rfl) c_97)))
                    refine W.widen (k := (1 + 12 * i + 2 * (v + 1))) (n := (5 + 60 * i + 10 * (v + 1))) (by omega) (by omega) ?_
                    exact ih_76 (v + 1) (by omega) (by omega) H locs hP hD hS ls (lv_sub hl [2, 3, 4, 5, 6, 7, 8, 1, 0] rfl)
                  · skip
                    obtain ⟨b9, eb9⟩ := oI_some c_103
                    have hb9 := bD_lt eb9
                    have eo9 : oI (bD T (c_day T) (dON i) v) = nI b9 := by rw [eb9]; rfl
                    rw [eo9] at hl
                    refine lv_aload_n hx hb dX6_findDuties_106 rfl (lv_at hl 0 rfl) ?_
                    refine lv_iload hx hb dX6_findDuties_107 (lv_at hl 8 rfl) ?_
                    have hPc := hP.sub (ws' := (mb_w a k T 0)) [0, 1, 2, 3, 4, 5, 6, 7, 8, 9, 10, 11, 12, 13, 14] rfl
                    have hDc := hD.sub (ws' := (mb_w a k T 0)) [0, 1, 2, 3, 4, 5, 6, 7, 8, 9, 10, 11, 12, 13, 14] (by decide) rfl
                    have hKc := hK.sub (tys' := (mb_ty k)) [0, 1, 2, 3, 4, 5, 6, 7, 8, 9, 10, 11, 12, 13] rfl
                    have hF_109 : ∀ q, va_A (mb_w a k T 0) H.size q → A q := va_free hD hS hA [0, 1, 2, 3, 4, 5, 6, 7, 8, 9, 10, 11, 12, 13, 14] rfl
                    refine va_calli (va_runV (As := [.int (nI v)]) (rest := []) ⟨hx, hb, hml, hown, hts⟩ (c_X6_pointsOf l dC dI a k T 0 H.size v) (cwV 1 hts gX6_findDuties_X6_pointsOf rfl rfl rfl (by decide +kernel) ⟨(Nat.le_of_ble_eq_true rfl), (Nat.le_of_ble_eq_true rfl)⟩) ⟨cT_blind, va_recv hKc hPc (ci := 6) (q0 := 0) rfl rfl, fun U hU hW => ⟨rfl, cT_of hKc hPc hDc hU hW⟩⟩ rfl rfl hl.1 rfl (lv_room (Nat.le_of_ble_eq_true rfl)) dX6_findDuties_109 ⟨(by show (1 + 12 * i + 2 * v) + 1 ≤ 61; omega), (by show (5 + 60 * i + 10 * v) + 5 ≤ 305; omega)⟩) hS (fun q _ h => hF_109 q h) hF_109 (fun r_109 u8 t8 H_109 L_109_ ht hvm hw hB hz1 hk1 hS => ?_)
                    obtain ⟨hP9, -, hD9⟩ := hB
                    rw [ht] at hP9
                    obtain ⟨hP8, hD8⟩ := va_join (wc := (mb_w a k T 0)) (wr := [(q_6, .inl (k_6, (5, .inl (F9))))]) hP hD [0, 1, 2, 3, 4, 5, 6, 7, 8, 9, 10, 11, 12, 13, 14] [15] rfl rfl (by decide) (by decide) hk1 hF_109 hP9 hD9
                    have hP : va_P (dC, dI) vwCl ((mb_w a k T 0) ++ [(q_6, .inl (k_6, (5, .inl (F9))))]) H_109 := hP8.sub [1, 2, 3, 4, 5, 6, 7, 8, 9, 10, 11, 12, 13, 14, 15, 0] rfl
                    have hD : va_D A ((mb_w a k T 0) ++ [(q_6, .inl (k_6, (5, .inl (F9))))]) := hD8.sub [1, 2, 3, 4, 5, 6, 7, 8, 9, 10, 11, 12, 13, 14, 15, 0] (by decide) rfl
                    subst hw
                    refine lv_aload_n hx hb dX6_findDuties_112 rfl (lv_at hl 0 rfl) ?_
                    refine lv_iload hx hb dX6_findDuties_113 (lv_at hl 7 rfl) ?_
                    have hPc := hP.sub (ws' := (mb_w a k T 0)) [0, 1, 2, 3, 4, 5, 6, 7, 8, 9, 10, 11, 12, 13, 14] rfl
                    have hDc := hD.sub (ws' := (mb_w a k T 0)) [0, 1, 2, 3, 4, 5, 6, 7, 8, 9, 10, 11, 12, 13, 14] (by decide) rfl
                    have hKc := hK.sub (tys' := (mb_ty k)) [0, 1, 2, 3, 4, 5, 6, 7, 8, 9, 10, 11, 12, 13] rfl
                    have hF_115 : ∀ q, va_A (mb_w a k T 0) H_109.size q → A q := va_free hD hS hA [0, 1, 2, 3, 4, 5, 6, 7, 8, 9, 10, 11, 12, 13, 14] rfl
                    refine va_calli (va_runV (As := [.int (nI b9)]) (rest := [.int (pts T v)]) ⟨hx, hb, hml, hown, hts⟩ (c_X6_pointsOf l dC dI a k T 0 H_109.size b9) (cwV 1 hts gX6_findDuties_X6_pointsOf rfl rfl rfl (by decide +kernel) ⟨(Nat.le_of_ble_eq_true rfl), (Nat.le_of_ble_eq_true rfl)⟩) ⟨cT_blind, va_recv hKc hPc (ci := 6) (q0 := 0) rfl rfl, fun U hU hW => ⟨rfl, cT_of hKc hPc hDc hU hW⟩⟩ rfl rfl hl.1 rfl (lv_room (Nat.le_of_ble_eq_true rfl)) dX6_findDuties_115 ⟨(by show ((1 + 12 * i + 2 * v) + 1) + 1 ≤ 61; omega), (by show ((5 + 60 * i + 10 * v) + 5) + 5 ≤ 305; omega)⟩) hS (fun q _ h => hF_115 q h) hF_115 (fun r_115 u8 t8 H_115 L_115_ ht hvm hw hB hz1 hk1 hS => ?_)
                    obtain ⟨hP9, -, hD9⟩ := hB
                    rw [ht] at hP9
                    obtain ⟨hP8, hD8⟩ := va_join (wc := (mb_w a k T 0)) (wr := [(q_6, .inl (k_6, (5, .inl (F9))))]) hP hD [0, 1, 2, 3, 4, 5, 6, 7, 8, 9, 10, 11, 12, 13, 14] [15] rfl rfl (by decide) (by decide) hk1 hF_115 hP9 hD9
                    have hP : va_P (dC, dI) vwCl ((mb_w a k T 0) ++ [(q_6, .inl (k_6, (5, .inl (F9))))]) H_115 := hP8.sub [1, 2, 3, 4, 5, 6, 7, 8, 9, 10, 11, 12, 13, 14, 15, 0] rfl
                    have hD : va_D A ((mb_w a k T 0) ++ [(q_6, .inl (k_6, (5, .inl (F9))))]) := hD8.sub [1, 2, 3, 4, 5, 6, 7, 8, 9, 10, 11, 12, 13, 14, 15, 0] (by decide) rfl
                    subst hw
                    refine lv_icmp_ge (tgt := 125) hx hb dX6_findDuties_118 (by decide) (fun c_118 => ?_) (fun c_118 => ?_)
                    · skip
                      refine lv_iinc (v := nI (v + 1)) (lv' := [(8, .int (nI (v + 1))), (0, .ref (a 0)), (1, .ref q_6), (2, .int (nI (fb_ct (lfF T) i))), (3, .ref q_6), (4, .int (nI 5)), (5, .int (nI i)), (6, .int (nI (dON i))), (7, .int (nI b9))]) hx hb dX6_findDuties_125 hl (k := 8) rfl (nI_1 _) (by decide) rfl (fun ls hl => ?_)
                      refine lv_goto (tgt := 76) hx hb dX6_findDuties_128 (by decide) ?_
                      have hl : lv_has ls 9 [(8, .int (nI (v + 1))), (0, .ref (a 0)), (1, .ref q_6), (2, .int (nI (fb_ct (lfF T) i))), (3, .ref q_6), (4, .int (nI 5)), (5, .int (nI i)), (6, .int (nI (dON i))), (7, .int (oI (bD T (c_day T) (dON i) (v + 1))))] := cb_loc hl (e := Value.int (oI (bD T (c_day T) (dON i) (v + 1)))) 8 rfl (congrArg Value.int (show nI b9 = oI (bD T (c_day T) (dON i) (v + 1)) from (eo9.symm.trans (bD_no2 (by rw [eb9]; exact decide_eq_false (Int32.not_lt.mpr c_118))))))
                      refine W.widen (k := (1 + 12 * i + 2 * (v + 1))) (n := (5 + 60 * i + 10 * (v + 1))) (by omega) (by omega) ?_
                      exact ih_76 (v + 1) (by omega) (by omega) H_115 L_115_ hP hD hS ls (lv_sub hl [1, 2, 3, 4, 5, 6, 7, 8, 0] rfl)
                    · skip
                      refine lv_iload hx hb dX6_findDuties_121 (lv_at hl 8 rfl) ?_
                      refine lv_istore (lv' := [(7, .int (nI v)), (0, .ref (a 0)), (1, .ref q_6), (2, .int (nI (fb_ct (lfF T) i))), (3, .ref q_6), (4, .int (nI 5)), (5, .int (nI i)), (6, .int (nI (dON i))), (8, .int (nI v))]) hx hb dX6_findDuties_123 hl (by decide) rfl (fun ls hl => ?_)
                      refine lv_iinc (v := nI (v + 1)) (lv' := [(8, .int (nI (v + 1))), (7, .int (nI v)), (0, .ref (a 0)), (1, .ref q_6), (2, .int (nI (fb_ct (lfF T) i))), (3, .ref q_6), (4, .int (nI 5)), (5, .int (nI i)), (6, .int (nI (dON i)))]) hx hb dX6_findDuties_125 hl (k := 8) rfl (nI_1 _) (by decide) rfl (fun ls hl => ?_)
                      refine lv_goto (tgt := 76) hx hb dX6_findDuties_128 (by decide) ?_
                      have hl : lv_has ls 9 [(8, .int (nI (v + 1))), (7, .int (oI (bD T (c_day T) (dON i) (v + 1)))), (0, .ref (a 0)), (1, .ref q_6), (2, .int (nI (fb_ct (lfF T) i))), (3, .ref q_6), (4, .int (nI 5)), (5, .int (nI i)), (6, .int (nI (dON i)))] := cb_loc hl (e := Value.int (oI (bD T (c_day T) (dON i) (v + 1)))) 1 rfl (congrArg Value.int (show nI v = oI (bD T (c_day T) (dON i) (v + 1)) from (bD_yes (by rw [eb9]; exact decide_eq_true (Int32.not_le.mp c_118)) c_97)))
                      refine W.widen (k := (1 + 12 * i + 2 * (v + 1))) (n := (5 + 60 * i + 10 * (v + 1))) (by omega) (by omega) ?_
                      exact ih_76 (v + 1) (by omega) (by omega) H_115 L_115_ hP hD hS ls (lv_sub hl [2, 3, 4, 5, 6, 7, 8, 1, 0] rfl)
          have hl : lv_has ls 9 [(8, .int (nI 0)), (7, .int (oI (bD T (c_day T) (dON i) 0))), (6, .int (nI (dON i))), (0, .ref (a 0)), (1, .ref q_6), (2, .int (nI (fb_ct (lfF T) i))), (3, .ref q_6), (4, .int (nI 5)), (5, .int (nI i))] := cb_loc hl (e := Value.int (oI (bD T (c_day T) (dON i) 0))) 1 rfl (congrArg Value.int (show (-1) = oI (bD T (c_day T) (dON i) 0) from rfl))
          refine W.widen (k := (1 + 12 * i + 2 * 0)) (n := (5 + 60 * i + 10 * 0)) (by omega) (by omega) ?_
          exact L_76 (c_np T + 1) 0 (by omega) (by omega) H locs hP hD hS ls (lv_sub hl [3, 4, 5, 6, 7, 8, 2, 1, 0] rfl)
        · skip
          refine lv_goto (tgt := 161) hx hb dX6_findDuties_67 (by decide) ?_
          refine lv_iinc (v := nI (i + 1)) (lv' := [(5, .int (nI (i + 1))), (6, .int (nI (dON i))), (0, .ref (a 0)), (1, .ref q_6), (2, .int (nI (fb_ct (lfF T) i))), (3, .ref q_6), (4, .int (nI 5))]) hx hb dX6_findDuties_161 hl (k := 6) rfl (nI_1 _) (by decide) rfl (fun ls hl => ?_)
          refine lv_goto (tgt := 40) hx hb dX6_findDuties_164 (by decide) ?_
          have hl : lv_has ls 9 [(5, .int (nI (i + 1))), (6, .int (nI (dON i))), (0, .ref (a 0)), (1, .ref q_6), (2, .int (nI (fb_ct (lfF T) (i + 1)))), (3, .ref q_6), (4, .int (nI 5))] := cb_loc hl (e := Value.int (nI (fb_ct (lfF T) (i + 1)))) 4 rfl (congrArg Value.int (show nI (fb_ct (lfF T) i) = nI (fb_ct (lfF T) (i + 1)) from (by rw [fb_ct_succ, show lfF T i = false from decide_eq_false c_64]; rfl)))
          refine W.widen (k := (1 + 12 * (i + 1))) (n := (5 + 60 * (i + 1))) (by omega) (by omega) ?_
          exact ih_40 (i + 1) T (by omega) (by omega) hJ (fdF_f hTe c_64) H locs hP hD hS ls (lv_sub hl [2, 3, 4, 5, 6, 0] rfl)
  have hl : lv_has ls 9 [(5, .int (nI 0)), (4, .int (nI 5)), (3, .ref q_6), (2, .int (nI (fb_ct (lfF S) 0))), (1, .ref q_6), (0, .ref (a 0))] := cb_loc hl (e := Value.int (nI (fb_ct (lfF S) 0))) 3 rfl (congrArg Value.int (show nI 0 = nI (fb_ct (lfF S) 0) from rfl))
  refine W.widen (k := (1 + 12 * 0)) (n := (5 + 60 * 0)) (by omega) (by omega) ?_
  exact L_40 (5 + 1) 0 S (by omega) (by omega) hI rfl H locs hP hD hS ls (lv_sub hl [5, 4, 3, 2, 1, 0] rfl)
abbrev rm_X6_digest : Room := { frames := 4, cells := 223, slots := 1549, locals := 96 }
set_option maxHeartbeats 4000000 in
set_option maxRecDepth 100000 in
theorem c_X6_digest (l : Launch) (dC : Nat → ClassId) (dI : Nat → Nat → Nat) (a : Nat → Nat) (k : Nat → ClassId) (S : cs_S) (th : Nat) (sz : Nat) (hI : Inv S) : Met l yX6_digest wsX6_digest rm_X6_digest (va_Pc [.ref (a 0)] (cT dC dI sz (mb_w a k S th) (mb_ty k))) (va_Ql (fun (r : Int64) (_ : Unit) => r = dig S) (fun _ t => cB dC dI (va_A (mb_w a k S th) sz) (mb_w a k S 0) (mb_ty k) t) (va_A (mb_w a k S th) sz)) 223 1549 (va_A (mb_w a k S th) sz) := by
  refine Met.ofW (cc := cX6_digest) (maxL := 5) (ret := (some .long)) (by decide) rfl ?_
  intro p e s m args below meth c s₁ B hml hv
  obtain ⟨rfl, hsz, hP, hK, hD0⟩ := hv
  have hx := B.exec
  have hb := B.bytes
  have hr := B.returns
  have hts := atoms_spec (ws := wsX6_digest) B.pre
  have hown : s.vm.findClass RX6 = some m.cls := findClass_of_methodNamed B.named
  have hlocks := B.notSynchronized
  subst hsz
  have hD := hD0.self (sz := s.heap.size)
  generalize hAe : va_A (mb_w a k S th) s.heap.size = A at hD ⊢
  have hA : ∀ q : Nat, s.heap.size ≤ q → A q := fun q h => by rw [← hAe]; exact Or.inr h
  have hS : va_S A s.heap s.heap [] := va_S.rf
  obtain ⟨Q, hQ⟩ : ∃ Q, Q = MQ below (va_Ql (fun (r : Int64) (_ : Unit) => r = dig S) (fun _ t => cB dC dI A (mb_w a k S 0) (mb_ty k) t) A) ([.ref (a 0)] : List Value).toArray s 223 1549 A := ⟨_, rfl⟩
  show W p l e rm_X6_digest s m _ below meth c s.heap [] 0 0 (MQ below _ _ _ _ _ _) _
  rw [← hQ]
  have i_X6 : ∀ w ∈ wsX60, w ∈ wsX6_digest := fun w h => List.mem_cons_of_mem _ (List.mem_append_right _ h)
  obtain ⟨⟨hday, hnp, hns, hnt, hnf, hnm, hnb, hme⟩, hpat, hage, hten, hcnt, hplc, heat, hned, hhld, hbad, hbad0, hbag⟩ := id hI
  have f_0 := hts (.fieldLink RX6 53 "CampBookModel" "thrown" "I") (by decide +kernel)
  have f_1 := hts (.constantLong RX6 174 (10943)) (by decide +kernel)
  have f_2 := hts (.fieldLink RX6 128 "CampBookModel" "day" "I") (by decide +kernel)
  have f_3 := hts (.fieldLink RX6 57 "CampBookModel" "patrols" "I") (by decide +kernel)
  have f_4 := hts (.fieldLink RX6 64 "CampBookModel" "scouts" "I") (by decide +kernel)
  have f_5 := hts (.fieldLink RX6 67 "CampBookModel" "tents" "I") (by decide +kernel)
  have f_6 := hts (.fieldLink RX6 70 "CampBookModel" "foods" "I") (by decide +kernel)
  have f_7 := hts (.fieldLink RX6 73 "CampBookModel" "meals" "I") (by decide +kernel)
  have f_8 := hts (.constantLong RX6 176 (31)) (by decide +kernel)
  have f_9 := hts (.fieldLink RX6 41 "CampBookModel" "stores" "[I") (by decide +kernel)
  have hl := lv_entry ([.ref (a 0)]) (n := 5) (Nat.le_of_ble_eq_true rfl)
  rw [lg_entry_eq]
  generalize (lg_sl ([.ref (a 0)]) ++ List.replicate (5 - (lg_sl ([.ref (a 0)])).length) Slot.unset).toArray = ls at hl ⊢
  have hl : lv_has ls 5 [(0, .ref (a 0))] := hl
  refine lv_aload_n hx hb dX6_digest_0 rfl (lv_at hl 0 rfl) ?_
  refine lv_iconst (v := nI 0) hx hb dX6_digest_1 (by decide) ?_
  refine va_put (D := (dC, dI)) (ci := 6) (v := .int (nI 0)) (ty := .int) (C := RX6) (T := TX6) (N := 23) hx hb hts i_X6 tyX6 tyX6_ok nmX6 hown hK hP hD hS 0 rfl rfl 0 (by decide) f_0 (fun _ h9 => h9) rfl (by decide +kernel) rfl rfl (Nat.le_of_ble_eq_true rfl) dX6_digest_2 (fun H locs hP hD hS => ?_)
  rw [wsM_TH] at hP hD
  have hP : va_P (dC, dI) vwCl (mb_w a k S 0) H := hP
  have hD : va_D A (mb_w a k S 0) := hD
  refine lv_ldc2 hx hb hown f_1 dX6_digest_5 ?_
  refine lv_aload_n hx hb dX6_digest_8 rfl (lv_at hl 0 rfl) ?_
  refine va_get (D := (dC, dI)) (ci := 6) (v := .int (nI (c_day S))) (C := RX6) (T := TX6) (N := 23) hx hb hts i_X6 hown hK hP 0 rfl rfl 1 (by decide) f_2 (fun _ h9 => h9) rfl dX6_digest_9 ?_
  refine lv_i2l hx hb dX6_digest_12 rfl ?_
  refine lv_ladd hx hb dX6_digest_13 ?_
  refine lv_lstore_n (lv' := [(1, .long ((10943) + ((nI (c_day S)).toInt64))), (0, .ref (a 0))]) hx hb dX6_digest_14 rfl hl (by decide) rfl (fun ls hl => ?_)
  refine lv_iconst (v := nI 0) hx hb dX6_digest_15 (by decide) ?_
  refine lv_istore_n (lv' := [(3, .int (nI 0)), (1, .long ((10943) + ((nI (c_day S)).toInt64))), (0, .ref (a 0))]) hx hb dX6_digest_16 rfl hl (by decide) rfl (fun ls hl => ?_)
  have L_17 : ∀ (n j : Nat), j ≤ 7 → 7 + 1 ≤ j + n → ∀ (H : Heap) (locs : List Loc), va_P (dC, dI) vwCl (mb_w a k S 0) H → va_D A (mb_w a k S 0) → va_S A s.heap H locs → ∀ (ls : Array Slot), lv_has ls 5 [(0, .ref (a 0)), (1, .long (mixF (cnts S) (mix 353 (nI (c_day S)).toInt64) j)), (3, .int (nI j))] → W p l e rm_X6_digest s m ([.ref (a 0)] : List Value).toArray below meth c H locs (j) (7 * j) Q (F0 m 17 ls []) := by
    intro n
    induction n with
    | zero => intro j h1 h2; exact absurd h2 (by omega)
    | succ n ih_17 =>
      intro j hle_17 hfu_17 H locs hP hD hS ls hl
      refine lv_iload_n hx hb dX6_digest_17 rfl (lv_at hl 2 rfl) ?_
      refine lv_bipush (v := nI 7) hx hb dX6_digest_18 (by decide) ?_
      refine lv_icmp_ge (tgt := 42) hx hb dX6_digest_20 (by decide) (fun c_20 => ?_) (fun c_20 => ?_)
      · have c_20 : 7 ≤ j := cb_ge (by omega) (by omega) c_20
        have e_j : j = 7 := by omega
        rw [e_j] at hl
        refine lv_iconst (v := nI 0) hx hb dX6_digest_42 (by decide) ?_
        refine lv_istore_n (lv' := [(3, .int (nI 0)), (0, .ref (a 0)), (1, .long (mixF (cnts S) (mix 353 (nI (c_day S)).toInt64) 7))]) hx hb dX6_digest_43 rfl hl (by decide) rfl (fun ls hl => ?_)
        have L_44 : ∀ (n i : Nat), i ≤ c_np S → c_np S + 1 ≤ i + n → ∀ (H : Heap) (locs : List Loc), va_P (dC, dI) vwCl (mb_w a k S 0) H → va_D A (mb_w a k S 0) → va_S A s.heap H locs → ∀ (ls : Array Slot), lv_has ls 5 [(0, .ref (a 0)), (1, .long (mixF (pts S) (mixF (cnts S) (mix 353 (nI (c_day S)).toInt64) 7) i)), (3, .int (nI i))] → W p l e rm_X6_digest s m ([.ref (a 0)] : List Value).toArray below meth c H locs (7 + i) (49 + 5 * i) Q (F0 m 44 ls []) := by
          intro n
          induction n with
          | zero => intro i h1 h2; exact absurd h2 (by omega)
          | succ n ih_44 =>
            intro i hle_44 hfu_44 H locs hP hD hS ls hl
            refine lv_iload_n hx hb dX6_digest_44 rfl (lv_at hl 2 rfl) ?_
            refine lv_aload_n hx hb dX6_digest_45 rfl (lv_at hl 0 rfl) ?_
            refine va_get (D := (dC, dI)) (ci := 6) (v := .int (nI (c_np S))) (C := RX6) (T := TX6) (N := 23) hx hb hts i_X6 hown hK hP 0 rfl rfl 2 (by decide) f_3 (fun _ h9 => h9) rfl dX6_digest_46 ?_
            refine lv_icmp_ge (tgt := 71) hx hb dX6_digest_49 (by decide) (fun c_49 => ?_) (fun c_49 => ?_)
            · have c_49 : (c_np S) ≤ i := cb_ge (by omega) (by omega) c_49
              have e_i : i = c_np S := by omega
              rw [e_i] at hl
              refine lv_iconst (v := nI 0) hx hb dX6_digest_71 (by decide) ?_
              refine lv_istore_n (lv' := [(3, .int (nI 0)), (0, .ref (a 0)), (1, .long (mixF (pts S) (mixF (cnts S) (mix 353 (nI (c_day S)).toInt64) 7) (c_np S)))]) hx hb dX6_digest_72 rfl hl (by decide) rfl (fun ls hl => ?_)
              have L_73 : ∀ (n u : Nat), u ≤ c_ns S → c_ns S + 1 ≤ u + n → ∀ (H : Heap) (locs : List Loc), va_P (dC, dI) vwCl (mb_w a k S 0) H → va_D A (mb_w a k S 0) → va_S A s.heap H locs → ∀ (ls : Array Slot), lv_has ls 5 [(0, .ref (a 0)), (1, .long (mixS S (mixF (pts S) (mixF (cnts S) (mix 353 (nI (c_day S)).toInt64) 7) (c_np S)) u)), (3, .int (nI u))] → W p l e rm_X6_digest s m ([.ref (a 0)] : List Value).toArray below meth c H locs (13 + 7 * u) (79 + 49 * u) Q (F0 m 73 ls []) := by
                intro n
                induction n with
                | zero => intro u h1 h2; exact absurd h2 (by omega)
                | succ n ih_73 =>
                  intro u hle_73 hfu_73 H locs hP hD hS ls hl
                  refine lv_iload_n hx hb dX6_digest_73 rfl (lv_at hl 2 rfl) ?_
                  refine lv_aload_n hx hb dX6_digest_74 rfl (lv_at hl 0 rfl) ?_
                  refine va_get (D := (dC, dI)) (ci := 6) (v := .int (nI (c_ns S))) (C := RX6) (T := TX6) (N := 23) hx hb hts i_X6 hown hK hP 0 rfl rfl 3 (by decide) f_4 (fun _ h9 => h9) rfl dX6_digest_75 ?_
                  refine lv_icmp_ge (tgt := 118) hx hb dX6_digest_78 (by decide) (fun c_78 => ?_) (fun c_78 => ?_)
                  · have c_78 : (c_ns S) ≤ u := cb_ge (by omega) (by omega) c_78
                    have e_u : u = c_ns S := by omega
                    rw [e_u] at hl
                    refine lv_iconst (v := nI 0) hx hb dX6_digest_118 (by decide) ?_
                    refine lv_istore_n (lv' := [(3, .int (nI 0)), (0, .ref (a 0)), (1, .long (mixS S (mixF (pts S) (mixF (cnts S) (mix 353 (nI (c_day S)).toInt64) 7) (c_np S)) (c_ns S)))]) hx hb dX6_digest_119 rfl hl (by decide) rfl (fun ls hl => ?_)
                    have L_120 : ∀ (n i : Nat), i ≤ c_nt S → c_nt S + 1 ≤ i + n → ∀ (H : Heap) (locs : List Loc), va_P (dC, dI) vwCl (mb_w a k S 0) H → va_D A (mb_w a k S 0) → va_S A s.heap H locs → ∀ (ls : Array Slot), lv_has ls 5 [(0, .ref (a 0)), (1, .long (mixG (setT S) (mixS S (mixF (pts S) (mixF (cnts S) (mix 353 (nI (c_day S)).toInt64) 7) (c_np S)) (c_ns S)) i)), (3, .int (nI i))] → W p l e rm_X6_digest s m ([.ref (a 0)] : List Value).toArray below meth c H locs (13 + 7 * u) (79 + 49 * u) Q (F0 m 120 ls []) := by
                      intro n
                      induction n with
                      | zero => intro i h1 h2; exact absurd h2 (by omega)
                      | succ n ih_120 =>
                        intro i hle_120 hfu_120 H locs hP hD hS ls hl
                        refine lv_iload_n hx hb dX6_digest_120 rfl (lv_at hl 2 rfl) ?_
                        refine lv_aload_n hx hb dX6_digest_121 rfl (lv_at hl 0 rfl) ?_
                        refine va_get (D := (dC, dI)) (ci := 6) (v := .int (nI (c_nt S))) (C := RX6) (T := TX6) (N := 23) hx hb hts i_X6 hown hK hP 0 rfl rfl 12 (by decide) f_5 (fun _ h9 => h9) rfl dX6_digest_122 ?_
                        refine lv_icmp_ge (tgt := 146) hx hb dX6_digest_125 (by decide) (fun c_125 => ?_) (fun c_125 => ?_)
                        · have c_125 : (c_nt S) ≤ i := cb_ge (by omega) (by omega) c_125
                          have e_i : i = c_nt S := by omega
                          rw [e_i] at hl
                          refine lv_iconst (v := nI 0) hx hb dX6_digest_146 (by decide) ?_
                          refine lv_istore_n (lv' := [(3, .int (nI 0)), (0, .ref (a 0)), (1, .long (mixG (setT S) (mixS S (mixF (pts S) (mixF (cnts S) (mix 353 (nI (c_day S)).toInt64) 7) (c_np S)) (c_ns S)) (c_nt S)))]) hx hb dX6_digest_147 rfl hl (by decide) rfl (fun ls hl => ?_)
                          have L_148 : ∀ (n q : Nat), q ≤ 5 → 5 + 1 ≤ q + n → ∀ (H : Heap) (locs : List Loc), va_P (dC, dI) vwCl (mb_w a k S 0) H → va_D A (mb_w a k S 0) → va_S A s.heap H locs → ∀ (ls : Array Slot), lv_has ls 5 [(0, .ref (a 0)), (1, .long (mixF (holF S) (mixG (setT S) (mixS S (mixF (pts S) (mixF (cnts S) (mix 353 (nI (c_day S)).toInt64) 7) (c_np S)) (c_ns S)) (c_nt S)) q)), (3, .int (nI q))] → W p l e rm_X6_digest s m ([.ref (a 0)] : List Value).toArray below meth c H locs (13 + 7 * u) (79 + 49 * u) Q (F0 m 148 ls []) := by
                            intro n
                            induction n with
                            | zero => intro q h1 h2; exact absurd h2 (by omega)
                            | succ n ih_148 =>
                              intro q hle_148 hfu_148 H locs hP hD hS ls hl
                              refine lv_iload_n hx hb dX6_digest_148 rfl (lv_at hl 2 rfl) ?_
                              refine lv_iconst (v := nI 5) hx hb dX6_digest_149 (by decide) ?_
                              refine lv_icmp_ge (tgt := 176) hx hb dX6_digest_150 (by decide) (fun c_150 => ?_) (fun c_150 => ?_)
                              · have c_150 : 5 ≤ q := cb_ge (by omega) (by omega) c_150
                                have e_q : q = 5 := by omega
                                rw [e_q] at hl
                                refine lv_iconst (v := nI 0) hx hb dX6_digest_176 (by decide) ?_
                                refine lv_istore_n (lv' := [(3, .int (nI 0)), (0, .ref (a 0)), (1, .long (mixF (holF S) (mixG (setT S) (mixS S (mixF (pts S) (mixF (cnts S) (mix 353 (nI (c_day S)).toInt64) 7) (c_np S)) (c_ns S)) (c_nt S)) 5))]) hx hb dX6_digest_177 rfl hl (by decide) rfl (fun ls hl => ?_)
                                have L_178 : ∀ (n i : Nat), i ≤ c_nf S → c_nf S + 1 ≤ i + n → ∀ (H : Heap) (locs : List Loc), va_P (dC, dI) vwCl (mb_w a k S 0) H → va_D A (mb_w a k S 0) → va_S A s.heap H locs → ∀ (ls : Array Slot), lv_has ls 5 [(0, .ref (a 0)), (1, .long (mixF (c_sto S) (mixF (holF S) (mixG (setT S) (mixS S (mixF (pts S) (mixF (cnts S) (mix 353 (nI (c_day S)).toInt64) 7) (c_np S)) (c_ns S)) (c_nt S)) 5) i)), (3, .int (nI i))] → W p l e rm_X6_digest s m ([.ref (a 0)] : List Value).toArray below meth c H locs (13 + 7 * u) (79 + 49 * u) Q (F0 m 178 ls []) := by
                                  intro n
                                  induction n with
                                  | zero => intro i h1 h2; exact absurd h2 (by omega)
                                  | succ n ih_178 =>
                                    intro i hle_178 hfu_178 H locs hP hD hS ls hl
                                    refine lv_iload_n hx hb dX6_digest_178 rfl (lv_at hl 2 rfl) ?_
                                    refine lv_aload_n hx hb dX6_digest_179 rfl (lv_at hl 0 rfl) ?_
                                    refine va_get (D := (dC, dI)) (ci := 6) (v := .int (nI (c_nf S))) (C := RX6) (T := TX6) (N := 23) hx hb hts i_X6 hown hK hP 0 rfl rfl 15 (by decide) f_6 (fun _ h9 => h9) rfl dX6_digest_180 ?_
                                    refine lv_icmp_ge (tgt := 206) hx hb dX6_digest_183 (by decide) (fun c_183 => ?_) (fun c_183 => ?_)
                                    · have c_183 : (c_nf S) ≤ i := cb_ge (by omega) (by omega) c_183
                                      have e_i : i = c_nf S := by omega
                                      rw [e_i] at hl
                                      refine lv_iconst (v := nI 0) hx hb dX6_digest_206 (by decide) ?_
                                      refine lv_istore_n (lv' := [(3, .int (nI 0)), (0, .ref (a 0)), (1, .long (mixF (c_sto S) (mixF (holF S) (mixG (setT S) (mixS S (mixF (pts S) (mixF (cnts S) (mix 353 (nI (c_day S)).toInt64) 7) (c_np S)) (c_ns S)) (c_nt S)) 5) (c_nf S)))]) hx hb dX6_digest_207 rfl hl (by decide) rfl (fun ls hl => ?_)
                                      have L_208 : ∀ (n i : Nat), i ≤ c_nm S → c_nm S + 1 ≤ i + n → ∀ (H : Heap) (locs : List Loc), va_P (dC, dI) vwCl (mb_w a k S 0) H → va_D A (mb_w a k S 0) → va_S A s.heap H locs → ∀ (ls : Array Slot), lv_has ls 5 [(0, .ref (a 0)), (1, .long (mixG (setE S) (mixF (c_sto S) (mixF (holF S) (mixG (setT S) (mixS S (mixF (pts S) (mixF (cnts S) (mix 353 (nI (c_day S)).toInt64) 7) (c_np S)) (c_ns S)) (c_nt S)) 5) (c_nf S)) i)), (3, .int (nI i))] → W p l e rm_X6_digest s m ([.ref (a 0)] : List Value).toArray below meth c H locs (13 + 7 * u) (79 + 49 * u) Q (F0 m 208 ls []) := by
                                        intro n
                                        induction n with
                                        | zero => intro i h1 h2; exact absurd h2 (by omega)
                                        | succ n ih_208 =>
                                          intro i hle_208 hfu_208 H locs hP hD hS ls hl
                                          refine lv_iload_n hx hb dX6_digest_208 rfl (lv_at hl 2 rfl) ?_
                                          refine lv_aload_n hx hb dX6_digest_209 rfl (lv_at hl 0 rfl) ?_
                                          refine va_get (D := (dC, dI)) (ci := 6) (v := .int (nI (c_nm S))) (C := RX6) (T := TX6) (N := 23) hx hb hts i_X6 hown hK hP 0 rfl rfl 17 (by decide) f_7 (fun _ h9 => h9) rfl dX6_digest_210 ?_
                                          refine lv_icmp_ge (tgt := 234) hx hb dX6_digest_213 (by decide) (fun c_213 => ?_) (fun c_213 => ?_)
                                          · have c_213 : (c_nm S) ≤ i := cb_ge (by omega) (by omega) c_213
                                            have e_i : i = c_nm S := by omega
                                            rw [e_i] at hl
                                            refine lv_lload_n hx hb dX6_digest_234 rfl (lv_at hl 1 rfl) ?_
                                            refine lv_ldc2 hx hb hown f_8 dX6_digest_235 ?_
                                            refine lv_lmul hx hb dX6_digest_238 ?_
                                            refine lv_aload_n hx hb dX6_digest_239 rfl (lv_at hl 0 rfl) ?_
                                            refine lv_iconst (v := nI 0) hx hb dX6_digest_240 (by decide) ?_
                                            refine vp_callSi (W.runV (As := [.int (nI 0)]) (rest := [.long ((mixG (setE S) (mixF (c_sto S) (mixF (holF S) (mixG (setT S) (mixS S (mixF (pts S) (mixF (cnts S) (mix 353 (nI (c_day S)).toInt64) 7) (c_np S)) (c_ns S)) (c_nt S)) 5) (c_nf S)) (c_nm S)) * (31))]) ⟨hx, hb, hml, hown, hts⟩ (c_X6_tableOf l dC dI a k S 0 0 (by omega) hI) (cwV 1 hts gX6_digest_X6_tableOf rfl rfl rfl (by decide +kernel) ⟨(Nat.le_of_ble_eq_true rfl), (Nat.le_of_ble_eq_true rfl)⟩) ⟨cR_blind, va_recv hK hP (ci := 6) (q0 := 0) rfl rfl, fun U hU hW => ⟨rfl, cR_of hK hP hU hW⟩⟩ rfl rfl hl.1 rfl (lv_room (Nat.le_of_ble_eq_true rfl)) dX6_digest_241 ⟨(by show (13 + 7 * u) + 0 ≤ 223; omega), (by show (79 + 49 * u) + 0 ≤ 1549; omega)⟩) (fun r er => ?_)
                                            subst er
                                            refine cb_topi (z := nI (c_hung S)) rfl ?_
                                            refine lv_i2l hx hb dX6_digest_244 rfl ?_
                                            refine lv_ladd hx hb dX6_digest_245 ?_
                                            refine lv_ldc2 hx hb hown f_8 dX6_digest_246 ?_
                                            refine lv_lmul hx hb dX6_digest_249 ?_
                                            refine lv_aload_n hx hb dX6_digest_250 rfl (lv_at hl 0 rfl) ?_
                                            refine lv_iconst (v := nI 1) hx hb dX6_digest_251 (by decide) ?_
                                            refine vp_callSi (W.runV (As := [.int (nI 1)]) (rest := [.long ((((mixG (setE S) (mixF (c_sto S) (mixF (holF S) (mixG (setT S) (mixS S (mixF (pts S) (mixF (cnts S) (mix 353 (nI (c_day S)).toInt64) 7) (c_np S)) (c_ns S)) (c_nt S)) 5) (c_nf S)) (c_nm S)) * (31)) + ((nI (c_hung S)).toInt64)) * (31))]) ⟨hx, hb, hml, hown, hts⟩ (c_X6_tableOf l dC dI a k S 0 1 (by omega) hI) (cwV 1 hts gX6_digest_X6_tableOf rfl rfl rfl (by decide +kernel) ⟨(Nat.le_of_ble_eq_true rfl), (Nat.le_of_ble_eq_true rfl)⟩) ⟨cR_blind, va_recv hK hP (ci := 6) (q0 := 0) rfl rfl, fun U hU hW => ⟨rfl, cR_of hK hP hU hW⟩⟩ rfl rfl hl.1 rfl (lv_room (Nat.le_of_ble_eq_true rfl)) dX6_digest_252 ⟨(by show (13 + 7 * u) + 0 ≤ 223; omega), (by show (79 + 49 * u) + 0 ≤ 1549; omega)⟩) (fun r er => ?_)
                                            subst er
                                            refine cb_topi (z := nI (c_me S)) rfl ?_
                                            refine lv_i2l hx hb dX6_digest_255 rfl ?_
                                            refine lv_ladd hx hb dX6_digest_256 ?_
                                            have ew : (mb_w a k S 0) = (mb_w a k S 0) := rfl
                                            have hP : va_P (dC, dI) vwCl (mb_w a k S 0) H := by rw [← ew]; exact hP
                                            have hD : va_D A (mb_w a k S 0) := by rw [← ew]; exact hD
                                            rw [hQ]
                                            refine W.widen (k := 223) (n := 1549) (by omega) (by omega) ?_
                                            exact W.lret (v := ((((mixG (setE S) (mixF (c_sto S) (mixF (holF S) (mixG (setT S) (mixS S (mixF (pts S) (mixF (cnts S) (mix 353 (nI (c_day S)).toInt64) 7) (c_np S)) (c_ns S)) (c_nt S)) 5) (c_nf S)) (c_nm S)) * (31)) + ((nI (c_hung S)).toInt64)) * (31)) + ((nI (c_me S)).toInt64)) hx hb hr (fun t9 ht9 hW9 => ⟨⟨((((mixG (setE S) (mixF (c_sto S) (mixF (holF S) (mixG (setT S) (mixS S (mixF (pts S) (mixF (cnts S) (mix 353 (nI (c_day S)).toInt64) 7) (c_np S)) (c_ns S)) (c_nt S)) 5) (c_nf S)) (c_nm S)) * (31)) + ((nI (c_hung S)).toInt64)) * (31)) + ((nI (c_me S)).toInt64), (), rfl, rfl, cB_of hP hK hD ht9 hW9⟩, hS.F ht9⟩) hS.2.2 dX6_digest_257
                                          · have c_213 : i < (c_nm S) := cb_nge (by omega) (by omega) c_213
                                            refine lv_lload_n hx hb dX6_digest_216 rfl (lv_at hl 1 rfl) ?_
                                            refine lv_ldc2 hx hb hown f_8 dX6_digest_217 ?_
                                            refine lv_lmul hx hb dX6_digest_220 ?_
                                            refine lv_aload_n hx hb dX6_digest_221 rfl (lv_at hl 0 rfl) ?_
                                            refine lv_iload_n hx hb dX6_digest_222 rfl (lv_at hl 2 rfl) ?_
                                            refine vp_callSl (W.runV (As := [.int (nI i)]) (rest := [.long ((mixG (setE S) (mixF (c_sto S) (mixF (holF S) (mixG (setT S) (mixS S (mixF (pts S) (mixF (cnts S) (mix 353 (nI (c_day S)).toInt64) 7) (c_np S)) (c_ns S)) (c_nt S)) 5) (c_nf S)) i) * (31))]) ⟨hx, hb, hml, hown, hts⟩ (c_X6_setOf l dC dI a k S 0 i (by omega) hI) (cwV 1 hts gX6_digest_X6_setOf rfl rfl rfl (by decide +kernel) ⟨(Nat.le_of_ble_eq_true rfl), (Nat.le_of_ble_eq_true rfl)⟩) ⟨cR_blind, va_recv hK hP (ci := 6) (q0 := 0) rfl rfl, fun U hU hW => ⟨rfl, cR_of hK hP hU hW⟩⟩ rfl rfl hl.1 rfl (lv_room (Nat.le_of_ble_eq_true rfl)) dX6_digest_223 ⟨(by show (13 + 7 * u) + 0 ≤ 223; omega), (by show (79 + 49 * u) + 0 ≤ 1549; omega)⟩) (fun r er => ?_)
                                            subst er
                                            refine lv_ladd hx hb dX6_digest_226 ?_
                                            refine lv_lstore_n (lv' := [(1, .long (((mixG (setE S) (mixF (c_sto S) (mixF (holF S) (mixG (setT S) (mixS S (mixF (pts S) (mixF (cnts S) (mix 353 (nI (c_day S)).toInt64) 7) (c_np S)) (c_ns S)) (c_nt S)) 5) (c_nf S)) i) * (31)) + (lN (bs (canE S i) (c_ns S))))), (0, .ref (a 0)), (3, .int (nI i))]) hx hb dX6_digest_227 rfl hl (by decide) rfl (fun ls hl => ?_)
                                            refine lv_iinc (v := nI (i + 1)) (lv' := [(3, .int (nI (i + 1))), (1, .long (((mixG (setE S) (mixF (c_sto S) (mixF (holF S) (mixG (setT S) (mixS S (mixF (pts S) (mixF (cnts S) (mix 353 (nI (c_day S)).toInt64) 7) (c_np S)) (c_ns S)) (c_nt S)) 5) (c_nf S)) i) * (31)) + (lN (bs (canE S i) (c_ns S))))), (0, .ref (a 0))]) hx hb dX6_digest_228 hl (k := 2) rfl (nI_1 _) (by decide) rfl (fun ls hl => ?_)
                                            refine lv_goto (tgt := 208) hx hb dX6_digest_231 (by decide) ?_
                                            have hl : lv_has ls 5 [(3, .int (nI (i + 1))), (1, .long (mixG (setE S) (mixF (c_sto S) (mixF (holF S) (mixG (setT S) (mixS S (mixF (pts S) (mixF (cnts S) (mix 353 (nI (c_day S)).toInt64) 7) (c_np S)) (c_ns S)) (c_nt S)) 5) (c_nf S)) (i + 1))), (0, .ref (a 0))] := cb_loc hl (e := Value.long (mixG (setE S) (mixF (c_sto S) (mixF (holF S) (mixG (setT S) (mixS S (mixF (pts S) (mixF (cnts S) (mix 353 (nI (c_day S)).toInt64) 7) (c_np S)) (c_ns S)) (c_nt S)) 5) (c_nf S)) (i + 1))) 1 rfl (congrArg Value.long (show ((mixG (setE S) (mixF (c_sto S) (mixF (holF S) (mixG (setT S) (mixS S (mixF (pts S) (mixF (cnts S) (mix 353 (nI (c_day S)).toInt64) 7) (c_np S)) (c_ns S)) (c_nt S)) 5) (c_nf S)) i) * (31)) + (lN (bs (canE S i) (c_ns S))) = mixG (setE S) (mixF (c_sto S) (mixF (holF S) (mixG (setT S) (mixS S (mixF (pts S) (mixF (cnts S) (mix 353 (nI (c_day S)).toInt64) 7) (c_np S)) (c_ns S)) (c_nt S)) 5) (c_nf S)) (i + 1) from rfl))
                                            exact ih_208 (i + 1) (by omega) (by omega) H locs hP hD hS ls (lv_sub hl [2, 1, 0] rfl)
                                      have hl : lv_has ls 5 [(3, .int (nI 0)), (0, .ref (a 0)), (1, .long (mixG (setE S) (mixF (c_sto S) (mixF (holF S) (mixG (setT S) (mixS S (mixF (pts S) (mixF (cnts S) (mix 353 (nI (c_day S)).toInt64) 7) (c_np S)) (c_ns S)) (c_nt S)) 5) (c_nf S)) 0))] := cb_loc hl (e := Value.long (mixG (setE S) (mixF (c_sto S) (mixF (holF S) (mixG (setT S) (mixS S (mixF (pts S) (mixF (cnts S) (mix 353 (nI (c_day S)).toInt64) 7) (c_np S)) (c_ns S)) (c_nt S)) 5) (c_nf S)) 0)) 2 rfl (congrArg Value.long (show mixF (c_sto S) (mixF (holF S) (mixG (setT S) (mixS S (mixF (pts S) (mixF (cnts S) (mix 353 (nI (c_day S)).toInt64) 7) (c_np S)) (c_ns S)) (c_nt S)) 5) (c_nf S) = mixG (setE S) (mixF (c_sto S) (mixF (holF S) (mixG (setT S) (mixS S (mixF (pts S) (mixF (cnts S) (mix 353 (nI (c_day S)).toInt64) 7) (c_np S)) (c_ns S)) (c_nt S)) 5) (c_nf S)) 0 from rfl))
                                      exact L_208 (c_nm S + 1) 0 (by omega) (by omega) H locs hP hD hS ls (lv_sub hl [1, 2, 0] rfl)
                                    · have c_183 : i < (c_nf S) := cb_nge (by omega) (by omega) c_183
                                      refine lv_lload_n hx hb dX6_digest_186 rfl (lv_at hl 1 rfl) ?_
                                      refine lv_ldc2 hx hb hown f_8 dX6_digest_187 ?_
                                      refine lv_lmul hx hb dX6_digest_190 ?_
                                      refine lv_aload_n hx hb dX6_digest_191 rfl (lv_at hl 0 rfl) ?_
                                      refine va_get (D := (dC, dI)) (ci := 6) (v := .ref (a 11)) (C := RX6) (T := TX6) (N := 23) hx hb hts i_X6 hown hK hP 0 rfl rfl 16 (by decide) f_9 (fun _ h9 => h9) rfl dX6_digest_192 ?_
                                      refine lv_iload_n hx hb dX6_digest_195 rfl (lv_at hl 2 rfl) ?_
                                      refine cb_iald hx hb hK hP 11 10 (f := c_sto S) rfl rfl (j := i) (by omega) (Nat.le_of_ble_eq_true rfl) dX6_digest_196 ?_
                                      refine lv_i2l hx hb dX6_digest_197 rfl ?_
                                      refine lv_ladd hx hb dX6_digest_198 ?_
                                      refine lv_lstore_n (lv' := [(1, .long (((mixF (c_sto S) (mixF (holF S) (mixG (setT S) (mixS S (mixF (pts S) (mixF (cnts S) (mix 353 (nI (c_day S)).toInt64) 7) (c_np S)) (c_ns S)) (c_nt S)) 5) i) * (31)) + ((c_sto S i).toInt64))), (0, .ref (a 0)), (3, .int (nI i))]) hx hb dX6_digest_199 rfl hl (by decide) rfl (fun ls hl => ?_)
                                      refine lv_iinc (v := nI (i + 1)) (lv' := [(3, .int (nI (i + 1))), (1, .long (((mixF (c_sto S) (mixF (holF S) (mixG (setT S) (mixS S (mixF (pts S) (mixF (cnts S) (mix 353 (nI (c_day S)).toInt64) 7) (c_np S)) (c_ns S)) (c_nt S)) 5) i) * (31)) + ((c_sto S i).toInt64))), (0, .ref (a 0))]) hx hb dX6_digest_200 hl (k := 2) rfl (nI_1 _) (by decide) rfl (fun ls hl => ?_)
                                      refine lv_goto (tgt := 178) hx hb dX6_digest_203 (by decide) ?_
                                      have hl : lv_has ls 5 [(3, .int (nI (i + 1))), (1, .long (mixF (c_sto S) (mixF (holF S) (mixG (setT S) (mixS S (mixF (pts S) (mixF (cnts S) (mix 353 (nI (c_day S)).toInt64) 7) (c_np S)) (c_ns S)) (c_nt S)) 5) (i + 1))), (0, .ref (a 0))] := cb_loc hl (e := Value.long (mixF (c_sto S) (mixF (holF S) (mixG (setT S) (mixS S (mixF (pts S) (mixF (cnts S) (mix 353 (nI (c_day S)).toInt64) 7) (c_np S)) (c_ns S)) (c_nt S)) 5) (i + 1))) 1 rfl (congrArg Value.long (show ((mixF (c_sto S) (mixF (holF S) (mixG (setT S) (mixS S (mixF (pts S) (mixF (cnts S) (mix 353 (nI (c_day S)).toInt64) 7) (c_np S)) (c_ns S)) (c_nt S)) 5) i) * (31)) + ((c_sto S i).toInt64) = mixF (c_sto S) (mixF (holF S) (mixG (setT S) (mixS S (mixF (pts S) (mixF (cnts S) (mix 353 (nI (c_day S)).toInt64) 7) (c_np S)) (c_ns S)) (c_nt S)) 5) (i + 1) from rfl))
                                      exact ih_178 (i + 1) (by omega) (by omega) H locs hP hD hS ls (lv_sub hl [2, 1, 0] rfl)
                                have hl : lv_has ls 5 [(3, .int (nI 0)), (0, .ref (a 0)), (1, .long (mixF (c_sto S) (mixF (holF S) (mixG (setT S) (mixS S (mixF (pts S) (mixF (cnts S) (mix 353 (nI (c_day S)).toInt64) 7) (c_np S)) (c_ns S)) (c_nt S)) 5) 0))] := cb_loc hl (e := Value.long (mixF (c_sto S) (mixF (holF S) (mixG (setT S) (mixS S (mixF (pts S) (mixF (cnts S) (mix 353 (nI (c_day S)).toInt64) 7) (c_np S)) (c_ns S)) (c_nt S)) 5) 0)) 2 rfl (congrArg Value.long (show mixF (holF S) (mixG (setT S) (mixS S (mixF (pts S) (mixF (cnts S) (mix 353 (nI (c_day S)).toInt64) 7) (c_np S)) (c_ns S)) (c_nt S)) 5 = mixF (c_sto S) (mixF (holF S) (mixG (setT S) (mixS S (mixF (pts S) (mixF (cnts S) (mix 353 (nI (c_day S)).toInt64) 7) (c_np S)) (c_ns S)) (c_nt S)) 5) 0 from rfl))
                                exact L_178 (c_nf S + 1) 0 (by omega) (by omega) H locs hP hD hS ls (lv_sub hl [1, 2, 0] rfl)
                              · have c_150 : q < 5 := cb_nge (by omega) (by omega) c_150
                                refine lv_lload_n hx hb dX6_digest_153 rfl (lv_at hl 1 rfl) ?_
                                refine lv_ldc2 hx hb hown f_8 dX6_digest_154 ?_
                                refine lv_lmul hx hb dX6_digest_157 ?_
                                refine lv_aload_n hx hb dX6_digest_158 rfl (lv_at hl 0 rfl) ?_
                                refine lv_aload_n hx hb dX6_digest_159 rfl (lv_at hl 0 rfl) ?_
                                refine va_get (D := (dC, dI)) (ci := 6) (v := .int (nI (c_day S))) (C := RX6) (T := TX6) (N := 23) hx hb hts i_X6 hown hK hP 0 rfl rfl 1 (by decide) f_2 (fun _ h9 => h9) rfl dX6_digest_160 ?_
                                refine lv_iload_n hx hb dX6_digest_163 rfl (lv_at hl 2 rfl) ?_
                                refine vp_callSi (W.runV (As := [.int (nI (c_day S)), .int (nI q)]) (rest := [.long ((mixF (holF S) (mixG (setT S) (mixS S (mixF (pts S) (mixF (cnts S) (mix 353 (nI (c_day S)).toInt64) 7) (c_np S)) (c_ns S)) (c_nt S)) q) * (31))]) ⟨hx, hb, hml, hown, hts⟩ (c_X6_at l dC dI a k S 0 (nI (c_day S)) q (by omega)) (cwV 2 hts gX6_digest_X6_at rfl rfl rfl (by decide +kernel) ⟨(Nat.le_of_ble_eq_true rfl), (Nat.le_of_ble_eq_true rfl)⟩) ⟨cR_blind, va_recv hK hP (ci := 6) (q0 := 0) rfl rfl, fun U hU hW => ⟨rfl, cR_of hK hP hU hW⟩⟩ rfl rfl hl.1 rfl (lv_room (Nat.le_of_ble_eq_true rfl)) dX6_digest_164 ⟨(by show (13 + 7 * u) + 0 ≤ 223; omega), (by show (79 + 49 * u) + 0 ≤ 1549; omega)⟩) (fun r er => ?_)
                                subst er
                                refine cb_topi (z := c_hld S (c_day S * 5 + q)) (hol_nI (by omega)) ?_
                                refine lv_i2l hx hb dX6_digest_167 rfl ?_
                                refine lv_ladd hx hb dX6_digest_168 ?_
                                refine lv_lstore_n (lv' := [(1, .long (((mixF (holF S) (mixG (setT S) (mixS S (mixF (pts S) (mixF (cnts S) (mix 353 (nI (c_day S)).toInt64) 7) (c_np S)) (c_ns S)) (c_nt S)) q) * (31)) + ((c_hld S (c_day S * 5 + q)).toInt64))), (0, .ref (a 0)), (3, .int (nI q))]) hx hb dX6_digest_169 rfl hl (by decide) rfl (fun ls hl => ?_)
                                refine lv_iinc (v := nI (q + 1)) (lv' := [(3, .int (nI (q + 1))), (1, .long (((mixF (holF S) (mixG (setT S) (mixS S (mixF (pts S) (mixF (cnts S) (mix 353 (nI (c_day S)).toInt64) 7) (c_np S)) (c_ns S)) (c_nt S)) q) * (31)) + ((c_hld S (c_day S * 5 + q)).toInt64))), (0, .ref (a 0))]) hx hb dX6_digest_170 hl (k := 2) rfl (nI_1 _) (by decide) rfl (fun ls hl => ?_)
                                refine lv_goto (tgt := 148) hx hb dX6_digest_173 (by decide) ?_
                                have hl : lv_has ls 5 [(3, .int (nI (q + 1))), (1, .long (mixF (holF S) (mixG (setT S) (mixS S (mixF (pts S) (mixF (cnts S) (mix 353 (nI (c_day S)).toInt64) 7) (c_np S)) (c_ns S)) (c_nt S)) (q + 1))), (0, .ref (a 0))] := cb_loc hl (e := Value.long (mixF (holF S) (mixG (setT S) (mixS S (mixF (pts S) (mixF (cnts S) (mix 353 (nI (c_day S)).toInt64) 7) (c_np S)) (c_ns S)) (c_nt S)) (q + 1))) 1 rfl (congrArg Value.long (show ((mixF (holF S) (mixG (setT S) (mixS S (mixF (pts S) (mixF (cnts S) (mix 353 (nI (c_day S)).toInt64) 7) (c_np S)) (c_ns S)) (c_nt S)) q) * (31)) + ((c_hld S (c_day S * 5 + q)).toInt64) = mixF (holF S) (mixG (setT S) (mixS S (mixF (pts S) (mixF (cnts S) (mix 353 (nI (c_day S)).toInt64) 7) (c_np S)) (c_ns S)) (c_nt S)) (q + 1) from rfl))
                                exact ih_148 (q + 1) (by omega) (by omega) H locs hP hD hS ls (lv_sub hl [2, 1, 0] rfl)
                          have hl : lv_has ls 5 [(3, .int (nI 0)), (0, .ref (a 0)), (1, .long (mixF (holF S) (mixG (setT S) (mixS S (mixF (pts S) (mixF (cnts S) (mix 353 (nI (c_day S)).toInt64) 7) (c_np S)) (c_ns S)) (c_nt S)) 0))] := cb_loc hl (e := Value.long (mixF (holF S) (mixG (setT S) (mixS S (mixF (pts S) (mixF (cnts S) (mix 353 (nI (c_day S)).toInt64) 7) (c_np S)) (c_ns S)) (c_nt S)) 0)) 2 rfl (congrArg Value.long (show mixG (setT S) (mixS S (mixF (pts S) (mixF (cnts S) (mix 353 (nI (c_day S)).toInt64) 7) (c_np S)) (c_ns S)) (c_nt S) = mixF (holF S) (mixG (setT S) (mixS S (mixF (pts S) (mixF (cnts S) (mix 353 (nI (c_day S)).toInt64) 7) (c_np S)) (c_ns S)) (c_nt S)) 0 from rfl))
                          exact L_148 (5 + 1) 0 (by omega) (by omega) H locs hP hD hS ls (lv_sub hl [1, 2, 0] rfl)
                        · have c_125 : i < (c_nt S) := cb_nge (by omega) (by omega) c_125
                          refine lv_lload_n hx hb dX6_digest_128 rfl (lv_at hl 1 rfl) ?_
                          refine lv_ldc2 hx hb hown f_8 dX6_digest_129 ?_
                          refine lv_lmul hx hb dX6_digest_132 ?_
                          refine lv_aload_n hx hb dX6_digest_133 rfl (lv_at hl 0 rfl) ?_
                          refine lv_iload_n hx hb dX6_digest_134 rfl (lv_at hl 2 rfl) ?_
                          refine vp_callSl (W.runV (As := [.int (nI i)]) (rest := [.long ((mixG (setT S) (mixS S (mixF (pts S) (mixF (cnts S) (mix 353 (nI (c_day S)).toInt64) 7) (c_np S)) (c_ns S)) i) * (31))]) ⟨hx, hb, hml, hown, hts⟩ (c_X6_in l dC dI a k S 0 i (by omega)) (cwV 1 hts gX6_digest_X6_in rfl rfl rfl (by decide +kernel) ⟨(Nat.le_of_ble_eq_true rfl), (Nat.le_of_ble_eq_true rfl)⟩) ⟨cR_blind, va_recv hK hP (ci := 6) (q0 := 0) rfl rfl, fun U hU hW => ⟨rfl, cR_of hK hP hU hW⟩⟩ rfl rfl hl.1 rfl (lv_room (Nat.le_of_ble_eq_true rfl)) dX6_digest_135 ⟨(by show (13 + 7 * u) + 0 ≤ 223; omega), (by show (79 + 49 * u) + 0 ≤ 1549; omega)⟩) (fun r er => ?_)
                          subst er
                          refine lv_ladd hx hb dX6_digest_138 ?_
                          refine lv_lstore_n (lv' := [(1, .long (((mixG (setT S) (mixS S (mixF (pts S) (mixF (cnts S) (mix 353 (nI (c_day S)).toInt64) 7) (c_np S)) (c_ns S)) i) * (31)) + (lN (bs (inT S i) (c_ns S))))), (0, .ref (a 0)), (3, .int (nI i))]) hx hb dX6_digest_139 rfl hl (by decide) rfl (fun ls hl => ?_)
                          refine lv_iinc (v := nI (i + 1)) (lv' := [(3, .int (nI (i + 1))), (1, .long (((mixG (setT S) (mixS S (mixF (pts S) (mixF (cnts S) (mix 353 (nI (c_day S)).toInt64) 7) (c_np S)) (c_ns S)) i) * (31)) + (lN (bs (inT S i) (c_ns S))))), (0, .ref (a 0))]) hx hb dX6_digest_140 hl (k := 2) rfl (nI_1 _) (by decide) rfl (fun ls hl => ?_)
                          refine lv_goto (tgt := 120) hx hb dX6_digest_143 (by decide) ?_
                          have hl : lv_has ls 5 [(3, .int (nI (i + 1))), (1, .long (mixG (setT S) (mixS S (mixF (pts S) (mixF (cnts S) (mix 353 (nI (c_day S)).toInt64) 7) (c_np S)) (c_ns S)) (i + 1))), (0, .ref (a 0))] := cb_loc hl (e := Value.long (mixG (setT S) (mixS S (mixF (pts S) (mixF (cnts S) (mix 353 (nI (c_day S)).toInt64) 7) (c_np S)) (c_ns S)) (i + 1))) 1 rfl (congrArg Value.long (show ((mixG (setT S) (mixS S (mixF (pts S) (mixF (cnts S) (mix 353 (nI (c_day S)).toInt64) 7) (c_np S)) (c_ns S)) i) * (31)) + (lN (bs (inT S i) (c_ns S))) = mixG (setT S) (mixS S (mixF (pts S) (mixF (cnts S) (mix 353 (nI (c_day S)).toInt64) 7) (c_np S)) (c_ns S)) (i + 1) from rfl))
                          exact ih_120 (i + 1) (by omega) (by omega) H locs hP hD hS ls (lv_sub hl [2, 1, 0] rfl)
                    have hl : lv_has ls 5 [(3, .int (nI 0)), (0, .ref (a 0)), (1, .long (mixG (setT S) (mixS S (mixF (pts S) (mixF (cnts S) (mix 353 (nI (c_day S)).toInt64) 7) (c_np S)) (c_ns S)) 0))] := cb_loc hl (e := Value.long (mixG (setT S) (mixS S (mixF (pts S) (mixF (cnts S) (mix 353 (nI (c_day S)).toInt64) 7) (c_np S)) (c_ns S)) 0)) 2 rfl (congrArg Value.long (show mixS S (mixF (pts S) (mixF (cnts S) (mix 353 (nI (c_day S)).toInt64) 7) (c_np S)) (c_ns S) = mixG (setT S) (mixS S (mixF (pts S) (mixF (cnts S) (mix 353 (nI (c_day S)).toInt64) 7) (c_np S)) (c_ns S)) 0 from rfl))
                    exact L_120 (c_nt S + 1) 0 (by omega) (by omega) H locs hP hD hS ls (lv_sub hl [1, 2, 0] rfl)
                  · have c_78 : u < (c_ns S) := cb_nge (by omega) (by omega) c_78
                    refine lv_iconst (v := nI 0) hx hb dX6_digest_81 (by decide) ?_
                    refine lv_istore (lv' := [(4, .int (nI 0)), (0, .ref (a 0)), (1, .long (mixS S (mixF (pts S) (mixF (cnts S) (mix 353 (nI (c_day S)).toInt64) 7) (c_np S)) u)), (3, .int (nI u))]) hx hb dX6_digest_82 hl (by decide) rfl (fun ls hl => ?_)
                    have L_84 : ∀ (n j : Nat), j ≤ 7 → 7 + 1 ≤ j + n → ∀ (H : Heap) (locs : List Loc), va_P (dC, dI) vwCl (mb_w a k S 0) H → va_D A (mb_w a k S 0) → va_S A s.heap H locs → ∀ (ls : Array Slot), lv_has ls 5 [(0, .ref (a 0)), (1, .long (mixF (fct S u) (mixS S (mixF (pts S) (mixF (cnts S) (mix 353 (nI (c_day S)).toInt64) 7) (c_np S)) u) j)), (3, .int (nI u)), (4, .int (nI j))] → W p l e rm_X6_digest s m ([.ref (a 0)] : List Value).toArray below meth c H locs (13 + 7 * u + j) (79 + 49 * u + 7 * j) Q (F0 m 84 ls []) := by
                      intro n
                      induction n with
                      | zero => intro j h1 h2; exact absurd h2 (by omega)
                      | succ n ih_84 =>
                        intro j hle_84 hfu_84 H locs hP hD hS ls hl
                        refine lv_iload hx hb dX6_digest_84 (lv_at hl 3 rfl) ?_
                        refine lv_bipush (v := nI 7) hx hb dX6_digest_86 (by decide) ?_
                        refine lv_icmp_ge (tgt := 112) hx hb dX6_digest_88 (by decide) (fun c_88 => ?_) (fun c_88 => ?_)
                        · have c_88 : 7 ≤ j := cb_ge (by omega) (by omega) c_88
                          have e_j : j = 7 := by omega
                          rw [e_j] at hl
                          refine lv_iinc (v := nI (u + 1)) (lv' := [(3, .int (nI (u + 1))), (0, .ref (a 0)), (1, .long (mixF (fct S u) (mixS S (mixF (pts S) (mixF (cnts S) (mix 353 (nI (c_day S)).toInt64) 7) (c_np S)) u) 7)), (4, .int (nI 7))]) hx hb dX6_digest_112 hl (k := 2) rfl (nI_1 _) (by decide) rfl (fun ls hl => ?_)
                          refine lv_goto (tgt := 73) hx hb dX6_digest_115 (by decide) ?_
                          have hl : lv_has ls 5 [(3, .int (nI (u + 1))), (0, .ref (a 0)), (1, .long (mixS S (mixF (pts S) (mixF (cnts S) (mix 353 (nI (c_day S)).toInt64) 7) (c_np S)) (u + 1))), (4, .int (nI 7))] := cb_loc hl (e := Value.long (mixS S (mixF (pts S) (mixF (cnts S) (mix 353 (nI (c_day S)).toInt64) 7) (c_np S)) (u + 1))) 2 rfl (congrArg Value.long (show mixF (fct S u) (mixS S (mixF (pts S) (mixF (cnts S) (mix 353 (nI (c_day S)).toInt64) 7) (c_np S)) u) 7 = mixS S (mixF (pts S) (mixF (cnts S) (mix 353 (nI (c_day S)).toInt64) 7) (c_np S)) (u + 1) from rfl))
                          refine W.widen (k := (13 + 7 * (u + 1))) (n := (79 + 49 * (u + 1))) (by omega) (by omega) ?_
                          exact ih_73 (u + 1) (by omega) (by omega) H locs hP hD hS ls (lv_sub hl [1, 2, 0] rfl)
                        · have c_88 : j < 7 := cb_nge (by omega) (by omega) c_88
                          refine lv_lload_n hx hb dX6_digest_91 rfl (lv_at hl 1 rfl) ?_
                          refine lv_ldc2 hx hb hown f_8 dX6_digest_92 ?_
                          refine lv_lmul hx hb dX6_digest_95 ?_
                          refine lv_aload_n hx hb dX6_digest_96 rfl (lv_at hl 0 rfl) ?_
                          refine lv_iload_n hx hb dX6_digest_97 rfl (lv_at hl 2 rfl) ?_
                          refine lv_iload hx hb dX6_digest_98 (lv_at hl 3 rfl) ?_
                          have hF_100 : ∀ q, va_A (mb_w a k S 0) H.size q → A q := va_free hD hS hA [0, 1, 2, 3, 4, 5, 6, 7, 8, 9, 10, 11, 12, 13, 14] rfl
                          refine va_calli (va_runV (As := [.int (nI u), .int (nI j)]) (rest := [.long ((mixF (fct S u) (mixS S (mixF (pts S) (mixF (cnts S) (mix 353 (nI (c_day S)).toInt64) 7) (c_np S)) u) j) * (31))]) ⟨hx, hb, hml, hown, hts⟩ (c_X6_told l dC dI a k S 0 H.size u j (by omega) (by omega) (by omega)) (cwV 2 hts gX6_digest_X6_told rfl rfl rfl (by decide +kernel) ⟨(Nat.le_of_ble_eq_true rfl), (Nat.le_of_ble_eq_true rfl)⟩) ⟨cT_blind, va_recv hK hP (ci := 6) (q0 := 0) rfl rfl, fun U hU hW => ⟨rfl, cT_of hK hP hD hU hW⟩⟩ rfl rfl hl.1 rfl (lv_room (Nat.le_of_ble_eq_true rfl)) dX6_digest_100 ⟨(by show (13 + 7 * u + j) + 1 ≤ 223; omega), (by show (79 + 49 * u + 7 * j) + 7 ≤ 1549; omega)⟩) hS (fun q _ h => hF_100 q h) hF_100 (fun r_100 u8 t8 H_100 L_100_ ht hvm hw hB hz1 hk1 hS => ?_)
                          obtain ⟨hP, -, hD9⟩ := hB
                          rw [ht] at hP
                          have hD := hD9.weaken (B := A) (fun _ q _ h => hF_100 q.1 h)
                          have hP : va_P (dC, dI) vwCl (mb_w a k S 0) H_100 := hP
                          have hD : va_D A (mb_w a k S 0) := hD
                          subst hw
                          refine lv_i2l hx hb dX6_digest_103 rfl ?_
                          refine lv_ladd hx hb dX6_digest_104 ?_
                          refine lv_lstore_n (lv' := [(1, .long (((mixF (fct S u) (mixS S (mixF (pts S) (mixF (cnts S) (mix 353 (nI (c_day S)).toInt64) 7) (c_np S)) u) j) * (31)) + ((fct S u j).toInt64))), (0, .ref (a 0)), (3, .int (nI u)), (4, .int (nI j))]) hx hb dX6_digest_105 rfl hl (by decide) rfl (fun ls hl => ?_)
                          refine lv_iinc (v := nI (j + 1)) (lv' := [(4, .int (nI (j + 1))), (1, .long (((mixF (fct S u) (mixS S (mixF (pts S) (mixF (cnts S) (mix 353 (nI (c_day S)).toInt64) 7) (c_np S)) u) j) * (31)) + ((fct S u j).toInt64))), (0, .ref (a 0)), (3, .int (nI u))]) hx hb dX6_digest_106 hl (k := 3) rfl (nI_1 _) (by decide) rfl (fun ls hl => ?_)
                          refine lv_goto (tgt := 84) hx hb dX6_digest_109 (by decide) ?_
                          have hl : lv_has ls 5 [(4, .int (nI (j + 1))), (1, .long (mixF (fct S u) (mixS S (mixF (pts S) (mixF (cnts S) (mix 353 (nI (c_day S)).toInt64) 7) (c_np S)) u) (j + 1))), (0, .ref (a 0)), (3, .int (nI u))] := cb_loc hl (e := Value.long (mixF (fct S u) (mixS S (mixF (pts S) (mixF (cnts S) (mix 353 (nI (c_day S)).toInt64) 7) (c_np S)) u) (j + 1))) 1 rfl (congrArg Value.long (show ((mixF (fct S u) (mixS S (mixF (pts S) (mixF (cnts S) (mix 353 (nI (c_day S)).toInt64) 7) (c_np S)) u) j) * (31)) + ((fct S u j).toInt64) = mixF (fct S u) (mixS S (mixF (pts S) (mixF (cnts S) (mix 353 (nI (c_day S)).toInt64) 7) (c_np S)) u) (j + 1) from rfl))
                          refine W.widen (k := (13 + 7 * u + (j + 1))) (n := (79 + 49 * u + 7 * (j + 1))) (by omega) (by omega) ?_
                          exact ih_84 (j + 1) (by omega) (by omega) H_100 L_100_ hP hD hS ls (lv_sub hl [2, 1, 3, 0] rfl)
                    have hl : lv_has ls 5 [(4, .int (nI 0)), (0, .ref (a 0)), (1, .long (mixF (fct S u) (mixS S (mixF (pts S) (mixF (cnts S) (mix 353 (nI (c_day S)).toInt64) 7) (c_np S)) u) 0)), (3, .int (nI u))] := cb_loc hl (e := Value.long (mixF (fct S u) (mixS S (mixF (pts S) (mixF (cnts S) (mix 353 (nI (c_day S)).toInt64) 7) (c_np S)) u) 0)) 2 rfl (congrArg Value.long (show mixS S (mixF (pts S) (mixF (cnts S) (mix 353 (nI (c_day S)).toInt64) 7) (c_np S)) u = mixF (fct S u) (mixS S (mixF (pts S) (mixF (cnts S) (mix 353 (nI (c_day S)).toInt64) 7) (c_np S)) u) 0 from rfl))
                    refine W.widen (k := (13 + 7 * u + 0)) (n := (79 + 49 * u + 7 * 0)) (by omega) (by omega) ?_
                    exact L_84 (7 + 1) 0 (by omega) (by omega) H locs hP hD hS ls (lv_sub hl [1, 2, 3, 0] rfl)
              have hl : lv_has ls 5 [(3, .int (nI 0)), (0, .ref (a 0)), (1, .long (mixS S (mixF (pts S) (mixF (cnts S) (mix 353 (nI (c_day S)).toInt64) 7) (c_np S)) 0))] := cb_loc hl (e := Value.long (mixS S (mixF (pts S) (mixF (cnts S) (mix 353 (nI (c_day S)).toInt64) 7) (c_np S)) 0)) 2 rfl (congrArg Value.long (show mixF (pts S) (mixF (cnts S) (mix 353 (nI (c_day S)).toInt64) 7) (c_np S) = mixS S (mixF (pts S) (mixF (cnts S) (mix 353 (nI (c_day S)).toInt64) 7) (c_np S)) 0 from rfl))
              refine W.widen (k := (13 + 7 * 0)) (n := (79 + 49 * 0)) (by omega) (by omega) ?_
              exact L_73 (c_ns S + 1) 0 (by omega) (by omega) H locs hP hD hS ls (lv_sub hl [1, 2, 0] rfl)
            · have c_49 : i < (c_np S) := cb_nge (by omega) (by omega) c_49
              refine lv_lload_n hx hb dX6_digest_52 rfl (lv_at hl 1 rfl) ?_
              refine lv_ldc2 hx hb hown f_8 dX6_digest_53 ?_
              refine lv_lmul hx hb dX6_digest_56 ?_
              refine lv_aload_n hx hb dX6_digest_57 rfl (lv_at hl 0 rfl) ?_
              refine lv_iload_n hx hb dX6_digest_58 rfl (lv_at hl 2 rfl) ?_
              have hF_59 : ∀ q, va_A (mb_w a k S 0) H.size q → A q := va_free hD hS hA [0, 1, 2, 3, 4, 5, 6, 7, 8, 9, 10, 11, 12, 13, 14] rfl
              refine va_calli (va_runV (As := [.int (nI i)]) (rest := [.long ((mixF (pts S) (mixF (cnts S) (mix 353 (nI (c_day S)).toInt64) 7) i) * (31))]) ⟨hx, hb, hml, hown, hts⟩ (c_X6_pointsOf l dC dI a k S 0 H.size i) (cwV 1 hts gX6_digest_X6_pointsOf rfl rfl rfl (by decide +kernel) ⟨(Nat.le_of_ble_eq_true rfl), (Nat.le_of_ble_eq_true rfl)⟩) ⟨cT_blind, va_recv hK hP (ci := 6) (q0 := 0) rfl rfl, fun U hU hW => ⟨rfl, cT_of hK hP hD hU hW⟩⟩ rfl rfl hl.1 rfl (lv_room (Nat.le_of_ble_eq_true rfl)) dX6_digest_59 ⟨(by show (7 + i) + 1 ≤ 223; omega), (by show (49 + 5 * i) + 5 ≤ 1549; omega)⟩) hS (fun q _ h => hF_59 q h) hF_59 (fun r_59 u8 t8 H_59 L_59_ ht hvm hw hB hz1 hk1 hS => ?_)
              obtain ⟨hP, -, hD9⟩ := hB
              rw [ht] at hP
              have hD := hD9.weaken (B := A) (fun _ q _ h => hF_59 q.1 h)
              have hP : va_P (dC, dI) vwCl (mb_w a k S 0) H_59 := hP
              have hD : va_D A (mb_w a k S 0) := hD
              subst hw
              refine lv_i2l hx hb dX6_digest_62 rfl ?_
              refine lv_ladd hx hb dX6_digest_63 ?_
              refine lv_lstore_n (lv' := [(1, .long (((mixF (pts S) (mixF (cnts S) (mix 353 (nI (c_day S)).toInt64) 7) i) * (31)) + ((pts S i).toInt64))), (0, .ref (a 0)), (3, .int (nI i))]) hx hb dX6_digest_64 rfl hl (by decide) rfl (fun ls hl => ?_)
              refine lv_iinc (v := nI (i + 1)) (lv' := [(3, .int (nI (i + 1))), (1, .long (((mixF (pts S) (mixF (cnts S) (mix 353 (nI (c_day S)).toInt64) 7) i) * (31)) + ((pts S i).toInt64))), (0, .ref (a 0))]) hx hb dX6_digest_65 hl (k := 2) rfl (nI_1 _) (by decide) rfl (fun ls hl => ?_)
              refine lv_goto (tgt := 44) hx hb dX6_digest_68 (by decide) ?_
              have hl : lv_has ls 5 [(3, .int (nI (i + 1))), (1, .long (mixF (pts S) (mixF (cnts S) (mix 353 (nI (c_day S)).toInt64) 7) (i + 1))), (0, .ref (a 0))] := cb_loc hl (e := Value.long (mixF (pts S) (mixF (cnts S) (mix 353 (nI (c_day S)).toInt64) 7) (i + 1))) 1 rfl (congrArg Value.long (show ((mixF (pts S) (mixF (cnts S) (mix 353 (nI (c_day S)).toInt64) 7) i) * (31)) + ((pts S i).toInt64) = mixF (pts S) (mixF (cnts S) (mix 353 (nI (c_day S)).toInt64) 7) (i + 1) from rfl))
              refine W.widen (k := (7 + (i + 1))) (n := (49 + 5 * (i + 1))) (by omega) (by omega) ?_
              exact ih_44 (i + 1) (by omega) (by omega) H_59 L_59_ hP hD hS ls (lv_sub hl [2, 1, 0] rfl)
        have hl : lv_has ls 5 [(3, .int (nI 0)), (0, .ref (a 0)), (1, .long (mixF (pts S) (mixF (cnts S) (mix 353 (nI (c_day S)).toInt64) 7) 0))] := cb_loc hl (e := Value.long (mixF (pts S) (mixF (cnts S) (mix 353 (nI (c_day S)).toInt64) 7) 0)) 2 rfl (congrArg Value.long (show mixF (cnts S) (mix 353 (nI (c_day S)).toInt64) 7 = mixF (pts S) (mixF (cnts S) (mix 353 (nI (c_day S)).toInt64) 7) 0 from rfl))
        refine W.widen (k := (7 + 0)) (n := (49 + 5 * 0)) (by omega) (by omega) ?_
        exact L_44 (c_np S + 1) 0 (by omega) (by omega) H locs hP hD hS ls (lv_sub hl [1, 2, 0] rfl)
      · have c_20 : j < 7 := cb_nge (by omega) (by omega) c_20
        refine lv_lload_n hx hb dX6_digest_23 rfl (lv_at hl 1 rfl) ?_
        refine lv_ldc2 hx hb hown f_8 dX6_digest_24 ?_
        refine lv_lmul hx hb dX6_digest_27 ?_
        refine lv_aload_n hx hb dX6_digest_28 rfl (lv_at hl 0 rfl) ?_
        refine lv_iload_n hx hb dX6_digest_29 rfl (lv_at hl 2 rfl) ?_
        have hF_30 : ∀ q, va_A (mb_w a k S 0) H.size q → A q := va_free hD hS hA [0, 1, 2, 3, 4, 5, 6, 7, 8, 9, 10, 11, 12, 13, 14] rfl
        refine va_calli (va_runV (As := [.int (nI j)]) (rest := [.long ((mixF (cnts S) (mix 353 (nI (c_day S)).toInt64) j) * (31))]) ⟨hx, hb, hml, hown, hts⟩ (c_X6_counted l dC dI a k S 0 H.size j (by omega) (by omega)) (cwV 1 hts gX6_digest_X6_counted rfl rfl rfl (by decide +kernel) ⟨(Nat.le_of_ble_eq_true rfl), (Nat.le_of_ble_eq_true rfl)⟩) ⟨cT_blind, va_recv hK hP (ci := 6) (q0 := 0) rfl rfl, fun U hU hW => ⟨rfl, cT_of hK hP hD hU hW⟩⟩ rfl rfl hl.1 rfl (lv_room (Nat.le_of_ble_eq_true rfl)) dX6_digest_30 ⟨(by show (j) + 1 ≤ 223; omega), (by show (7 * j) + 7 ≤ 1549; omega)⟩) hS (fun q _ h => hF_30 q h) hF_30 (fun r_30 u8 t8 H_30 L_30_ ht hvm hw hB hz1 hk1 hS => ?_)
        obtain ⟨hP, -, hD9⟩ := hB
        rw [ht] at hP
        have hD := hD9.weaken (B := A) (fun _ q _ h => hF_30 q.1 h)
        have hP : va_P (dC, dI) vwCl (mb_w a k S 0) H_30 := hP
        have hD : va_D A (mb_w a k S 0) := hD
        subst hw
        refine lv_i2l hx hb dX6_digest_33 rfl ?_
        refine lv_ladd hx hb dX6_digest_34 ?_
        refine lv_lstore_n (lv' := [(1, .long (((mixF (cnts S) (mix 353 (nI (c_day S)).toInt64) j) * (31)) + ((cnts S j).toInt64))), (0, .ref (a 0)), (3, .int (nI j))]) hx hb dX6_digest_35 rfl hl (by decide) rfl (fun ls hl => ?_)
        refine lv_iinc (v := nI (j + 1)) (lv' := [(3, .int (nI (j + 1))), (1, .long (((mixF (cnts S) (mix 353 (nI (c_day S)).toInt64) j) * (31)) + ((cnts S j).toInt64))), (0, .ref (a 0))]) hx hb dX6_digest_36 hl (k := 2) rfl (nI_1 _) (by decide) rfl (fun ls hl => ?_)
        refine lv_goto (tgt := 17) hx hb dX6_digest_39 (by decide) ?_
        have hl : lv_has ls 5 [(3, .int (nI (j + 1))), (1, .long (mixF (cnts S) (mix 353 (nI (c_day S)).toInt64) (j + 1))), (0, .ref (a 0))] := cb_loc hl (e := Value.long (mixF (cnts S) (mix 353 (nI (c_day S)).toInt64) (j + 1))) 1 rfl (congrArg Value.long (show ((mixF (cnts S) (mix 353 (nI (c_day S)).toInt64) j) * (31)) + ((cnts S j).toInt64) = mixF (cnts S) (mix 353 (nI (c_day S)).toInt64) (j + 1) from rfl))
        refine W.widen (k := ((j + 1))) (n := (7 * (j + 1))) (by omega) (by omega) ?_
        exact ih_17 (j + 1) (by omega) (by omega) H_30 L_30_ hP hD hS ls (lv_sub hl [2, 1, 0] rfl)
  have hl : lv_has ls 5 [(3, .int (nI 0)), (1, .long (mixF (cnts S) (mix 353 (nI (c_day S)).toInt64) 0)), (0, .ref (a 0))] := cb_loc hl (e := Value.long (mixF (cnts S) (mix 353 (nI (c_day S)).toInt64) 0)) 1 rfl (congrArg Value.long (show (10943) + ((nI (c_day S)).toInt64) = mixF (cnts S) (mix 353 (nI (c_day S)).toInt64) 0 from dig_0))
  refine W.widen (k := (0)) (n := (7 * 0)) (by omega) (by omega) ?_
  exact L_17 (7 + 1) 0 (by omega) (by omega) H locs hP hD hS ls (lv_sub hl [2, 1, 0] rfl)
end CBM
