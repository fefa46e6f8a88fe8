/-! p35: the law: patrols and scouts -/
section CBV9
def cSS (dC : Nat → ClassId) (dI : Nat → Nat → Nat) (sz : Nat) (ws : va_W) (tys : List (ClassId × FieldType)) (b L : Nat) (xs : Nat → Int32) (U : State) : Prop := cU dC dI sz ws tys U ∧ cSc b L xs U
theorem cSS_blind {dC : Nat → ClassId} {dI : Nat → Nat → Nat} {sz : Nat} {ws : va_W} {tys : List (ClassId × FieldType)} {b L : Nat} {xs : Nat → Int32} {av : List Value} : FrameBlind (va_Pc av (cSS dC dI sz ws tys b L xs)) := fun a U g mk q => ⟨q.1, (cU_blind (av := av) a U g mk ⟨q.1, q.2.1⟩).2, (cSc_blind (av := av) a U g mk ⟨q.1, q.2.2⟩).2⟩
theorem cp_told {np ns j : Nat} {x : Int32} {tl pl : Nat → Int32} {S : cs_S} (h : Cp 0 np ns 0 0 0 0 0 0 tl pl S) (hj : 3 * ns ≤ j) : Cp 0 np ns 0 0 0 0 0 0 (upd tl j x) pl S := by
  obtain ⟨hI, hC, hA, hT, hD, hK, hB, hW⟩ := h
  exact ⟨hI, hC, ag_upd hA (by rw [hC.2.2.1]; exact hj), hT, hD, hK, hB, hW⟩
abbrev rm_L_scouts : Room := { frames := 8, cells := 480, slots := 2880, locals := 150 }
set_option maxHeartbeats 4000000 in
set_option maxRecDepth 100000 in
theorem c_L_scouts (l : Launch) (hl9 : l.stackTraces = false) (dC : Nat → ClassId) (dI : Nat → Nat → Nat) (a : Nat → Nat) (k : Nat → ClassId) (qt : Nat) (kt : ClassId) (tl0 pl : Nat → Int32) (b L : Nat) (xs : Nat → Int32) (np ns sz : Nat) (hL : L ≤ 260) (hp1 : 1 ≤ np) (hp6 : np ≤ 6) (hn29 : ns ≤ 29) (S0 : cs_S) (hC0 : Cp 0 0 0 0 0 0 0 0 0 tl0 pl S0) (hbA : ¬ va_A (cb_w a k S0 ++ [(qt, .inl (kt, (90, .inl tl0)))]) sz b) : Met l yL_scouts wsL_scouts rm_L_scouts (va_Pc [.ref (a 0), .ref b, .int (nI 2), .int (nI np), .int (nI ns), .ref qt] (cSS dC dI sz (cb_w a k S0 ++ [(qt, .inl (kt, (90, .inl tl0)))]) (cb_ty k ++ [(kt, .int)]) b L xs)) (va_Qi (fun (r : Int32) (u : (Nat → Int32) × cs_S) => r = nI ns ∧ Cp 0 np ns 0 0 0 0 0 0 u.1 pl u.2) (fun u t => cB dC dI (va_A (cb_w a k S0 ++ [(qt, .inl (kt, (90, .inl tl0)))]) sz) (cb_w a k u.2 ++ [(qt, .inl (kt, (90, .inl u.1)))]) (cb_ty k ++ [(kt, .int)]) t) (va_A (cb_w a k S0 ++ [(qt, .inl (kt, (90, .inl tl0)))]) sz)) 480 2880 (va_A (cb_w a k S0 ++ [(qt, .inl (kt, (90, .inl tl0)))]) sz) := by
  refine Met.ofW (cc := cL_scouts) (maxL := 8) (ret := (some .int)) (by decide) rfl ?_
  intro p e s m args below meth c s₁ B hml hv
  obtain ⟨rfl, ⟨⟨hsz, hP, hK, hD0⟩, hE⟩, hX, hbl⟩ := hv
  have hx := B.exec
  have hb := B.bytes
  have hr := B.returns
  have hts := atoms_spec (ws := wsL_scouts) B.pre
  have hown : s.vm.findClass RL = some m.cls := findClass_of_methodNamed B.named
  have hlocks := B.notSynchronized
  subst hsz
  have hD := hD0.self (sz := s.heap.size)
  generalize hAe : va_A (cb_w a k S0 ++ [(qt, .inl (kt, (90, .inl tl0)))]) s.heap.size = A at hD hE hbA ⊢
  have hA : ∀ q : Nat, s.heap.size ≤ q → A q := fun q h => by rw [← hAe]; exact Or.inr h
  have hS : va_S A s.heap s.heap [] := va_S.rf
  obtain ⟨Q, hQ⟩ : ∃ Q, Q = MQ below (va_Qi (fun (r : Int32) (u : (Nat → Int32) × cs_S) => r = nI ns ∧ Cp 0 np ns 0 0 0 0 0 0 u.1 pl u.2) (fun u t => cB dC dI A (cb_w a k u.2 ++ [(qt, .inl (kt, (90, .inl u.1)))]) (cb_ty k ++ [(kt, .int)]) t) A) ([.ref (a 0), .ref b, .int (nI 2), .int (nI np), .int (nI ns), .ref qt] : List Value).toArray s 480 2880 A := ⟨_, rfl⟩
  show W p l e rm_L_scouts s m _ below meth c s.heap [] 0 0 (MQ below _ _ _ _ _ _) _
  rw [← hQ]
  have hl := lv_entry ([.ref (a 0), .ref b, .int (nI 2), .int (nI np), .int (nI ns), .ref qt]) (n := 8) (Nat.le_of_ble_eq_true rfl)
  rw [lg_entry_eq]
  generalize (lg_sl ([.ref (a 0), .ref b, .int (nI 2), .int (nI np), .int (nI ns), .ref qt]) ++ List.replicate (8 - (lg_sl ([.ref (a 0), .ref b, .int (nI 2), .int (nI np), .int (nI ns), .ref qt])).length) Slot.unset).toArray = ls at hl ⊢
  have hl : lv_has ls 8 [(0, .ref (a 0)), (1, .ref b), (2, .int (nI 2)), (3, .int (nI np)), (4, .int (nI ns)), (5, .ref qt)] := hl
  have L_29 : ∀ (n u : Nat), u ≤ ns → ns + 1 ≤ u + n → ∀ (S : cs_S) (tl : Nat → Int32) (H : Heap) (locs : List Loc) (ls : Array Slot), Cp 0 np u 0 0 0 0 0 0 tl pl S → va_P (dC, dI) vwCl (cb_w a k S ++ [(qt, .inl (kt, (90, .inl tl)))]) H → va_D A (cb_w a k S ++ [(qt, .inl (kt, (90, .inl tl)))]) → va_S A s.heap H locs → lv_has ls 8 [(0, .ref (a 0)), (1, .ref b), (2, .int (nI 2)), (3, .int (nI np)), (4, .int (nI ns)), (5, .ref qt), (6, .int (nI u))] → W p l e rm_L_scouts s m ([.ref (a 0), .ref b, .int (nI 2), .int (nI np), .int (nI ns), .ref qt] : List Value).toArray below meth c H locs (48 + 8 * u) (288 + 48 * u) Q (F0 m 29 ls []) := by
    intro n
    induction n with
    | zero => intro u h1 h2; exact absurd h2 (by omega)
    | succ n ih =>
      intro u hle hfu S tl H locs ls hC hP hD hS hl
      refine lv_iload hx hb dL_scouts_29 (lv_at hl 6 rfl) ?_
      refine lv_iload hx hb dL_scouts_31 (lv_at hl 4 rfl) ?_
      refine lv_icmp_ge (tgt := 158) hx hb dL_scouts_33 (by decide) (fun c_33 => ?_) (fun c_33 => ?_)
      · have c_33 : ns ≤ u := cb_ge (by omega) (by omega) c_33
        rw [show u = ns by omega] at hC
        refine lv_iload hx hb dL_scouts_158 (lv_at hl 4 rfl) ?_
        rw [hQ]
        refine W.widen (k := 480) (n := 2880) (by omega) (by omega) ?_
        exact W.iret (v := nI ns) hx hb hr (fun t9 ht9 hW9 => ⟨⟨nI ns, (tl, S), rfl, ⟨rfl, hC⟩, cB_of hP hK hD ht9 hW9⟩, hS.F ht9⟩) hS.2.2 dL_scouts_160
      · have c_33 : u < ns := cb_nge (by omega) (by omega) c_33
        refine lv_aload_n hx hb dL_scouts_36 rfl (lv_at hl 1 rfl) ?_
        refine lv_iload_n hx hb dL_scouts_37 rfl (lv_at hl 2 rfl) ?_
        refine lv_iload hx hb dL_scouts_38 (lv_at hl 6 rfl) ?_
        refine lv_iconst (v := nI 5) hx hb dL_scouts_40 (by decide) ?_
        refine lv_irem hx hb dL_scouts_41 (by decide) ?_
        refine cb_topi (pk_rem (d := 5) (by omega) (by decide) (by decide)) ?_
        refine lv_iadd hx hb dL_scouts_42 ?_
        refine cb_topi (nI_add _ _) ?_
        refine vp_callSi (W.runS (As := [.ref b, .int (nI (2 + (u % 5)))]) (rest := []) ⟨hx, hb, hml, hown, hts⟩ (c_L_cell l b L xs (2 + (u % 5)) hL (by omega)) (va_cwS 2 hts gL_scouts_L_cell rfl rfl rfl (by decide +kernel) ⟨(Nat.le_of_ble_eq_true rfl), (Nat.le_of_ble_eq_true rfl)⟩) ⟨cSc_blind, fun U hU hW => ⟨rfl, cSc_of hX hbl hbA hS hU hW⟩⟩ rfl rfl hl.1 rfl (lv_room (Nat.le_of_ble_eq_true rfl)) dL_scouts_43 ⟨(by show (48 + 8 * u) + 0 ≤ 480; omega), (by show (288 + 48 * u) + 0 ≤ 2880; omega)⟩) (fun r1 _ => ?_)
        refine lv_iload hx hb dL_scouts_46 (lv_at hl 6 rfl) ?_
        refine lv_iconst (v := nI 5) hx hb dL_scouts_48 (by decide) ?_
        refine lv_idiv hx hb dL_scouts_49 (by decide) ?_
        refine lv_iconst (v := nI 2) hx hb dL_scouts_50 (by decide) ?_
        refine lv_imul hx hb dL_scouts_51 ?_
        refine lv_ishr hx hb dL_scouts_52 ?_
        refine lv_iload hx hb dL_scouts_53 (lv_at hl 6 rfl) ?_
        refine lv_sipush (v := nI 911) hx hb dL_scouts_55 (by decide) ?_
        refine lv_imul hx hb dL_scouts_58 ?_
        refine cb_topi (pk_mul _ _) ?_
        refine lv_ixor hx hb dL_scouts_59 ?_
        refine lv_topi (fun y2 ey2 => ?_)
        refine lv_istore (lv' := [(7, .int y2), (0, .ref (a 0)), (1, .ref b), (2, .int (nI 2)), (3, .int (nI np)), (4, .int (nI ns)), (5, .ref qt), (6, .int (nI u))]) hx hb dL_scouts_60 hl (by decide) rfl (fun ls hl => ?_)
        refine lv_aload hx hb dL_scouts_62 (lv_at hl 6 rfl) ?_
        refine lv_iconst (v := nI 3) hx hb dL_scouts_64 (by decide) ?_
        refine lv_iload hx hb dL_scouts_65 (lv_at hl 7 rfl) ?_
        refine lv_imul hx hb dL_scouts_67 ?_
        refine cb_topi (pk_mul _ _) ?_
        refine lv_iload hx hb dL_scouts_68 (lv_at hl 0 rfl) ?_
        refine lv_iload_n hx hb dL_scouts_70 rfl (lv_at hl 4 rfl) ?_
        refine vp_callSi (W.runS (As := [.int y2, .int (nI np)]) (rest := [.int (nI (3 * u)), .ref qt]) ⟨hx, hb, hml, hown, hts⟩ (c_L_below l y2 np (by omega) (by omega)) (va_cwS 2 hts gL_scouts_L_below rfl rfl rfl (by decide +kernel) ⟨(Nat.le_of_ble_eq_true rfl), (Nat.le_of_ble_eq_true rfl)⟩) ⟨cN_blind, fun U hU hW => ⟨rfl, trivial⟩⟩ rfl rfl hl.1 rfl (lv_room (Nat.le_of_ble_eq_true rfl)) dL_scouts_71 ⟨(by show (48 + 8 * u) + 0 ≤ 480; omega), (by show (288 + 48 * u) + 0 ≤ 2880; omega)⟩) (fun r er => ?_)
        obtain ⟨j3, hj3, er⟩ := er
        subst er
        refine cb_iast hx hb hK hP hD hS 20 14 (f := tl) rfl rfl (j := 3 * u) (by omega) (Nat.le_of_ble_eq_true rfl) dL_scouts_74 (fun H locs hP hD hS => ?_)
        have hP : va_P (dC, dI) vwCl (cb_w a k S ++ [(qt, .inl (kt, (90, .inl (upd tl (3 * u) (nI j3)))))]) H := hP
        have hD : va_D A (cb_w a k S ++ [(qt, .inl (kt, (90, .inl (upd tl (3 * u) (nI j3)))))]) := hD
        refine lv_aload hx hb dL_scouts_75 (lv_at hl 6 rfl) ?_
        refine lv_iconst (v := nI 3) hx hb dL_scouts_77 (by decide) ?_
        refine lv_iload hx hb dL_scouts_78 (lv_at hl 7 rfl) ?_
        refine lv_imul hx hb dL_scouts_80 ?_
        refine cb_topi (pk_mul _ _) ?_
        refine lv_iconst (v := nI 1) hx hb dL_scouts_81 (by decide) ?_
        refine lv_iadd hx hb dL_scouts_82 ?_
        refine cb_topi (nI_add _ _) ?_
        refine lv_bipush (v := nI 6) hx hb dL_scouts_83 (by decide) ?_
        refine lv_iload hx hb dL_scouts_85 (lv_at hl 0 rfl) ?_
        refine lv_iconst (v := nI 4) hx hb dL_scouts_87 (by decide) ?_
        refine lv_ishr hx hb dL_scouts_88 ?_
        refine lv_bipush (v := nI 12) hx hb dL_scouts_89 (by decide) ?_
        refine vp_callSi (W.runS (As := [.int (y2 >>> (nI 4 &&& 31)), .int (nI 12)]) (rest := [.int (nI 6), .int (nI ((3 * u) + 1)), .ref qt]) ⟨hx, hb, hml, hown, hts⟩ (c_L_below l (y2 >>> (nI 4 &&& 31)) 12 (by omega) (by omega)) (va_cwS 2 hts gL_scouts_L_below rfl rfl rfl (by decide +kernel) ⟨(Nat.le_of_ble_eq_true rfl), (Nat.le_of_ble_eq_true rfl)⟩) ⟨cN_blind, fun U hU hW => ⟨rfl, trivial⟩⟩ rfl rfl hl.1 rfl (lv_room (Nat.le_of_ble_eq_true rfl)) dL_scouts_91 ⟨(by show (48 + 8 * u) + 0 ≤ 480; omega), (by show (288 + 48 * u) + 0 ≤ 2880; omega)⟩) (fun r er => ?_)
        obtain ⟨j4, hj4, er⟩ := er
        subst er
        refine lv_iadd hx hb dL_scouts_94 ?_
        refine cb_topi (nI_add _ _) ?_
        refine cb_iast hx hb hK hP hD hS 20 14 (f := upd tl (3 * u) (nI j3)) rfl rfl (j := (3 * u) + 1) (by omega) (Nat.le_of_ble_eq_true rfl) dL_scouts_95 (fun H locs hP hD hS => ?_)
        have hP : va_P (dC, dI) vwCl (cb_w a k S ++ [(qt, .inl (kt, (90, .inl (upd (upd tl (3 * u) (nI j3)) ((3 * u) + 1) (nI (6 + j4))))))]) H := hP
        have hD : va_D A (cb_w a k S ++ [(qt, .inl (kt, (90, .inl (upd (upd tl (3 * u) (nI j3)) ((3 * u) + 1) (nI (6 + j4))))))]) := hD
        refine lv_aload hx hb dL_scouts_96 (lv_at hl 6 rfl) ?_
        refine lv_iconst (v := nI 3) hx hb dL_scouts_98 (by decide) ?_
        refine lv_iload hx hb dL_scouts_99 (lv_at hl 7 rfl) ?_
        refine lv_imul hx hb dL_scouts_101 ?_
        refine cb_topi (pk_mul _ _) ?_
        refine lv_iconst (v := nI 2) hx hb dL_scouts_102 (by decide) ?_
        refine lv_iadd hx hb dL_scouts_103 ?_
        refine cb_topi (nI_add _ _) ?_
        refine lv_iload hx hb dL_scouts_104 (lv_at hl 0 rfl) ?_
        refine lv_bipush (v := nI 8) hx hb dL_scouts_106 (by decide) ?_
        refine lv_ishr hx hb dL_scouts_108 ?_
        refine lv_sipush (v := nI 256) hx hb dL_scouts_109 (by decide) ?_
        refine vp_callSi (W.runS (As := [.int (y2 >>> (nI 8 &&& 31)), .int (nI 256)]) (rest := [.int (nI ((3 * u) + 2)), .ref qt]) ⟨hx, hb, hml, hown, hts⟩ (c_L_below l (y2 >>> (nI 8 &&& 31)) 256 (by omega) (by omega)) (va_cwS 2 hts gL_scouts_L_below rfl rfl rfl (by decide +kernel) ⟨(Nat.le_of_ble_eq_true rfl), (Nat.le_of_ble_eq_true rfl)⟩) ⟨cN_blind, fun U hU hW => ⟨rfl, trivial⟩⟩ rfl rfl hl.1 rfl (lv_room (Nat.le_of_ble_eq_true rfl)) dL_scouts_112 ⟨(by show (48 + 8 * u) + 0 ≤ 480; omega), (by show (288 + 48 * u) + 0 ≤ 2880; omega)⟩) (fun r er => ?_)
        obtain ⟨j5, hj5, er⟩ := er
        subst er
        refine cb_iast hx hb hK hP hD hS 20 14 (f := upd (upd tl (3 * u) (nI j3)) ((3 * u) + 1) (nI (6 + j4))) rfl rfl (j := (3 * u) + 2) (by omega) (Nat.le_of_ble_eq_true rfl) dL_scouts_115 (fun H locs hP hD hS => ?_)
        have hP : va_P (dC, dI) vwCl (cb_w a k S ++ [(qt, .inl (kt, (90, .inl (upd (upd (upd tl (3 * u) (nI j3)) ((3 * u) + 1) (nI (6 + j4))) ((3 * u) + 2) (nI j5)))))]) H := hP
        have hD : va_D A (cb_w a k S ++ [(qt, .inl (kt, (90, .inl (upd (upd (upd tl (3 * u) (nI j3)) ((3 * u) + 1) (nI (6 + j4))) ((3 * u) + 2) (nI j5)))))]) := hD
        refine lv_aload_n hx hb dL_scouts_116 rfl (lv_at hl 1 rfl) ?_
        refine lv_aload hx hb dL_scouts_117 (lv_at hl 6 rfl) ?_
        refine lv_iconst (v := nI 3) hx hb dL_scouts_119 (by decide) ?_
        refine lv_iload hx hb dL_scouts_120 (lv_at hl 7 rfl) ?_
        refine lv_imul hx hb dL_scouts_122 ?_
        refine cb_topi (pk_mul _ _) ?_
        refine cb_iald hx hb hK hP 20 14 (f := upd (upd (upd tl (3 * u) (nI j3)) ((3 * u) + 1) (nI (6 + j4))) ((3 * u) + 2) (nI j5)) rfl rfl (j := 3 * u) (by omega) (Nat.le_of_ble_eq_true rfl) dL_scouts_123 ?_
        refine cb_topi (z := nI j3) ((pk_un (by omega)).trans ((pk_un (by omega)).trans pk_us)) ?_
        refine lv_aload hx hb dL_scouts_124 (lv_at hl 6 rfl) ?_
        refine lv_iconst (v := nI 3) hx hb dL_scouts_126 (by decide) ?_
        refine lv_iload hx hb dL_scouts_127 (lv_at hl 7 rfl) ?_
        refine lv_imul hx hb dL_scouts_129 ?_
        refine cb_topi (pk_mul _ _) ?_
        refine lv_iconst (v := nI 1) hx hb dL_scouts_130 (by decide) ?_
        refine lv_iadd hx hb dL_scouts_131 ?_
        refine cb_topi (nI_add _ _) ?_
        refine cb_iald hx hb hK hP 20 14 (f := upd (upd (upd tl (3 * u) (nI j3)) ((3 * u) + 1) (nI (6 + j4))) ((3 * u) + 2) (nI j5)) rfl rfl (j := (3 * u) + 1) (by omega) (Nat.le_of_ble_eq_true rfl) dL_scouts_132 ?_
        refine cb_topi (z := nI (6 + j4)) ((pk_un (by omega)).trans pk_us) ?_
        refine lv_aload hx hb dL_scouts_133 (lv_at hl 6 rfl) ?_
        refine lv_iconst (v := nI 3) hx hb dL_scouts_135 (by decide) ?_
        refine lv_iload hx hb dL_scouts_136 (lv_at hl 7 rfl) ?_
        refine lv_imul hx hb dL_scouts_138 ?_
        refine cb_topi (pk_mul _ _) ?_
        refine lv_iconst (v := nI 2) hx hb dL_scouts_139 (by decide) ?_
        refine lv_iadd hx hb dL_scouts_140 ?_
        refine cb_topi (nI_add _ _) ?_
        refine cb_iald hx hb hK hP 20 14 (f := upd (upd (upd tl (3 * u) (nI j3)) ((3 * u) + 1) (nI (6 + j4))) ((3 * u) + 2) (nI j5)) rfl rfl (j := (3 * u) + 2) (by omega) (Nat.le_of_ble_eq_true rfl) dL_scouts_141 ?_
        refine cb_topi (z := nI j5) pk_us ?_
        have hz := cp_addScout (cp_told (j := (3 * u) + 2) (x := nI j5) (cp_told (j := (3 * u) + 1) (x := nI (6 + j4)) (cp_told (j := 3 * u) (x := nI j3) hC (by omega)) (by omega)) (by omega)) (p := j3) (g := j4) (z := j5) hj3 hj4 hj5 (by omega) ((pk_un (by omega)).trans pk_us)
        have hPc := hP.sub (ws' := (cb_w a k S)) [0, 1, 2, 3, 4, 5, 6, 7, 8, 9, 10, 11, 12, 13, 14, 15, 16, 17, 18, 19] rfl
        have hDc := hD.sub (ws' := (cb_w a k S)) [0, 1, 2, 3, 4, 5, 6, 7, 8, 9, 10, 11, 12, 13, 14, 15, 16, 17, 18, 19] (by decide) rfl
        have hKc := hK.sub (tys' := (cb_ty k)) [0, 1, 2, 3, 4, 5, 6, 7, 8, 9, 10, 11, 12, 13] rfl
        have hF : ∀ z, va_A (cb_w a k S) H.size z → A z := va_free hD hS hA [0, 1, 2, 3, 4, 5, 6, 7, 8, 9, 10, 11, 12, 13, 14, 15, 16, 17, 18, 19] rfl
        refine vx_calli (vx_runV (As := [.int (nI j3), .int (nI (6 + j4)), .int (nI j5)]) (rest := []) ⟨hx, hb, hml, hown, hts⟩ (c_X5_addScout l hl9 dC dI a k S H.size (nI j3) (nI (6 + j4)) (nI j5) hC.1) (cwV 3 hts gL_scouts_X5_addScout rfl rfl rfl (by decide +kernel) ⟨(Nat.le_of_ble_eq_true rfl), (Nat.le_of_ble_eq_true rfl)⟩) ⟨cU_blind, va_recv hKc hPc (ci := 5) (q0 := 0) rfl rfl, fun U hU hW => ⟨rfl, cU_of hKc hPc hDc hE hS hU hW hF⟩⟩ rfl rfl hl.1 rfl (lv_room (Nat.le_of_ble_eq_true rfl)) dL_scouts_142 ⟨(by show (48 + 8 * u) + 8 ≤ 480; omega), (by show (288 + 48 * u) + 48 ≤ 2880; omega)⟩) hS (fun z _ h => hF z h) hF (fun z _ h => hF z h) (fun E ce q9 u8 t8 H1 L1 ht hvm _ hB hz1 hk1 hS hce hcv hcl => absurd hB.1.1 (by rw [hz.1]; decide)) (fun r9 u8 t8 H1 L1 ht hvm hw hB hz1 hk1 hS => ?_)
        obtain ⟨hP9, -, hD9⟩ := hB
        rw [ht] at hP9
        obtain ⟨hP8, hD8⟩ := va_join (wc := (cb_w a k S)) (wr := [(qt, .inl (kt, (90, .inl (upd (upd (upd tl (3 * u) (nI j3)) ((3 * u) + 1) (nI (6 + j4))) ((3 * u) + 2) (nI j5)))))]) hP hD [0, 1, 2, 3, 4, 5, 6, 7, 8, 9, 10, 11, 12, 13, 14, 15, 16, 17, 18, 19] [20] rfl rfl (by decide) (by decide) hk1 hF hP9 hD9
        have hP : va_P (dC, dI) vwCl (cb_w a k (S_addScout S (nI j3) (nI (6 + j4)) (nI j5)) ++ [(qt, .inl (kt, (90, .inl (upd (upd (upd tl (3 * u) (nI j3)) ((3 * u) + 1) (nI (6 + j4))) ((3 * u) + 2) (nI j5)))))]) H1 := hP8.sub [1, 2, 3, 4, 5, 6, 7, 8, 9, 10, 11, 12, 13, 14, 15, 16, 17, 18, 19, 20, 0] rfl
        have hD : va_D A (cb_w a k (S_addScout S (nI j3) (nI (6 + j4)) (nI j5)) ++ [(qt, .inl (kt, (90, .inl (upd (upd (upd tl (3 * u) (nI j3)) ((3 * u) + 1) (nI (6 + j4))) ((3 * u) + 2) (nI j5)))))]) := hD8.sub [1, 2, 3, 4, 5, 6, 7, 8, 9, 10, 11, 12, 13, 14, 15, 16, 17, 18, 19, 20, 0] (by decide) rfl
        obtain ⟨-, hr9⟩ := hw
        subst hr9
        refine cb_topi (z := nI u) (congrArg nI hC.2.1.2.2.1) ?_
        have hC := hz.2
        generalize S_addScout S (nI j3) (nI (6 + j4)) (nI j5) = S at hP hD hC
        refine lv_iload hx hb dL_scouts_145 (lv_at hl 7 rfl) ?_
        refine lv_icmp_eq (tgt := 152) hx hb dL_scouts_147 (by decide) (fun c_147 => ?_) (fun c_147 => ?_)
        · have c_147 : u = u := cb_eq (by omega) (by omega) c_147
          refine lv_iinc (v := nI (u + 1)) (lv' := [(6, .int (nI (u + 1))), (7, .int y2), (0, .ref (a 0)), (1, .ref b), (2, .int (nI 2)), (3, .int (nI np)), (4, .int (nI ns)), (5, .ref qt)]) hx hb dL_scouts_152 hl (k := 7) rfl (nI_1 _) (by decide) rfl (fun ls hl => ?_)
          refine lv_goto (tgt := 29) hx hb dL_scouts_155 (by decide) ?_
          refine W.widen (k := 48 + 8 * (u + 1)) (n := 288 + 48 * (u + 1)) (by omega) (by omega) ?_
          exact ih (u + 1) (by omega) (by omega) S (upd (upd (upd tl (3 * u) (nI j3)) ((3 * u) + 1) (nI (6 + j4))) ((3 * u) + 2) (nI j5)) H1 L1 ls hC hP hD hS (lv_sub hl [2, 3, 4, 5, 6, 7, 0] rfl)
        · have c_147 : u ≠ u := cb_ne (by omega) (by omega) c_147
          exact absurd rfl c_147
  have L_3 : ∀ (n v : Nat), v ≤ np → np + 1 ≤ v + n → ∀ (S : cs_S) (H : Heap) (locs : List Loc) (ls : Array Slot), Cp 0 v 0 0 0 0 0 0 0 tl0 pl S → va_P (dC, dI) vwCl (cb_w a k S ++ [(qt, .inl (kt, (90, .inl tl0)))]) H → va_D A (cb_w a k S ++ [(qt, .inl (kt, (90, .inl tl0)))]) → va_S A s.heap H locs → lv_has ls 8 [(0, .ref (a 0)), (1, .ref b), (2, .int (nI 2)), (3, .int (nI np)), (4, .int (nI ns)), (5, .ref qt), (6, .int (nI v))] → W p l e rm_L_scouts s m ([.ref (a 0), .ref b, .int (nI 2), .int (nI np), .int (nI ns), .ref qt] : List Value).toArray below meth c H locs (8 * v) (48 * v) Q (F0 m 3 ls []) := by
    intro n
    induction n with
    | zero => intro v h1 h2; exact absurd h2 (by omega)
    | succ n ih =>
      intro v hle hfu S H locs ls hC hP hD hS hl
      refine lv_iload hx hb dL_scouts_3 (lv_at hl 6 rfl) ?_
      refine lv_iload_n hx hb dL_scouts_5 rfl (lv_at hl 3 rfl) ?_
      refine lv_icmp_ge (tgt := 26) hx hb dL_scouts_6 (by decide) (fun c_6 => ?_) (fun c_6 => ?_)
      · have c_6 : np ≤ v := cb_ge (by omega) (by omega) c_6
        refine lv_iconst (v := nI 0) hx hb dL_scouts_26 (by decide) ?_
        refine lv_istore (lv' := [(6, .int (nI 0)), (0, .ref (a 0)), (1, .ref b), (2, .int (nI 2)), (3, .int (nI np)), (4, .int (nI ns)), (5, .ref qt)]) hx hb dL_scouts_27 hl (by decide) rfl (fun ls hl => ?_)
        rw [show v = np by omega] at hC
        refine W.widen (k := 48 + 8 * 0) (n := 288 + 48 * 0) (by omega) (by omega) ?_
        exact L_29 (ns + 1) 0 (by omega) (by omega) S tl0 H locs ls hC hP hD hS (lv_sub hl [1, 2, 3, 4, 5, 6, 0] rfl)
      · have c_6 : v < np := cb_nge (by omega) (by omega) c_6
        refine lv_aload_n hx hb dL_scouts_9 rfl (lv_at hl 0 rfl) ?_
        have hz := cp_addPatrol hC (by omega)
        have hPc := hP.sub (ws' := (cb_w a k S)) [0, 1, 2, 3, 4, 5, 6, 7, 8, 9, 10, 11, 12, 13, 14, 15, 16, 17, 18, 19] rfl
        have hDc := hD.sub (ws' := (cb_w a k S)) [0, 1, 2, 3, 4, 5, 6, 7, 8, 9, 10, 11, 12, 13, 14, 15, 16, 17, 18, 19] (by decide) rfl
        have hKc := hK.sub (tys' := (cb_ty k)) [0, 1, 2, 3, 4, 5, 6, 7, 8, 9, 10, 11, 12, 13] rfl
        have hF : ∀ z, va_A (cb_w a k S) H.size z → A z := va_free hD hS hA [0, 1, 2, 3, 4, 5, 6, 7, 8, 9, 10, 11, 12, 13, 14, 15, 16, 17, 18, 19] rfl
        refine vx_calli (vx_runV (As := []) (rest := []) ⟨hx, hb, hml, hown, hts⟩ (c_X5_addPatrol l hl9 dC dI a k S H.size  hC.1) (cwV 0 hts gL_scouts_X5_addPatrol rfl rfl rfl (by decide +kernel) ⟨(Nat.le_of_ble_eq_true rfl), (Nat.le_of_ble_eq_true rfl)⟩) ⟨cU_blind, va_recv hKc hPc (ci := 5) (q0 := 0) rfl rfl, fun U hU hW => ⟨rfl, cU_of hKc hPc hDc hE hS hU hW hF⟩⟩ rfl rfl hl.1 rfl (lv_room (Nat.le_of_ble_eq_true rfl)) dL_scouts_10 ⟨(by show (8 * v) + 8 ≤ 480; omega), (by show (48 * v) + 48 ≤ 2880; omega)⟩) hS (fun z _ h => hF z h) hF (fun z _ h => hF z h) (fun E ce q9 u8 t8 H1 L1 ht hvm _ hB hz1 hk1 hS hce hcv hcl => absurd hB.1.1 (by rw [hz.1]; decide)) (fun r9 u8 t8 H1 L1 ht hvm hw hB hz1 hk1 hS => ?_)
        obtain ⟨hP9, -, hD9⟩ := hB
        rw [ht] at hP9
        obtain ⟨hP8, hD8⟩ := va_join (wc := (cb_w a k S)) (wr := [(qt, .inl (kt, (90, .inl tl0)))]) hP hD [0, 1, 2, 3, 4, 5, 6, 7, 8, 9, 10, 11, 12, 13, 14, 15, 16, 17, 18, 19] [20] rfl rfl (by decide) (by decide) hk1 hF hP9 hD9
        have hP : va_P (dC, dI) vwCl (cb_w a k (S_addPatrol S) ++ [(qt, .inl (kt, (90, .inl tl0)))]) H1 := hP8.sub [1, 2, 3, 4, 5, 6, 7, 8, 9, 10, 11, 12, 13, 14, 15, 16, 17, 18, 19, 20, 0] rfl
        have hD : va_D A (cb_w a k (S_addPatrol S) ++ [(qt, .inl (kt, (90, .inl tl0)))]) := hD8.sub [1, 2, 3, 4, 5, 6, 7, 8, 9, 10, 11, 12, 13, 14, 15, 16, 17, 18, 19, 20, 0] (by decide) rfl
        obtain ⟨-, hr9⟩ := hw
        subst hr9
        refine cb_topi (z := nI v) (congrArg nI hC.2.1.2.1) ?_
        have hC := hz.2
        generalize S_addPatrol S = S at hP hD hC
        refine lv_iload hx hb dL_scouts_13 (lv_at hl 6 rfl) ?_
        refine lv_icmp_eq (tgt := 20) hx hb dL_scouts_15 (by decide) (fun c_15 => ?_) (fun c_15 => ?_)
        · have c_15 : v = v := cb_eq (by omega) (by omega) c_15
          refine lv_iinc (v := nI (v + 1)) (lv' := [(6, .int (nI (v + 1))), (0, .ref (a 0)), (1, .ref b), (2, .int (nI 2)), (3, .int (nI np)), (4, .int (nI ns)), (5, .ref qt)]) hx hb dL_scouts_20 hl (k := 6) rfl (nI_1 _) (by decide) rfl (fun ls hl => ?_)
          refine lv_goto (tgt := 3) hx hb dL_scouts_23 (by decide) ?_
          refine W.widen (k := 8 * (v + 1)) (n := 48 * (v + 1)) (by omega) (by omega) ?_
          exact ih (v + 1) (by omega) (by omega) S H1 L1 ls hC hP hD hS (lv_sub hl [1, 2, 3, 4, 5, 6, 0] rfl)
        · have c_15 : v ≠ v := cb_ne (by omega) (by omega) c_15
          exact absurd rfl c_15
  refine lv_iconst (v := nI 0) hx hb dL_scouts_0 (by decide) ?_
  refine lv_istore (lv' := [(6, .int (nI 0)), (0, .ref (a 0)), (1, .ref b), (2, .int (nI 2)), (3, .int (nI np)), (4, .int (nI ns)), (5, .ref qt)]) hx hb dL_scouts_1 hl (by decide) rfl (fun ls hl => ?_)
  refine W.widen (k := 8 * 0) (n := 48 * 0) (by omega) (by omega) ?_
  exact L_3 (np + 1) 0 (by omega) (by omega) S0 s.heap [] ls hC0 hP hD hS (lv_sub hl [1, 2, 3, 4, 5, 6, 0] rfl)
end CBV9
