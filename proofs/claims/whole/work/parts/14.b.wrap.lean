section CBW1
abbrev rm_L_addPatrol : Room := { frames := 7, cells := 8, slots := 48, locals := 110 }
set_option maxHeartbeats 4000000 in
set_option maxRecDepth 100000 in
theorem c_L_addPatrol (l : Launch) (hl9 : l.stackTraces = false) (dC : Nat → ClassId) (dI : Nat → Nat → Nat) (a : Nat → Nat) (k : Nat → ClassId) (S : cs_S) (q : Nat) (kq : ClassId) (f : Nat → Int64) (sz : Nat)  (hI : Inv S) : Met l yL_addPatrol wsL_addPatrol rm_L_addPatrol (va_Pc [.ref (a 0), .ref q] (cV dC dI sz (cb_w a k S ++ [(q, .inl (kq, (1, .inr (.inl (f)))))]) (cb_ty k ++ [(kq, .long)]))) (va_Qi (fun (r : Int32) (f2 : Nat → Int64) => r = nI (k_addPatrol S) ∧ (k_addPatrol S = 0 → f2 0 = (nI (c_np S)).toInt64)) (fun f2 t => cB dC dI (va_A (cb_w a k S ++ [(q, .inl (kq, (1, .inr (.inl (f)))))]) sz) (cb_w a k (kS (k_addPatrol S) (S_addPatrol S) S) ++ [(q, .inl (kq, (1, .inr (.inl (f2)))))]) (cb_ty k ++ [(kq, .long)]) t) (va_A (cb_w a k S ++ [(q, .inl (kq, (1, .inr (.inl (f)))))]) sz)) 8 48 (va_A (cb_w a k S ++ [(q, .inl (kq, (1, .inr (.inl (f)))))]) sz) := by
  refine va_MetW (cc := cL_addPatrol) (maxL := 3) (ret := (some .int)) (hh := [(0, 8, 11, 13)]) (by decide) rfl ?_
  intro p e s m args below meth c s₁ B hml hv
  obtain ⟨rfl, ⟨hsz, hP, hK, hD0⟩, hE⟩ := hv
  have hx := B.exec
  have hb := B.bytes
  have hr := B.returns
  have hts := atoms_spec (ws := wsL_addPatrol) B.pre
  have hown : s.vm.findClass RL = some m.cls := findClass_of_methodNamed B.named
  have htb : c.exceptionTable.toList = tableOf [(0, 8, 11, 13)] := vx_table (x := yL_addPatrol) B (hts (.codeWith yL_addPatrol cL_addPatrol 3 (some .int) [(0, 8, 11, 13)]) List.mem_cons_self)
  subst hsz
  have hD := hD0.self (sz := s.heap.size)
  generalize hAe : va_A (cb_w a k S ++ [(q, .inl (kq, (1, .inr (.inl (f)))))]) s.heap.size = A at hD hE ⊢
  have hA : ∀ q : Nat, s.heap.size ≤ q → A q := fun q h => by rw [← hAe]; exact Or.inr h
  have hS : va_S A s.heap s.heap [] := va_S.rf
  obtain ⟨Q, hQ⟩ : ∃ Q, Q = MQ below (va_Qi (fun (r : Int32) (f2 : Nat → Int64) => r = nI (k_addPatrol S) ∧ (k_addPatrol S = 0 → f2 0 = (nI (c_np S)).toInt64)) (fun f2 t => cB dC dI A (cb_w a k (kS (k_addPatrol S) (S_addPatrol S) S) ++ [(q, .inl (kq, (1, .inr (.inl (f2)))))]) (cb_ty k ++ [(kq, .long)]) t) A) ([.ref (a 0), .ref q] : List Value).toArray s 8 48 A := ⟨_, rfl⟩
  show W p l e rm_L_addPatrol s m _ below meth c s.heap [] 0 0 (MQ below _ _ _ _ _ _) _
  rw [← hQ]
  have f_0 := hts (.classLink RL 13 xE_S) (by decide +kernel)
  have hl := lv_entry ([.ref (a 0), .ref q]) (n := 3) (Nat.le_of_ble_eq_true rfl)
  rw [lg_entry_eq]
  generalize (lg_sl ([.ref (a 0), .ref q]) ++ List.replicate (3 - (lg_sl ([.ref (a 0), .ref q])).length) Slot.unset).toArray = ls at hl ⊢
  have hl : lv_has ls 3 [(0, .ref (a 0)), (1, .ref q)] := hl
  refine lv_aload_n hx hb dL_addPatrol_0 rfl (lv_at hl 1 rfl) ?_
  refine lv_iconst (v := nI 0) hx hb dL_addPatrol_1 (by decide) ?_
  refine lv_aload_n hx hb dL_addPatrol_2 rfl (lv_at hl 0 rfl) ?_
  have hPc := hP.sub (ws' := (cb_w a k S)) [0, 1, 2, 3, 4, 5, 6, 7, 8, 9, 10, 11, 12, 13, 14, 15, 16, 17, 18, 19] rfl
  have hDc := hD.sub (ws' := (cb_w a k S)) [0, 1, 2, 3, 4, 5, 6, 7, 8, 9, 10, 11, 12, 13, 14, 15, 16, 17, 18, 19] (by decide) rfl
  have hKc := hK.sub (tys' := (cb_ty k)) [0, 1, 2, 3, 4, 5, 6, 7, 8, 9, 10, 11, 12, 13] rfl
  have hF : ∀ q9, va_A (cb_w a k S) s.heap.size q9 → A q9 := va_free hD hS hA [0, 1, 2, 3, 4, 5, 6, 7, 8, 9, 10, 11, 12, 13, 14, 15, 16, 17, 18, 19] rfl
  refine vx_calli (vx_runV (As := []) (rest := [.int (nI 0), .ref q]) ⟨hx, hb, hml, hown, hts⟩ (c_X5_addPatrol l hl9 dC dI a k S s.heap.size hI) (cwV 0 hts gL_addPatrol_X5_addPatrol rfl rfl rfl (by decide +kernel) ⟨(Nat.le_of_ble_eq_true rfl), (Nat.le_of_ble_eq_true rfl)⟩) ⟨cU_blind, va_recv hKc hPc (ci := 5) (q0 := 0) rfl rfl, fun U hU hW => ⟨rfl, cU_of hKc hPc hDc hE.1 hS hU hW hF⟩⟩ rfl rfl hl.1 rfl (lv_room (Nat.le_of_ble_eq_true rfl)) dL_addPatrol_3 ⟨(Nat.le_of_ble_eq_true rfl), (Nat.le_of_ble_eq_true rfl)⟩) hS (fun q9 _ h => hF q9 h) hF (fun q9 _ h => hF q9 h) (fun E ce q9 u8 t8 H1 L1 ht hvm _ hB hz1 hk1 hS hce hcv hcl => ?_) (fun r9 u8 t8 H1 L1 ht hvm hw hB hz1 hk1 hS => ?_)
  · obtain ⟨hpx9, hB⟩ := hB
    obtain ⟨hP9, -, hD9⟩ := hB
    rw [ht] at hP9
    obtain ⟨hP8, hD8⟩ := va_join (wc := (cb_w a k S)) (wr := [(q, .inl (kq, (1, .inr (.inl (f)))))]) hP hD [0, 1, 2, 3, 4, 5, 6, 7, 8, 9, 10, 11, 12, 13, 14, 15, 16, 17, 18, 19] [20] rfl rfl (by decide) (by decide) hk1 hF hP9 hD9
    have hP : va_P (dC, dI) vwCl (cb_w a k S ++ [(q, .inl (kq, (1, .inr (.inl (f)))))]) H1 := hP8.sub [1, 2, 3, 4, 5, 6, 7, 8, 9, 10, 11, 12, 13, 14, 15, 16, 17, 18, 19, 20, 0] rfl
    have hD : va_D A (cb_w a k S ++ [(q, .inl (kq, (1, .inr (.inl (f)))))]) := hD8.sub [1, 2, 3, 4, 5, 6, 7, 8, 9, 10, 11, 12, 13, 14, 15, 16, 17, 18, 19, 20, 0] (by decide) rfl
    obtain ⟨hk9, rfl⟩ := px_1 hpx9
    refine vx_catch (own := RL) (name := xE_S) (E := xE_S) hown [] (⟨0, 8, 11, 13⟩ : ExceptionTableEntry) [] htb (fun z hz => absurd hz List.not_mem_nil) (by decide) (by decide) f_0 (va_Nw.use rfl (hE.1.2.2.1 (.castable xE_S xE_S) (by decide +kernel))) hce hcv hcl ?_
    refine lv_astore_n (lv' := [(2, .ref q9), (0, .ref (a 0)), (1, .ref q)]) hx hb dL_addPatrol_11 rfl hl (by decide) rfl (fun ls hl => ?_)
    refine lv_iconst (v := nI 1) hx hb dL_addPatrol_12 (by decide) ?_
    have ew : (cb_w a k S ++ [(q, .inl (kq, (1, .inr (.inl (f)))))]) = (cb_w a k (kS (k_addPatrol S) (S_addPatrol S) S) ++ [(q, .inl (kq, (1, .inr (.inl (f)))))]) := by rw [hk9]; rfl
    have hP : va_P (dC, dI) vwCl (cb_w a k (kS (k_addPatrol S) (S_addPatrol S) S) ++ [(q, .inl (kq, (1, .inr (.inl (f)))))]) H1 := by rw [← ew]; exact hP
    have hD : va_D A (cb_w a k (kS (k_addPatrol S) (S_addPatrol S) S) ++ [(q, .inl (kq, (1, .inr (.inl (f)))))]) := by rw [← ew]; exact hD
    rw [hQ]
    exact W.iret (v := nI 1) hx hb hr (fun t9 ht9 hW9 => ⟨⟨nI 1, f, rfl, ⟨by rw [hk9], fun h9 => absurd (hk9.symm.trans h9) (by decide)⟩, cB_of hP hK hD ht9 hW9⟩, hS.F ht9⟩) hS.2.2 dL_addPatrol_13
  · skip
    obtain ⟨hP9, -, hD9⟩ := hB
    rw [ht] at hP9
    obtain ⟨hP8, hD8⟩ := va_join (wc := (cb_w a k S)) (wr := [(q, .inl (kq, (1, .inr (.inl (f)))))]) hP hD [0, 1, 2, 3, 4, 5, 6, 7, 8, 9, 10, 11, 12, 13, 14, 15, 16, 17, 18, 19] [20] rfl rfl (by decide) (by decide) hk1 hF hP9 hD9
    have hP : va_P (dC, dI) vwCl (cb_w a k (S_addPatrol S) ++ [(q, .inl (kq, (1, .inr (.inl (f)))))]) H1 := hP8.sub [1, 2, 3, 4, 5, 6, 7, 8, 9, 10, 11, 12, 13, 14, 15, 16, 17, 18, 19, 20, 0] rfl
    have hD : va_D A (cb_w a k (S_addPatrol S) ++ [(q, .inl (kq, (1, .inr (.inl (f)))))]) := hD8.sub [1, 2, 3, 4, 5, 6, 7, 8, 9, 10, 11, 12, 13, 14, 15, 16, 17, 18, 19, 20, 0] (by decide) rfl
    obtain ⟨hk9, hr9⟩ := hw
    subst hr9
    have hP : va_P (dC, dI) vwCl ((cb_W a k (S_addPatrol S) (c_sl (S_addPatrol S)) (c_pt (S_addPatrol S)) (c_at (S_addPatrol S))) ++ [(q, .inl (kq, (1, .inr (.inl (f)))))]) H1 := hP
    have hD : va_D A ((cb_W a k (S_addPatrol S) (c_sl (S_addPatrol S)) (c_pt (S_addPatrol S)) (c_at (S_addPatrol S))) ++ [(q, .inl (kq, (1, .inr (.inl (f)))))]) := hD
    refine lv_i2l hx hb dL_addPatrol_6 rfl ?_
    refine cb_last hx hb hK hP hD hS 20 14 (f := f) rfl rfl (j := 0) (by omega) (Nat.le_of_ble_eq_true rfl) dL_addPatrol_7 (fun H locs hP hD hS => ?_)
    have hP : va_P (dC, dI) vwCl ((cb_W a k (S_addPatrol S) (c_sl (S_addPatrol S)) (c_pt (S_addPatrol S)) (c_at (S_addPatrol S))) ++ [(q, .inl (kq, (1, .inr (.inl (vp_updL f 0 ((nI (c_np S)).toInt64))))))]) H := hP
    have hD : va_D A ((cb_W a k (S_addPatrol S) (c_sl (S_addPatrol S)) (c_pt (S_addPatrol S)) (c_at (S_addPatrol S))) ++ [(q, .inl (kq, (1, .inr (.inl (vp_updL f 0 ((nI (c_np S)).toInt64))))))]) := hD
    refine lv_goto (tgt := 14) hx hb dL_addPatrol_8 (by decide) ?_
    refine lv_iconst (v := nI 0) hx hb dL_addPatrol_14 (by decide) ?_
    have ew : ((cb_W a k (S_addPatrol S) (c_sl (S_addPatrol S)) (c_pt (S_addPatrol S)) (c_at (S_addPatrol S))) ++ [(q, .inl (kq, (1, .inr (.inl (vp_updL f 0 ((nI (c_np S)).toInt64))))))]) = (cb_w a k (kS (k_addPatrol S) (S_addPatrol S) S) ++ [(q, .inl (kq, (1, .inr (.inl (vp_updL f 0 ((nI (c_np S)).toInt64))))))]) := by rw [hk9]; rfl
    have hP : va_P (dC, dI) vwCl (cb_w a k (kS (k_addPatrol S) (S_addPatrol S) S) ++ [(q, .inl (kq, (1, .inr (.inl (vp_updL f 0 ((nI (c_np S)).toInt64))))))]) H := by rw [← ew]; exact hP
    have hD : va_D A (cb_w a k (kS (k_addPatrol S) (S_addPatrol S) S) ++ [(q, .inl (kq, (1, .inr (.inl (vp_updL f 0 ((nI (c_np S)).toInt64))))))]) := by rw [← ew]; exact hD
    rw [hQ]
    exact W.iret (v := nI 0) hx hb hr (fun t9 ht9 hW9 => ⟨⟨nI 0, (vp_updL f 0 ((nI (c_np S)).toInt64)), rfl, ⟨by rw [hk9], fun _ => pk_uLs⟩, cB_of hP hK hD ht9 hW9⟩, hS.F ht9⟩) hS.2.2 dL_addPatrol_15
abbrev rm_L_addScout : Room := { frames := 8, cells := 8, slots := 48, locals := 135 }
set_option maxHeartbeats 4000000 in
set_option maxRecDepth 100000 in
theorem c_L_addScout (l : Launch) (hl9 : l.stackTraces = false) (dC : Nat → ClassId) (dI : Nat → Nat → Nat) (a : Nat → Nat) (k : Nat → ClassId) (S : cs_S) (q : Nat) (kq : ClassId) (f : Nat → Int64) (sz : Nat) (x0 : Int32) (x1 : Int32) (x2 : Int32) (hI : Inv S) : Met l yL_addScout wsL_addScout rm_L_addScout (va_Pc [.ref (a 0), .int x0, .int x1, .int x2, .ref q] (cV dC dI sz (cb_w a k S ++ [(q, .inl (kq, (1, .inr (.inl (f)))))]) (cb_ty k ++ [(kq, .long)]))) (va_Qi (fun (r : Int32) (f2 : Nat → Int64) => r = nI (k_addScout S x0 x1 x2) ∧ (k_addScout S x0 x1 x2 = 0 → f2 0 = (nI (c_ns S)).toInt64)) (fun f2 t => cB dC dI (va_A (cb_w a k S ++ [(q, .inl (kq, (1, .inr (.inl (f)))))]) sz) (cb_w a k (kS (k_addScout S x0 x1 x2) (S_addScout S x0 x1 x2) S) ++ [(q, .inl (kq, (1, .inr (.inl (f2)))))]) (cb_ty k ++ [(kq, .long)]) t) (va_A (cb_w a k S ++ [(q, .inl (kq, (1, .inr (.inl (f)))))]) sz)) 8 48 (va_A (cb_w a k S ++ [(q, .inl (kq, (1, .inr (.inl (f)))))]) sz) := by
  refine va_MetW (cc := cL_addScout) (maxL := 6) (ret := (some .int)) (hh := [(0, 12, 15, 19), (0, 12, 19, 21), (0, 12, 23, 13)]) (by decide) rfl ?_
  intro p e s m args below meth c s₁ B hml hv
  obtain ⟨rfl, ⟨hsz, hP, hK, hD0⟩, hE⟩ := hv
  have hx := B.exec
  have hb := B.bytes
  have hr := B.returns
  have hts := atoms_spec (ws := wsL_addScout) B.pre
  have hown : s.vm.findClass RL = some m.cls := findClass_of_methodNamed B.named
  have htb : c.exceptionTable.toList = tableOf [(0, 12, 15, 19), (0, 12, 19, 21), (0, 12, 23, 13)] := vx_table (x := yL_addScout) B (hts (.codeWith yL_addScout cL_addScout 6 (some .int) [(0, 12, 15, 19), (0, 12, 19, 21), (0, 12, 23, 13)]) List.mem_cons_self)
  subst hsz
  have hD := hD0.self (sz := s.heap.size)
  generalize hAe : va_A (cb_w a k S ++ [(q, .inl (kq, (1, .inr (.inl (f)))))]) s.heap.size = A at hD hE ⊢
  have hA : ∀ q : Nat, s.heap.size ≤ q → A q := fun q h => by rw [← hAe]; exact Or.inr h
  have hS : va_S A s.heap s.heap [] := va_S.rf
  obtain ⟨Q, hQ⟩ : ∃ Q, Q = MQ below (va_Qi (fun (r : Int32) (f2 : Nat → Int64) => r = nI (k_addScout S x0 x1 x2) ∧ (k_addScout S x0 x1 x2 = 0 → f2 0 = (nI (c_ns S)).toInt64)) (fun f2 t => cB dC dI A (cb_w a k (kS (k_addScout S x0 x1 x2) (S_addScout S x0 x1 x2) S) ++ [(q, .inl (kq, (1, .inr (.inl (f2)))))]) (cb_ty k ++ [(kq, .long)]) t) A) ([.ref (a 0), .int x0, .int x1, .int x2, .ref q] : List Value).toArray s 8 48 A := ⟨_, rfl⟩
  show W p l e rm_L_addScout s m _ below meth c s.heap [] 0 0 (MQ below _ _ _ _ _ _) _
  rw [← hQ]
  have f_0 := hts (.classLink RL 19 xE_I) (by decide +kernel)
  have f_1 := hts (.classLink RL 21 xE_A) (by decide +kernel)
  have f_2 := hts (.classLink RL 13 xE_S) (by decide +kernel)
  have hl := lv_entry ([.ref (a 0), .int x0, .int x1, .int x2, .ref q]) (n := 6) (Nat.le_of_ble_eq_true rfl)
  rw [lg_entry_eq]
  generalize (lg_sl ([.ref (a 0), .int x0, .int x1, .int x2, .ref q]) ++ List.replicate (6 - (lg_sl ([.ref (a 0), .int x0, .int x1, .int x2, .ref q])).length) Slot.unset).toArray = ls at hl ⊢
  have hl : lv_has ls 6 [(0, .ref (a 0)), (1, .int x0), (2, .int x1), (3, .int x2), (4, .ref q)] := hl
  refine lv_aload hx hb dL_addScout_0 (lv_at hl 4 rfl) ?_
  refine lv_iconst (v := nI 0) hx hb dL_addScout_2 (by decide) ?_
  refine lv_aload_n hx hb dL_addScout_3 rfl (lv_at hl 0 rfl) ?_
  refine lv_iload_n hx hb dL_addScout_4 rfl (lv_at hl 1 rfl) ?_
  refine lv_iload_n hx hb dL_addScout_5 rfl (lv_at hl 2 rfl) ?_
  refine lv_iload_n hx hb dL_addScout_6 rfl (lv_at hl 3 rfl) ?_
  have hPc := hP.sub (ws' := (cb_w a k S)) [0, 1, 2, 3, 4, 5, 6, 7, 8, 9, 10, 11, 12, 13, 14, 15, 16, 17, 18, 19] rfl
  have hDc := hD.sub (ws' := (cb_w a k S)) [0, 1, 2, 3, 4, 5, 6, 7, 8, 9, 10, 11, 12, 13, 14, 15, 16, 17, 18, 19] (by decide) rfl
  have hKc := hK.sub (tys' := (cb_ty k)) [0, 1, 2, 3, 4, 5, 6, 7, 8, 9, 10, 11, 12, 13] rfl
  have hF : ∀ q9, va_A (cb_w a k S) s.heap.size q9 → A q9 := va_free hD hS hA [0, 1, 2, 3, 4, 5, 6, 7, 8, 9, 10, 11, 12, 13, 14, 15, 16, 17, 18, 19] rfl
  refine vx_calli (vx_runV (As := [.int x0, .int x1, .int x2]) (rest := [.int (nI 0), .ref q]) ⟨hx, hb, hml, hown, hts⟩ (c_X5_addScout l hl9 dC dI a k S s.heap.size x0 x1 x2 hI) (cwV 3 hts gL_addScout_X5_addScout rfl rfl rfl (by decide +kernel) ⟨(Nat.le_of_ble_eq_true rfl), (Nat.le_of_ble_eq_true rfl)⟩) ⟨cU_blind, va_recv hKc hPc (ci := 5) (q0 := 0) rfl rfl, fun U hU hW => ⟨rfl, cU_of hKc hPc hDc hE.1 hS hU hW hF⟩⟩ rfl rfl hl.1 rfl (lv_room (Nat.le_of_ble_eq_true rfl)) dL_addScout_7 ⟨(Nat.le_of_ble_eq_true rfl), (Nat.le_of_ble_eq_true rfl)⟩) hS (fun q9 _ h => hF q9 h) hF (fun q9 _ h => hF q9 h) (fun E ce q9 u8 t8 H1 L1 ht hvm _ hB hz1 hk1 hS hce hcv hcl => ?_) (fun r9 u8 t8 H1 L1 ht hvm hw hB hz1 hk1 hS => ?_)
  · obtain ⟨hpx9, hB⟩ := hB
    obtain ⟨hP9, -, hD9⟩ := hB
    rw [ht] at hP9
    obtain ⟨hP8, hD8⟩ := va_join (wc := (cb_w a k S)) (wr := [(q, .inl (kq, (1, .inr (.inl (f)))))]) hP hD [0, 1, 2, 3, 4, 5, 6, 7, 8, 9, 10, 11, 12, 13, 14, 15, 16, 17, 18, 19] [20] rfl rfl (by decide) (by decide) hk1 hF hP9 hD9
    have hP : va_P (dC, dI) vwCl (cb_w a k S ++ [(q, .inl (kq, (1, .inr (.inl (f)))))]) H1 := hP8.sub [1, 2, 3, 4, 5, 6, 7, 8, 9, 10, 11, 12, 13, 14, 15, 16, 17, 18, 19, 20, 0] rfl
    have hD : va_D A (cb_w a k S ++ [(q, .inl (kq, (1, .inr (.inl (f)))))]) := hD8.sub [1, 2, 3, 4, 5, 6, 7, 8, 9, 10, 11, 12, 13, 14, 15, 16, 17, 18, 19, 20, 0] (by decide) rfl
    rcases px_3 hpx9 with ⟨hk9, rfl⟩ | ⟨hk9, rfl⟩ | ⟨hk9, rfl⟩
    · refine vx_catch (own := RL) (name := xE_I) (E := xE_I) hown [] (⟨0, 12, 15, 19⟩ : ExceptionTableEntry) [(⟨0, 12, 19, 21⟩ : ExceptionTableEntry), (⟨0, 12, 23, 13⟩ : ExceptionTableEntry)] htb (fun z hz => absurd hz List.not_mem_nil) (by decide) (by decide) f_0 (va_Nw.use rfl (hE.1.2.2.1 (.castable xE_I xE_I) (by decide +kernel))) hce hcv hcl ?_
      refine lv_astore (lv' := [(5, .ref q9), (0, .ref (a 0)), (1, .int x0), (2, .int x1), (3, .int x2), (4, .ref q)]) hx hb dL_addScout_15 hl (by decide) rfl (fun ls hl => ?_)
      refine lv_iconst (v := nI 1) hx hb dL_addScout_17 (by decide) ?_
      have ew : (cb_w a k S ++ [(q, .inl (kq, (1, .inr (.inl (f)))))]) = (cb_w a k (kS (k_addScout S x0 x1 x2) (S_addScout S x0 x1 x2) S) ++ [(q, .inl (kq, (1, .inr (.inl (f)))))]) := by rw [hk9]; rfl
      have hP : va_P (dC, dI) vwCl (cb_w a k (kS (k_addScout S x0 x1 x2) (S_addScout S x0 x1 x2) S) ++ [(q, .inl (kq, (1, .inr (.inl (f)))))]) H1 := by rw [← ew]; exact hP
      have hD : va_D A (cb_w a k (kS (k_addScout S x0 x1 x2) (S_addScout S x0 x1 x2) S) ++ [(q, .inl (kq, (1, .inr (.inl (f)))))]) := by rw [← ew]; exact hD
      rw [hQ]
      exact W.iret (v := nI 1) hx hb hr (fun t9 ht9 hW9 => ⟨⟨nI 1, f, rfl, ⟨by rw [hk9], fun h9 => absurd (hk9.symm.trans h9) (by decide)⟩, cB_of hP hK hD ht9 hW9⟩, hS.F ht9⟩) hS.2.2 dL_addScout_18
    · refine vx_catch (own := RL) (name := xE_A) (E := xE_A) hown [(⟨0, 12, 15, 19⟩ : ExceptionTableEntry)] (⟨0, 12, 19, 21⟩ : ExceptionTableEntry) [(⟨0, 12, 23, 13⟩ : ExceptionTableEntry)] htb (fun z hz => by cases List.mem_singleton.mp hz; exact Or.inr ⟨by decide, xE_I, f_0, hE.2 (xE_A, xE_I) (by decide +kernel)⟩) (by decide) (by decide) f_1 (va_Nw.use rfl (hE.1.2.2.1 (.castable xE_A xE_A) (by decide +kernel))) hce hcv hcl ?_
      refine lv_astore (lv' := [(5, .ref q9), (0, .ref (a 0)), (1, .int x0), (2, .int x1), (3, .int x2), (4, .ref q)]) hx hb dL_addScout_19 hl (by decide) rfl (fun ls hl => ?_)
      refine lv_iconst (v := nI 2) hx hb dL_addScout_21 (by decide) ?_
      have ew : (cb_w a k S ++ [(q, .inl (kq, (1, .inr (.inl (f)))))]) = (cb_w a k (kS (k_addScout S x0 x1 x2) (S_addScout S x0 x1 x2) S) ++ [(q, .inl (kq, (1, .inr (.inl (f)))))]) := by rw [hk9]; rfl
      have hP : va_P (dC, dI) vwCl (cb_w a k (kS (k_addScout S x0 x1 x2) (S_addScout S x0 x1 x2) S) ++ [(q, .inl (kq, (1, .inr (.inl (f)))))]) H1 := by rw [← ew]; exact hP
      have hD : va_D A (cb_w a k (kS (k_addScout S x0 x1 x2) (S_addScout S x0 x1 x2) S) ++ [(q, .inl (kq, (1, .inr (.inl (f)))))]) := by rw [← ew]; exact hD
      rw [hQ]
      exact W.iret (v := nI 2) hx hb hr (fun t9 ht9 hW9 => ⟨⟨nI 2, f, rfl, ⟨by rw [hk9], fun h9 => absurd (hk9.symm.trans h9) (by decide)⟩, cB_of hP hK hD ht9 hW9⟩, hS.F ht9⟩) hS.2.2 dL_addScout_22
    · refine vx_catch (own := RL) (name := xE_S) (E := xE_S) hown [(⟨0, 12, 15, 19⟩ : ExceptionTableEntry), (⟨0, 12, 19, 21⟩ : ExceptionTableEntry)] (⟨0, 12, 23, 13⟩ : ExceptionTableEntry) [] htb (fun z hz => by rcases List.mem_cons.mp hz with rfl | hz; exact Or.inr ⟨by decide, xE_I, f_0, hE.2 (xE_S, xE_I) (by decide +kernel)⟩; cases List.mem_singleton.mp hz; exact Or.inr ⟨by decide, xE_A, f_1, hE.2 (xE_S, xE_A) (by decide +kernel)⟩) (by decide) (by decide) f_2 (va_Nw.use rfl (hE.1.2.2.1 (.castable xE_S xE_S) (by decide +kernel))) hce hcv hcl ?_
      refine lv_astore (lv' := [(5, .ref q9), (0, .ref (a 0)), (1, .int x0), (2, .int x1), (3, .int x2), (4, .ref q)]) hx hb dL_addScout_23 hl (by decide) rfl (fun ls hl => ?_)
      refine lv_iconst (v := nI 3) hx hb dL_addScout_25 (by decide) ?_
      have ew : (cb_w a k S ++ [(q, .inl (kq, (1, .inr (.inl (f)))))]) = (cb_w a k (kS (k_addScout S x0 x1 x2) (S_addScout S x0 x1 x2) S) ++ [(q, .inl (kq, (1, .inr (.inl (f)))))]) := by rw [hk9]; rfl
      have hP : va_P (dC, dI) vwCl (cb_w a k (kS (k_addScout S x0 x1 x2) (S_addScout S x0 x1 x2) S) ++ [(q, .inl (kq, (1, .inr (.inl (f)))))]) H1 := by rw [← ew]; exact hP
      have hD : va_D A (cb_w a k (kS (k_addScout S x0 x1 x2) (S_addScout S x0 x1 x2) S) ++ [(q, .inl (kq, (1, .inr (.inl (f)))))]) := by rw [← ew]; exact hD
      rw [hQ]
      exact W.iret (v := nI 3) hx hb hr (fun t9 ht9 hW9 => ⟨⟨nI 3, f, rfl, ⟨by rw [hk9], fun h9 => absurd (hk9.symm.trans h9) (by decide)⟩, cB_of hP hK hD ht9 hW9⟩, hS.F ht9⟩) hS.2.2 dL_addScout_26
  · skip
    obtain ⟨hP9, -, hD9⟩ := hB
    rw [ht] at hP9
    obtain ⟨hP8, hD8⟩ := va_join (wc := (cb_w a k S)) (wr := [(q, .inl (kq, (1, .inr (.inl (f)))))]) hP hD [0, 1, 2, 3, 4, 5, 6, 7, 8, 9, 10, 11, 12, 13, 14, 15, 16, 17, 18, 19] [20] rfl rfl (by decide) (by decide) hk1 hF hP9 hD9
    have hP : va_P (dC, dI) vwCl (cb_w a k (S_addScout S x0 x1 x2) ++ [(q, .inl (kq, (1, .inr (.inl (f)))))]) H1 := hP8.sub [1, 2, 3, 4, 5, 6, 7, 8, 9, 10, 11, 12, 13, 14, 15, 16, 17, 18, 19, 20, 0] rfl
    have hD : va_D A (cb_w a k (S_addScout S x0 x1 x2) ++ [(q, .inl (kq, (1, .inr (.inl (f)))))]) := hD8.sub [1, 2, 3, 4, 5, 6, 7, 8, 9, 10, 11, 12, 13, 14, 15, 16, 17, 18, 19, 20, 0] (by decide) rfl
    obtain ⟨hk9, hr9⟩ := hw
    subst hr9
    have hP : va_P (dC, dI) vwCl ((cb_W a k (S_addScout S x0 x1 x2) (c_sl (S_addScout S x0 x1 x2)) (c_pt (S_addScout S x0 x1 x2)) (c_at (S_addScout S x0 x1 x2))) ++ [(q, .inl (kq, (1, .inr (.inl (f)))))]) H1 := hP
    have hD : va_D A ((cb_W a k (S_addScout S x0 x1 x2) (c_sl (S_addScout S x0 x1 x2)) (c_pt (S_addScout S x0 x1 x2)) (c_at (S_addScout S x0 x1 x2))) ++ [(q, .inl (kq, (1, .inr (.inl (f)))))]) := hD
    refine lv_i2l hx hb dL_addScout_10 rfl ?_
    refine cb_last hx hb hK hP hD hS 20 14 (f := f) rfl rfl (j := 0) (by omega) (Nat.le_of_ble_eq_true rfl) dL_addScout_11 (fun H locs hP hD hS => ?_)
    have hP : va_P (dC, dI) vwCl ((cb_W a k (S_addScout S x0 x1 x2) (c_sl (S_addScout S x0 x1 x2)) (c_pt (S_addScout S x0 x1 x2)) (c_at (S_addScout S x0 x1 x2))) ++ [(q, .inl (kq, (1, .inr (.inl (vp_updL f 0 ((nI (c_ns S)).toInt64))))))]) H := hP
    have hD : va_D A ((cb_W a k (S_addScout S x0 x1 x2) (c_sl (S_addScout S x0 x1 x2)) (c_pt (S_addScout S x0 x1 x2)) (c_at (S_addScout S x0 x1 x2))) ++ [(q, .inl (kq, (1, .inr (.inl (vp_updL f 0 ((nI (c_ns S)).toInt64))))))]) := hD
    refine lv_goto (tgt := 27) hx hb dL_addScout_12 (by decide) ?_
    refine lv_iconst (v := nI 0) hx hb dL_addScout_27 (by decide) ?_
    have ew : ((cb_W a k (S_addScout S x0 x1 x2) (c_sl (S_addScout S x0 x1 x2)) (c_pt (S_addScout S x0 x1 x2)) (c_at (S_addScout S x0 x1 x2))) ++ [(q, .inl (kq, (1, .inr (.inl (vp_updL f 0 ((nI (c_ns S)).toInt64))))))]) = (cb_w a k (kS (k_addScout S x0 x1 x2) (S_addScout S x0 x1 x2) S) ++ [(q, .inl (kq, (1, .inr (.inl (vp_updL f 0 ((nI (c_ns S)).toInt64))))))]) := by rw [hk9]; rfl
    have hP : va_P (dC, dI) vwCl (cb_w a k (kS (k_addScout S x0 x1 x2) (S_addScout S x0 x1 x2) S) ++ [(q, .inl (kq, (1, .inr (.inl (vp_updL f 0 ((nI (c_ns S)).toInt64))))))]) H := by rw [← ew]; exact hP
    have hD : va_D A (cb_w a k (kS (k_addScout S x0 x1 x2) (S_addScout S x0 x1 x2) S) ++ [(q, .inl (kq, (1, .inr (.inl (vp_updL f 0 ((nI (c_ns S)).toInt64))))))]) := by rw [← ew]; exact hD
    rw [hQ]
    exact W.iret (v := nI 0) hx hb hr (fun t9 ht9 hW9 => ⟨⟨nI 0, (vp_updL f 0 ((nI (c_ns S)).toInt64)), rfl, ⟨by rw [hk9], fun _ => pk_uLs⟩, cB_of hP hK hD ht9 hW9⟩, hS.F ht9⟩) hS.2.2 dL_addScout_28
abbrev rm_L_scout : Room := { frames := 8, cells := 8, slots := 48, locals := 133 }
set_option maxHeartbeats 4000000 in
set_option maxRecDepth 100000 in
theorem c_L_scout (l : Launch) (hl9 : l.stackTraces = false) (dC : Nat → ClassId) (dI : Nat → Nat → Nat) (a : Nat → Nat) (k : Nat → ClassId) (S : cs_S) (q : Nat) (kq : ClassId) (f : Nat → Int64) (sz : Nat) (x0 : Int32) (x1 : Int32) (hI : Inv S) : Met l yL_scout wsL_scout rm_L_scout (va_Pc [.ref (a 0), .int x0, .int x1, .ref q] (cV dC dI sz (cb_w a k S ++ [(q, .inl (kq, (1, .inr (.inl (f)))))]) (cb_ty k ++ [(kq, .long)]))) (va_Qi (fun (r : Int32) (f2 : Nat → Int64) => r = nI (k_scout S x0 x1) ∧ (k_scout S x0 x1 = 0 → f2 0 = (r_scout S x0 x1).toInt64)) (fun f2 t => cB dC dI (va_A (cb_w a k S ++ [(q, .inl (kq, (1, .inr (.inl (f)))))]) sz) (cb_w a k S ++ [(q, .inl (kq, (1, .inr (.inl (f2)))))]) (cb_ty k ++ [(kq, .long)]) t) (va_A (cb_w a k S ++ [(q, .inl (kq, (1, .inr (.inl (f)))))]) sz)) 8 48 (va_A (cb_w a k S ++ [(q, .inl (kq, (1, .inr (.inl (f)))))]) sz) := by
  refine va_MetW (cc := cL_scout) (maxL := 5) (ret := (some .int)) (hh := [(0, 10, 13, 19)]) (by decide) rfl ?_
  intro p e s m args below meth c s₁ B hml hv
  obtain ⟨rfl, ⟨hsz, hP, hK, hD0⟩, hE⟩ := hv
  have hx := B.exec
  have hb := B.bytes
  have hr := B.returns
  have hts := atoms_spec (ws := wsL_scout) B.pre
  have hown : s.vm.findClass RL = some m.cls := findClass_of_methodNamed B.named
  have htb : c.exceptionTable.toList = tableOf [(0, 10, 13, 19)] := vx_table (x := yL_scout) B (hts (.codeWith yL_scout cL_scout 5 (some .int) [(0, 10, 13, 19)]) List.mem_cons_self)
  subst hsz
  have hD := hD0.self (sz := s.heap.size)
  generalize hAe : va_A (cb_w a k S ++ [(q, .inl (kq, (1, .inr (.inl (f)))))]) s.heap.size = A at hD hE ⊢
  have hA : ∀ q : Nat, s.heap.size ≤ q → A q := fun q h => by rw [← hAe]; exact Or.inr h
  have hS : va_S A s.heap s.heap [] := va_S.rf
  obtain ⟨Q, hQ⟩ : ∃ Q, Q = MQ below (va_Qi (fun (r : Int32) (f2 : Nat → Int64) => r = nI (k_scout S x0 x1) ∧ (k_scout S x0 x1 = 0 → f2 0 = (r_scout S x0 x1).toInt64)) (fun f2 t => cB dC dI A (cb_w a k S ++ [(q, .inl (kq, (1, .inr (.inl (f2)))))]) (cb_ty k ++ [(kq, .long)]) t) A) ([.ref (a 0), .int x0, .int x1, .ref q] : List Value).toArray s 8 48 A := ⟨_, rfl⟩
  show W p l e rm_L_scout s m _ below meth c s.heap [] 0 0 (MQ below _ _ _ _ _ _) _
  rw [← hQ]
  have f_0 := hts (.classLink RL 19 xE_I) (by decide +kernel)
  have hl := lv_entry ([.ref (a 0), .int x0, .int x1, .ref q]) (n := 5) (Nat.le_of_ble_eq_true rfl)
  rw [lg_entry_eq]
  generalize (lg_sl ([.ref (a 0), .int x0, .int x1, .ref q]) ++ List.replicate (5 - (lg_sl ([.ref (a 0), .int x0, .int x1, .ref q])).length) Slot.unset).toArray = ls at hl ⊢
  have hl : lv_has ls 5 [(0, .ref (a 0)), (1, .int x0), (2, .int x1), (3, .ref q)] := hl
  refine lv_aload_n hx hb dL_scout_0 rfl (lv_at hl 3 rfl) ?_
  refine lv_iconst (v := nI 0) hx hb dL_scout_1 (by decide) ?_
  refine lv_aload_n hx hb dL_scout_2 rfl (lv_at hl 0 rfl) ?_
  refine lv_iload_n hx hb dL_scout_3 rfl (lv_at hl 1 rfl) ?_
  refine lv_iload_n hx hb dL_scout_4 rfl (lv_at hl 2 rfl) ?_
  have hPc := hP.sub (ws' := (cb_w a k S)) [0, 1, 2, 3, 4, 5, 6, 7, 8, 9, 10, 11, 12, 13, 14, 15, 16, 17, 18, 19] rfl
  have hDc := hD.sub (ws' := (cb_w a k S)) [0, 1, 2, 3, 4, 5, 6, 7, 8, 9, 10, 11, 12, 13, 14, 15, 16, 17, 18, 19] (by decide) rfl
  have hKc := hK.sub (tys' := (cb_ty k)) [0, 1, 2, 3, 4, 5, 6, 7, 8, 9, 10, 11, 12, 13] rfl
  have hF : ∀ q9, va_A (cb_w a k S) s.heap.size q9 → A q9 := va_free hD hS hA [0, 1, 2, 3, 4, 5, 6, 7, 8, 9, 10, 11, 12, 13, 14, 15, 16, 17, 18, 19] rfl
  refine vx_calli (vx_runV (As := [.int x0, .int x1]) (rest := [.int (nI 0), .ref q]) ⟨hx, hb, hml, hown, hts⟩ (c_X5_scout l hl9 dC dI a k S s.heap.size x0 x1 hI) (cwV 2 hts gL_scout_X5_scout rfl rfl rfl (by decide +kernel) ⟨(Nat.le_of_ble_eq_true rfl), (Nat.le_of_ble_eq_true rfl)⟩) ⟨cU_blind, va_recv hKc hPc (ci := 5) (q0 := 0) rfl rfl, fun U hU hW => ⟨rfl, cU_of hKc hPc hDc hE.1 hS hU hW hF⟩⟩ rfl rfl hl.1 rfl (lv_room (Nat.le_of_ble_eq_true rfl)) dL_scout_5 ⟨(Nat.le_of_ble_eq_true rfl), (Nat.le_of_ble_eq_true rfl)⟩) hS (fun q9 _ h => hF q9 h) hF (fun q9 _ h => hF q9 h) (fun E ce q9 u8 t8 H1 L1 ht hvm _ hB hz1 hk1 hS hce hcv hcl => ?_) (fun r9 u8 t8 H1 L1 ht hvm hw hB hz1 hk1 hS => ?_)
  · obtain ⟨hpx9, hB⟩ := hB
    obtain ⟨hP9, -, hD9⟩ := hB
    rw [ht] at hP9
    obtain ⟨hP8, hD8⟩ := va_join (wc := (cb_w a k S)) (wr := [(q, .inl (kq, (1, .inr (.inl (f)))))]) hP hD [0, 1, 2, 3, 4, 5, 6, 7, 8, 9, 10, 11, 12, 13, 14, 15, 16, 17, 18, 19] [20] rfl rfl (by decide) (by decide) hk1 hF hP9 hD9
    have hP : va_P (dC, dI) vwCl (cb_w a k S ++ [(q, .inl (kq, (1, .inr (.inl (f)))))]) H1 := hP8.sub [1, 2, 3, 4, 5, 6, 7, 8, 9, 10, 11, 12, 13, 14, 15, 16, 17, 18, 19, 20, 0] rfl
    have hD : va_D A (cb_w a k S ++ [(q, .inl (kq, (1, .inr (.inl (f)))))]) := hD8.sub [1, 2, 3, 4, 5, 6, 7, 8, 9, 10, 11, 12, 13, 14, 15, 16, 17, 18, 19, 20, 0] (by decide) rfl
    obtain ⟨hk9, rfl⟩ := px_1 hpx9
    refine vx_catch (own := RL) (name := xE_I) (E := xE_I) hown [] (⟨0, 10, 13, 19⟩ : ExceptionTableEntry) [] htb (fun z hz => absurd hz List.not_mem_nil) (by decide) (by decide) f_0 (va_Nw.use rfl (hE.1.2.2.1 (.castable xE_I xE_I) (by decide +kernel))) hce hcv hcl ?_
    refine lv_astore (lv' := [(4, .ref q9), (0, .ref (a 0)), (1, .int x0), (2, .int x1), (3, .ref q)]) hx hb dL_scout_13 hl (by decide) rfl (fun ls hl => ?_)
    refine lv_iconst (v := nI 1) hx hb dL_scout_15 (by decide) ?_
    skip
    rw [hQ]
    exact W.iret (v := nI 1) hx hb hr (fun t9 ht9 hW9 => ⟨⟨nI 1, f, rfl, ⟨by rw [hk9], fun h9 => absurd (hk9.symm.trans h9) (by decide)⟩, cB_of hP hK hD ht9 hW9⟩, hS.F ht9⟩) hS.2.2 dL_scout_16
  · skip
    obtain ⟨hP9, -, hD9⟩ := hB
    rw [ht] at hP9
    obtain ⟨hP8, hD8⟩ := va_join (wc := (cb_w a k S)) (wr := [(q, .inl (kq, (1, .inr (.inl (f)))))]) hP hD [0, 1, 2, 3, 4, 5, 6, 7, 8, 9, 10, 11, 12, 13, 14, 15, 16, 17, 18, 19] [20] rfl rfl (by decide) (by decide) hk1 hF hP9 hD9
    have hP : va_P (dC, dI) vwCl (cb_w a k S ++ [(q, .inl (kq, (1, .inr (.inl (f)))))]) H1 := hP8.sub [1, 2, 3, 4, 5, 6, 7, 8, 9, 10, 11, 12, 13, 14, 15, 16, 17, 18, 19, 20, 0] rfl
    have hD : va_D A (cb_w a k S ++ [(q, .inl (kq, (1, .inr (.inl (f)))))]) := hD8.sub [1, 2, 3, 4, 5, 6, 7, 8, 9, 10, 11, 12, 13, 14, 15, 16, 17, 18, 19, 20, 0] (by decide) rfl
    obtain ⟨hk9, hr9⟩ := hw
    subst hr9
    have hP : va_P (dC, dI) vwCl ((cb_W a k S (c_sl S) (c_pt S) (c_at S)) ++ [(q, .inl (kq, (1, .inr (.inl (f)))))]) H1 := hP
    have hD : va_D A ((cb_W a k S (c_sl S) (c_pt S) (c_at S)) ++ [(q, .inl (kq, (1, .inr (.inl (f)))))]) := hD
    refine lv_i2l hx hb dL_scout_8 rfl ?_
    refine cb_last hx hb hK hP hD hS 20 14 (f := f) rfl rfl (j := 0) (by omega) (Nat.le_of_ble_eq_true rfl) dL_scout_9 (fun H locs hP hD hS => ?_)
    have hP : va_P (dC, dI) vwCl ((cb_W a k S (c_sl S) (c_pt S) (c_at S)) ++ [(q, .inl (kq, (1, .inr (.inl (vp_updL f 0 ((r_scout S x0 x1).toInt64))))))]) H := hP
    have hD : va_D A ((cb_W a k S (c_sl S) (c_pt S) (c_at S)) ++ [(q, .inl (kq, (1, .inr (.inl (vp_updL f 0 ((r_scout S x0 x1).toInt64))))))]) := hD
    refine lv_goto (tgt := 17) hx hb dL_scout_10 (by decide) ?_
    refine lv_iconst (v := nI 0) hx hb dL_scout_17 (by decide) ?_
    have ew : ((cb_W a k S (c_sl S) (c_pt S) (c_at S)) ++ [(q, .inl (kq, (1, .inr (.inl (vp_updL f 0 ((r_scout S x0 x1).toInt64))))))]) = (cb_w a k S ++ [(q, .inl (kq, (1, .inr (.inl (vp_updL f 0 ((r_scout S x0 x1).toInt64))))))]) := rfl
    have hP : va_P (dC, dI) vwCl (cb_w a k S ++ [(q, .inl (kq, (1, .inr (.inl (vp_updL f 0 ((r_scout S x0 x1).toInt64))))))]) H := by rw [← ew]; exact hP
    have hD : va_D A (cb_w a k S ++ [(q, .inl (kq, (1, .inr (.inl (vp_updL f 0 ((r_scout S x0 x1).toInt64))))))]) := by rw [← ew]; exact hD
    rw [hQ]
    exact W.iret (v := nI 0) hx hb hr (fun t9 ht9 hW9 => ⟨⟨nI 0, (vp_updL f 0 ((r_scout S x0 x1).toInt64)), rfl, ⟨by rw [hk9], fun _ => pk_uLs⟩, cB_of hP hK hD ht9 hW9⟩, hS.F ht9⟩) hS.2.2 dL_scout_18
abbrev rm_L_addTent : Room := { frames := 8, cells := 8, slots := 48, locals := 133 }
set_option maxHeartbeats 4000000 in
set_option maxRecDepth 100000 in
theorem c_L_addTent (l : Launch) (hl9 : l.stackTraces = false) (dC : Nat → ClassId) (dI : Nat → Nat → Nat) (a : Nat → Nat) (k : Nat → ClassId) (S : cs_S) (q : Nat) (kq : ClassId) (f : Nat → Int64) (sz : Nat) (x0 : Int32) (hI : Inv S) : Met l yL_addTent wsL_addTent rm_L_addTent (va_Pc [.ref (a 0), .int x0, .ref q] (cV dC dI sz (cb_w a k S ++ [(q, .inl (kq, (1, .inr (.inl (f)))))]) (cb_ty k ++ [(kq, .long)]))) (va_Qi (fun (r : Int32) (f2 : Nat → Int64) => r = nI (k_addTent S x0) ∧ (k_addTent S x0 = 0 → f2 0 = (nI (c_nt S)).toInt64)) (fun f2 t => cB dC dI (va_A (cb_w a k S ++ [(q, .inl (kq, (1, .inr (.inl (f)))))]) sz) (cb_w a k (kS (k_addTent S x0) (S_addTent S x0) S) ++ [(q, .inl (kq, (1, .inr (.inl (f2)))))]) (cb_ty k ++ [(kq, .long)]) t) (va_A (cb_w a k S ++ [(q, .inl (kq, (1, .inr (.inl (f)))))]) sz)) 8 48 (va_A (cb_w a k S ++ [(q, .inl (kq, (1, .inr (.inl (f)))))]) sz) := by
  refine va_MetW (cc := cL_addTent) (maxL := 4) (ret := (some .int)) (hh := [(0, 9, 12, 21), (0, 9, 15, 13)]) (by decide) rfl ?_
  intro p e s m args below meth c s₁ B hml hv
  obtain ⟨rfl, ⟨hsz, hP, hK, hD0⟩, hE⟩ := hv
  have hx := B.exec
  have hb := B.bytes
  have hr := B.returns
  have hts := atoms_spec (ws := wsL_addTent) B.pre
  have hown : s.vm.findClass RL = some m.cls := findClass_of_methodNamed B.named
  have htb : c.exceptionTable.toList = tableOf [(0, 9, 12, 21), (0, 9, 15, 13)] := vx_table (x := yL_addTent) B (hts (.codeWith yL_addTent cL_addTent 4 (some .int) [(0, 9, 12, 21), (0, 9, 15, 13)]) List.mem_cons_self)
  subst hsz
  have hD := hD0.self (sz := s.heap.size)
  generalize hAe : va_A (cb_w a k S ++ [(q, .inl (kq, (1, .inr (.inl (f)))))]) s.heap.size = A at hD hE ⊢
  have hA : ∀ q : Nat, s.heap.size ≤ q → A q := fun q h => by rw [← hAe]; exact Or.inr h
  have hS : va_S A s.heap s.heap [] := va_S.rf
  obtain ⟨Q, hQ⟩ : ∃ Q, Q = MQ below (va_Qi (fun (r : Int32) (f2 : Nat → Int64) => r = nI (k_addTent S x0) ∧ (k_addTent S x0 = 0 → f2 0 = (nI (c_nt S)).toInt64)) (fun f2 t => cB dC dI A (cb_w a k (kS (k_addTent S x0) (S_addTent S x0) S) ++ [(q, .inl (kq, (1, .inr (.inl (f2)))))]) (cb_ty k ++ [(kq, .long)]) t) A) ([.ref (a 0), .int x0, .ref q] : List Value).toArray s 8 48 A := ⟨_, rfl⟩
  show W p l e rm_L_addTent s m _ below meth c s.heap [] 0 0 (MQ below _ _ _ _ _ _) _
  rw [← hQ]
  have f_0 := hts (.classLink RL 21 xE_A) (by decide +kernel)
  have f_1 := hts (.classLink RL 13 xE_S) (by decide +kernel)
  have hl := lv_entry ([.ref (a 0), .int x0, .ref q]) (n := 4) (Nat.le_of_ble_eq_true rfl)
  rw [lg_entry_eq]
  generalize (lg_sl ([.ref (a 0), .int x0, .ref q]) ++ List.replicate (4 - (lg_sl ([.ref (a 0), .int x0, .ref q])).length) Slot.unset).toArray = ls at hl ⊢
  have hl : lv_has ls 4 [(0, .ref (a 0)), (1, .int x0), (2, .ref q)] := hl
  refine lv_aload_n hx hb dL_addTent_0 rfl (lv_at hl 2 rfl) ?_
  refine lv_iconst (v := nI 0) hx hb dL_addTent_1 (by decide) ?_
  refine lv_aload_n hx hb dL_addTent_2 rfl (lv_at hl 0 rfl) ?_
  refine lv_iload_n hx hb dL_addTent_3 rfl (lv_at hl 1 rfl) ?_
  have hPc := hP.sub (ws' := (cb_w a k S)) [0, 1, 2, 3, 4, 5, 6, 7, 8, 9, 10, 11, 12, 13, 14, 15, 16, 17, 18, 19] rfl
  have hDc := hD.sub (ws' := (cb_w a k S)) [0, 1, 2, 3, 4, 5, 6, 7, 8, 9, 10, 11, 12, 13, 14, 15, 16, 17, 18, 19] (by decide) rfl
  have hKc := hK.sub (tys' := (cb_ty k)) [0, 1, 2, 3, 4, 5, 6, 7, 8, 9, 10, 11, 12, 13] rfl
  have hF : ∀ q9, va_A (cb_w a k S) s.heap.size q9 → A q9 := va_free hD hS hA [0, 1, 2, 3, 4, 5, 6, 7, 8, 9, 10, 11, 12, 13, 14, 15, 16, 17, 18, 19] rfl
  refine vx_calli (vx_runV (As := [.int x0]) (rest := [.int (nI 0), .ref q]) ⟨hx, hb, hml, hown, hts⟩ (c_X5_addTent l hl9 dC dI a k S s.heap.size x0 hI) (cwV 1 hts gL_addTent_X5_addTent rfl rfl rfl (by decide +kernel) ⟨(Nat.le_of_ble_eq_true rfl), (Nat.le_of_ble_eq_true rfl)⟩) ⟨cU_blind, va_recv hKc hPc (ci := 5) (q0 := 0) rfl rfl, fun U hU hW => ⟨rfl, cU_of hKc hPc hDc hE.1 hS hU hW hF⟩⟩ rfl rfl hl.1 rfl (lv_room (Nat.le_of_ble_eq_true rfl)) dL_addTent_4 ⟨(Nat.le_of_ble_eq_true rfl), (Nat.le_of_ble_eq_true rfl)⟩) hS (fun q9 _ h => hF q9 h) hF (fun q9 _ h => hF q9 h) (fun E ce q9 u8 t8 H1 L1 ht hvm _ hB hz1 hk1 hS hce hcv hcl => ?_) (fun r9 u8 t8 H1 L1 ht hvm hw hB hz1 hk1 hS => ?_)
  · obtain ⟨hpx9, hB⟩ := hB
    obtain ⟨hP9, -, hD9⟩ := hB
    rw [ht] at hP9
    obtain ⟨hP8, hD8⟩ := va_join (wc := (cb_w a k S)) (wr := [(q, .inl (kq, (1, .inr (.inl (f)))))]) hP hD [0, 1, 2, 3, 4, 5, 6, 7, 8, 9, 10, 11, 12, 13, 14, 15, 16, 17, 18, 19] [20] rfl rfl (by decide) (by decide) hk1 hF hP9 hD9
    have hP : va_P (dC, dI) vwCl (cb_w a k S ++ [(q, .inl (kq, (1, .inr (.inl (f)))))]) H1 := hP8.sub [1, 2, 3, 4, 5, 6, 7, 8, 9, 10, 11, 12, 13, 14, 15, 16, 17, 18, 19, 20, 0] rfl
    have hD : va_D A (cb_w a k S ++ [(q, .inl (kq, (1, .inr (.inl (f)))))]) := hD8.sub [1, 2, 3, 4, 5, 6, 7, 8, 9, 10, 11, 12, 13, 14, 15, 16, 17, 18, 19, 20, 0] (by decide) rfl
    rcases px_2 hpx9 with ⟨hk9, rfl⟩ | ⟨hk9, rfl⟩
    · refine vx_catch (own := RL) (name := xE_A) (E := xE_A) hown [] (⟨0, 9, 12, 21⟩ : ExceptionTableEntry) [(⟨0, 9, 15, 13⟩ : ExceptionTableEntry)] htb (fun z hz => absurd hz List.not_mem_nil) (by decide) (by decide) f_0 (va_Nw.use rfl (hE.1.2.2.1 (.castable xE_A xE_A) (by decide +kernel))) hce hcv hcl ?_
      refine lv_astore_n (lv' := [(3, .ref q9), (0, .ref (a 0)), (1, .int x0), (2, .ref q)]) hx hb dL_addTent_12 rfl hl (by decide) rfl (fun ls hl => ?_)
      refine lv_iconst (v := nI 1) hx hb dL_addTent_13 (by decide) ?_
      have ew : (cb_w a k S ++ [(q, .inl (kq, (1, .inr (.inl (f)))))]) = (cb_w a k (kS (k_addTent S x0) (S_addTent S x0) S) ++ [(q, .inl (kq, (1, .inr (.inl (f)))))]) := by rw [hk9]; rfl
      have hP : va_P (dC, dI) vwCl (cb_w a k (kS (k_addTent S x0) (S_addTent S x0) S) ++ [(q, .inl (kq, (1, .inr (.inl (f)))))]) H1 := by rw [← ew]; exact hP
      have hD : va_D A (cb_w a k (kS (k_addTent S x0) (S_addTent S x0) S) ++ [(q, .inl (kq, (1, .inr (.inl (f)))))]) := by rw [← ew]; exact hD
      rw [hQ]
      exact W.iret (v := nI 1) hx hb hr (fun t9 ht9 hW9 => ⟨⟨nI 1, f, rfl, ⟨by rw [hk9], fun h9 => absurd (hk9.symm.trans h9) (by decide)⟩, cB_of hP hK hD ht9 hW9⟩, hS.F ht9⟩) hS.2.2 dL_addTent_14
    · refine vx_catch (own := RL) (name := xE_S) (E := xE_S) hown [(⟨0, 9, 12, 21⟩ : ExceptionTableEntry)] (⟨0, 9, 15, 13⟩ : ExceptionTableEntry) [] htb (fun z hz => by cases List.mem_singleton.mp hz; exact Or.inr ⟨by decide, xE_A, f_0, hE.2 (xE_S, xE_A) (by decide +kernel)⟩) (by decide) (by decide) f_1 (va_Nw.use rfl (hE.1.2.2.1 (.castable xE_S xE_S) (by decide +kernel))) hce hcv hcl ?_
      refine lv_astore_n (lv' := [(3, .ref q9), (0, .ref (a 0)), (1, .int x0), (2, .ref q)]) hx hb dL_addTent_15 rfl hl (by decide) rfl (fun ls hl => ?_)
      refine lv_iconst (v := nI 2) hx hb dL_addTent_16 (by decide) ?_
      have ew : (cb_w a k S ++ [(q, .inl (kq, (1, .inr (.inl (f)))))]) = (cb_w a k (kS (k_addTent S x0) (S_addTent S x0) S) ++ [(q, .inl (kq, (1, .inr (.inl (f)))))]) := by rw [hk9]; rfl
      have hP : va_P (dC, dI) vwCl (cb_w a k (kS (k_addTent S x0) (S_addTent S x0) S) ++ [(q, .inl (kq, (1, .inr (.inl (f)))))]) H1 := by rw [← ew]; exact hP
      have hD : va_D A (cb_w a k (kS (k_addTent S x0) (S_addTent S x0) S) ++ [(q, .inl (kq, (1, .inr (.inl (f)))))]) := by rw [← ew]; exact hD
      rw [hQ]
      exact W.iret (v := nI 2) hx hb hr (fun t9 ht9 hW9 => ⟨⟨nI 2, f, rfl, ⟨by rw [hk9], fun h9 => absurd (hk9.symm.trans h9) (by decide)⟩, cB_of hP hK hD ht9 hW9⟩, hS.F ht9⟩) hS.2.2 dL_addTent_17
  · skip
    obtain ⟨hP9, -, hD9⟩ := hB
    rw [ht] at hP9
    obtain ⟨hP8, hD8⟩ := va_join (wc := (cb_w a k S)) (wr := [(q, .inl (kq, (1, .inr (.inl (f)))))]) hP hD [0, 1, 2, 3, 4, 5, 6, 7, 8, 9, 10, 11, 12, 13, 14, 15, 16, 17, 18, 19] [20] rfl rfl (by decide) (by decide) hk1 hF hP9 hD9
    have hP : va_P (dC, dI) vwCl (cb_w a k (S_addTent S x0) ++ [(q, .inl (kq, (1, .inr (.inl (f)))))]) H1 := hP8.sub [1, 2, 3, 4, 5, 6, 7, 8, 9, 10, 11, 12, 13, 14, 15, 16, 17, 18, 19, 20, 0] rfl
    have hD : va_D A (cb_w a k (S_addTent S x0) ++ [(q, .inl (kq, (1, .inr (.inl (f)))))]) := hD8.sub [1, 2, 3, 4, 5, 6, 7, 8, 9, 10, 11, 12, 13, 14, 15, 16, 17, 18, 19, 20, 0] (by decide) rfl
    obtain ⟨hk9, hr9⟩ := hw
    subst hr9
    have hP : va_P (dC, dI) vwCl ((cb_W a k (S_addTent S x0) (c_sl (S_addTent S x0)) (c_pt (S_addTent S x0)) (c_at (S_addTent S x0))) ++ [(q, .inl (kq, (1, .inr (.inl (f)))))]) H1 := hP
    have hD : va_D A ((cb_W a k (S_addTent S x0) (c_sl (S_addTent S x0)) (c_pt (S_addTent S x0)) (c_at (S_addTent S x0))) ++ [(q, .inl (kq, (1, .inr (.inl (f)))))]) := hD
    refine lv_i2l hx hb dL_addTent_7 rfl ?_
    refine cb_last hx hb hK hP hD hS 20 14 (f := f) rfl rfl (j := 0) (by omega) (Nat.le_of_ble_eq_true rfl) dL_addTent_8 (fun H locs hP hD hS => ?_)
    have hP : va_P (dC, dI) vwCl ((cb_W a k (S_addTent S x0) (c_sl (S_addTent S x0)) (c_pt (S_addTent S x0)) (c_at (S_addTent S x0))) ++ [(q, .inl (kq, (1, .inr (.inl (vp_updL f 0 ((nI (c_nt S)).toInt64))))))]) H := hP
    have hD : va_D A ((cb_W a k (S_addTent S x0) (c_sl (S_addTent S x0)) (c_pt (S_addTent S x0)) (c_at (S_addTent S x0))) ++ [(q, .inl (kq, (1, .inr (.inl (vp_updL f 0 ((nI (c_nt S)).toInt64))))))]) := hD
    refine lv_goto (tgt := 18) hx hb dL_addTent_9 (by decide) ?_
    refine lv_iconst (v := nI 0) hx hb dL_addTent_18 (by decide) ?_
    have ew : ((cb_W a k (S_addTent S x0) (c_sl (S_addTent S x0)) (c_pt (S_addTent S x0)) (c_at (S_addTent S x0))) ++ [(q, .inl (kq, (1, .inr (.inl (vp_updL f 0 ((nI (c_nt S)).toInt64))))))]) = (cb_w a k (kS (k_addTent S x0) (S_addTent S x0) S) ++ [(q, .inl (kq, (1, .inr (.inl (vp_updL f 0 ((nI (c_nt S)).toInt64))))))]) := by rw [hk9]; rfl
    have hP : va_P (dC, dI) vwCl (cb_w a k (kS (k_addTent S x0) (S_addTent S x0) S) ++ [(q, .inl (kq, (1, .inr (.inl (vp_updL f 0 ((nI (c_nt S)).toInt64))))))]) H := by rw [← ew]; exact hP
    have hD : va_D A (cb_w a k (kS (k_addTent S x0) (S_addTent S x0) S) ++ [(q, .inl (kq, (1, .inr (.inl (vp_updL f 0 ((nI (c_nt S)).toInt64))))))]) := by rw [← ew]; exact hD
    rw [hQ]
    exact W.iret (v := nI 0) hx hb hr (fun t9 ht9 hW9 => ⟨⟨nI 0, (vp_updL f 0 ((nI (c_nt S)).toInt64)), rfl, ⟨by rw [hk9], fun _ => pk_uLs⟩, cB_of hP hK hD ht9 hW9⟩, hS.F ht9⟩) hS.2.2 dL_addTent_19
abbrev rm_L_sleep : Room := { frames := 9, cells := 8, slots := 48, locals := 155 }
set_option maxHeartbeats 4000000 in
set_option maxRecDepth 100000 in
theorem c_L_sleep (l : Launch) (hl9 : l.stackTraces = false) (dC : Nat → ClassId) (dI : Nat → Nat → Nat) (a : Nat → Nat) (k : Nat → ClassId) (S : cs_S) (q : Nat) (kq : ClassId) (f : Nat → Int64) (sz : Nat) (x0 : Int32) (x1 : Int32) (hI : Inv S) : Met l yL_sleep wsL_sleep rm_L_sleep (va_Pc [.ref (a 0), .int x0, .int x1, .ref q] (cV dC dI sz (cb_w a k S ++ [(q, .inl (kq, (1, .inr (.inl (f)))))]) (cb_ty k ++ [(kq, .long)]))) (va_Qi (fun (r : Int32) (f2 : Nat → Int64) => r = nI (k_sleep S x0 x1) ∧ (k_sleep S x0 x1 = 0 → f2 0 = (r_sleep S x0).toInt64)) (fun f2 t => cB dC dI (va_A (cb_w a k S ++ [(q, .inl (kq, (1, .inr (.inl (f)))))]) sz) (cb_w a k (kS (k_sleep S x0 x1) (S_sleep S x0 x1) S) ++ [(q, .inl (kq, (1, .inr (.inl (f2)))))]) (cb_ty k ++ [(kq, .long)]) t) (va_A (cb_w a k S ++ [(q, .inl (kq, (1, .inr (.inl (f)))))]) sz)) 8 48 (va_A (cb_w a k S ++ [(q, .inl (kq, (1, .inr (.inl (f)))))]) sz) := by
  refine va_MetW (cc := cL_sleep) (maxL := 5) (ret := (some .int)) (hh := [(0, 10, 13, 19), (0, 10, 17, 13)]) (by decide) rfl ?_
  intro p e s m args below meth c s₁ B hml hv
  obtain ⟨rfl, ⟨hsz, hP, hK, hD0⟩, hE⟩ := hv
  have hx := B.exec
  have hb := B.bytes
  have hr := B.returns
  have hts := atoms_spec (ws := wsL_sleep) B.pre
  have hown : s.vm.findClass RL = some m.cls := findClass_of_methodNamed B.named
  have htb : c.exceptionTable.toList = tableOf [(0, 10, 13, 19), (0, 10, 17, 13)] := vx_table (x := yL_sleep) B (hts (.codeWith yL_sleep cL_sleep 5 (some .int) [(0, 10, 13, 19), (0, 10, 17, 13)]) List.mem_cons_self)
  subst hsz
  have hD := hD0.self (sz := s.heap.size)
  generalize hAe : va_A (cb_w a k S ++ [(q, .inl (kq, (1, .inr (.inl (f)))))]) s.heap.size = A at hD hE ⊢
  have hA : ∀ q : Nat, s.heap.size ≤ q → A q := fun q h => by rw [← hAe]; exact Or.inr h
  have hS : va_S A s.heap s.heap [] := va_S.rf
  obtain ⟨Q, hQ⟩ : ∃ Q, Q = MQ below (va_Qi (fun (r : Int32) (f2 : Nat → Int64) => r = nI (k_sleep S x0 x1) ∧ (k_sleep S x0 x1 = 0 → f2 0 = (r_sleep S x0).toInt64)) (fun f2 t => cB dC dI A (cb_w a k (kS (k_sleep S x0 x1) (S_sleep S x0 x1) S) ++ [(q, .inl (kq, (1, .inr (.inl (f2)))))]) (cb_ty k ++ [(kq, .long)]) t) A) ([.ref (a 0), .int x0, .int x1, .ref q] : List Value).toArray s 8 48 A := ⟨_, rfl⟩
  show W p l e rm_L_sleep s m _ below meth c s.heap [] 0 0 (MQ below _ _ _ _ _ _) _
  rw [← hQ]
  have f_0 := hts (.classLink RL 19 xE_I) (by decide +kernel)
  have f_1 := hts (.classLink RL 13 xE_S) (by decide +kernel)
  have hl := lv_entry ([.ref (a 0), .int x0, .int x1, .ref q]) (n := 5) (Nat.le_of_ble_eq_true rfl)
  rw [lg_entry_eq]
  generalize (lg_sl ([.ref (a 0), .int x0, .int x1, .ref q]) ++ List.replicate (5 - (lg_sl ([.ref (a 0), .int x0, .int x1, .ref q])).length) Slot.unset).toArray = ls at hl ⊢
  have hl : lv_has ls 5 [(0, .ref (a 0)), (1, .int x0), (2, .int x1), (3, .ref q)] := hl
  refine lv_aload_n hx hb dL_sleep_0 rfl (lv_at hl 3 rfl) ?_
  refine lv_iconst (v := nI 0) hx hb dL_sleep_1 (by decide) ?_
  refine lv_aload_n hx hb dL_sleep_2 rfl (lv_at hl 0 rfl) ?_
  refine lv_iload_n hx hb dL_sleep_3 rfl (lv_at hl 1 rfl) ?_
  refine lv_iload_n hx hb dL_sleep_4 rfl (lv_at hl 2 rfl) ?_
  have hPc := hP.sub (ws' := (cb_w a k S)) [0, 1, 2, 3, 4, 5, 6, 7, 8, 9, 10, 11, 12, 13, 14, 15, 16, 17, 18, 19] rfl
  have hDc := hD.sub (ws' := (cb_w a k S)) [0, 1, 2, 3, 4, 5, 6, 7, 8, 9, 10, 11, 12, 13, 14, 15, 16, 17, 18, 19] (by decide) rfl
  have hKc := hK.sub (tys' := (cb_ty k)) [0, 1, 2, 3, 4, 5, 6, 7, 8, 9, 10, 11, 12, 13] rfl
  have hF : ∀ q9, va_A (cb_w a k S) s.heap.size q9 → A q9 := va_free hD hS hA [0, 1, 2, 3, 4, 5, 6, 7, 8, 9, 10, 11, 12, 13, 14, 15, 16, 17, 18, 19] rfl
  refine vx_calli (vx_runV (As := [.int x0, .int x1]) (rest := [.int (nI 0), .ref q]) ⟨hx, hb, hml, hown, hts⟩ (c_X5_sleep l hl9 dC dI a k S s.heap.size x0 x1 hI) (cwV 2 hts gL_sleep_X5_sleep rfl rfl rfl (by decide +kernel) ⟨(Nat.le_of_ble_eq_true rfl), (Nat.le_of_ble_eq_true rfl)⟩) ⟨cU_blind, va_recv hKc hPc (ci := 5) (q0 := 0) rfl rfl, fun U hU hW => ⟨rfl, cU_of hKc hPc hDc hE.1 hS hU hW hF⟩⟩ rfl rfl hl.1 rfl (lv_room (Nat.le_of_ble_eq_true rfl)) dL_sleep_5 ⟨(Nat.le_of_ble_eq_true rfl), (Nat.le_of_ble_eq_true rfl)⟩) hS (fun q9 _ h => hF q9 h) hF (fun q9 _ h => hF q9 h) (fun E ce q9 u8 t8 H1 L1 ht hvm _ hB hz1 hk1 hS hce hcv hcl => ?_) (fun r9 u8 t8 H1 L1 ht hvm hw hB hz1 hk1 hS => ?_)
  · obtain ⟨hpx9, hB⟩ := hB
    obtain ⟨hP9, -, hD9⟩ := hB
    rw [ht] at hP9
    obtain ⟨hP8, hD8⟩ := va_join (wc := (cb_w a k S)) (wr := [(q, .inl (kq, (1, .inr (.inl (f)))))]) hP hD [0, 1, 2, 3, 4, 5, 6, 7, 8, 9, 10, 11, 12, 13, 14, 15, 16, 17, 18, 19] [20] rfl rfl (by decide) (by decide) hk1 hF hP9 hD9
    have hP : va_P (dC, dI) vwCl (cb_w a k S ++ [(q, .inl (kq, (1, .inr (.inl (f)))))]) H1 := hP8.sub [1, 2, 3, 4, 5, 6, 7, 8, 9, 10, 11, 12, 13, 14, 15, 16, 17, 18, 19, 20, 0] rfl
    have hD : va_D A (cb_w a k S ++ [(q, .inl (kq, (1, .inr (.inl (f)))))]) := hD8.sub [1, 2, 3, 4, 5, 6, 7, 8, 9, 10, 11, 12, 13, 14, 15, 16, 17, 18, 19, 20, 0] (by decide) rfl
    rcases px_2 hpx9 with ⟨hk9, rfl⟩ | ⟨hk9, rfl⟩
    · refine vx_catch (own := RL) (name := xE_I) (E := xE_I) hown [] (⟨0, 10, 13, 19⟩ : ExceptionTableEntry) [(⟨0, 10, 17, 13⟩ : ExceptionTableEntry)] htb (fun z hz => absurd hz List.not_mem_nil) (by decide) (by decide) f_0 (va_Nw.use rfl (hE.1.2.2.1 (.castable xE_I xE_I) (by decide +kernel))) hce hcv hcl ?_
      refine lv_astore (lv' := [(4, .ref q9), (0, .ref (a 0)), (1, .int x0), (2, .int x1), (3, .ref q)]) hx hb dL_sleep_13 hl (by decide) rfl (fun ls hl => ?_)
      refine lv_iconst (v := nI 1) hx hb dL_sleep_15 (by decide) ?_
      have ew : (cb_w a k S ++ [(q, .inl (kq, (1, .inr (.inl (f)))))]) = (cb_w a k (kS (k_sleep S x0 x1) (S_sleep S x0 x1) S) ++ [(q, .inl (kq, (1, .inr (.inl (f)))))]) := by rw [hk9]; rfl
      have hP : va_P (dC, dI) vwCl (cb_w a k (kS (k_sleep S x0 x1) (S_sleep S x0 x1) S) ++ [(q, .inl (kq, (1, .inr (.inl (f)))))]) H1 := by rw [← ew]; exact hP
      have hD : va_D A (cb_w a k (kS (k_sleep S x0 x1) (S_sleep S x0 x1) S) ++ [(q, .inl (kq, (1, .inr (.inl (f)))))]) := by rw [← ew]; exact hD
      rw [hQ]
      exact W.iret (v := nI 1) hx hb hr (fun t9 ht9 hW9 => ⟨⟨nI 1, f, rfl, ⟨by rw [hk9], fun h9 => absurd (hk9.symm.trans h9) (by decide)⟩, cB_of hP hK hD ht9 hW9⟩, hS.F ht9⟩) hS.2.2 dL_sleep_16
    · refine vx_catch (own := RL) (name := xE_S) (E := xE_S) hown [(⟨0, 10, 13, 19⟩ : ExceptionTableEntry)] (⟨0, 10, 17, 13⟩ : ExceptionTableEntry) [] htb (fun z hz => by cases List.mem_singleton.mp hz; exact Or.inr ⟨by decide, xE_I, f_0, hE.2 (xE_S, xE_I) (by decide +kernel)⟩) (by decide) (by decide) f_1 (va_Nw.use rfl (hE.1.2.2.1 (.castable xE_S xE_S) (by decide +kernel))) hce hcv hcl ?_
      refine lv_astore (lv' := [(4, .ref q9), (0, .ref (a 0)), (1, .int x0), (2, .int x1), (3, .ref q)]) hx hb dL_sleep_17 hl (by decide) rfl (fun ls hl => ?_)
      refine lv_iconst (v := nI 2) hx hb dL_sleep_19 (by decide) ?_
      have ew : (cb_w a k S ++ [(q, .inl (kq, (1, .inr (.inl (f)))))]) = (cb_w a k (kS (k_sleep S x0 x1) (S_sleep S x0 x1) S) ++ [(q, .inl (kq, (1, .inr (.inl (f)))))]) := by rw [hk9]; rfl
      have hP : va_P (dC, dI) vwCl (cb_w a k (kS (k_sleep S x0 x1) (S_sleep S x0 x1) S) ++ [(q, .inl (kq, (1, .inr (.inl (f)))))]) H1 := by rw [← ew]; exact hP
      have hD : va_D A (cb_w a k (kS (k_sleep S x0 x1) (S_sleep S x0 x1) S) ++ [(q, .inl (kq, (1, .inr (.inl (f)))))]) := by rw [← ew]; exact hD
      rw [hQ]
      exact W.iret (v := nI 2) hx hb hr (fun t9 ht9 hW9 => ⟨⟨nI 2, f, rfl, ⟨by rw [hk9], fun h9 => absurd (hk9.symm.trans h9) (by decide)⟩, cB_of hP hK hD ht9 hW9⟩, hS.F ht9⟩) hS.2.2 dL_sleep_20
  · skip
    obtain ⟨hP9, -, hD9⟩ := hB
    rw [ht] at hP9
    obtain ⟨hP8, hD8⟩ := va_join (wc := (cb_w a k S)) (wr := [(q, .inl (kq, (1, .inr (.inl (f)))))]) hP hD [0, 1, 2, 3, 4, 5, 6, 7, 8, 9, 10, 11, 12, 13, 14, 15, 16, 17, 18, 19] [20] rfl rfl (by decide) (by decide) hk1 hF hP9 hD9
    have hP : va_P (dC, dI) vwCl (cb_w a k (S_sleep S x0 x1) ++ [(q, .inl (kq, (1, .inr (.inl (f)))))]) H1 := hP8.sub [1, 2, 3, 4, 5, 6, 7, 8, 9, 10, 11, 12, 13, 14, 15, 16, 17, 18, 19, 20, 0] rfl
    have hD : va_D A (cb_w a k (S_sleep S x0 x1) ++ [(q, .inl (kq, (1, .inr (.inl (f)))))]) := hD8.sub [1, 2, 3, 4, 5, 6, 7, 8, 9, 10, 11, 12, 13, 14, 15, 16, 17, 18, 19, 20, 0] (by decide) rfl
    obtain ⟨hk9, hr9⟩ := hw
    subst hr9
    have hP : va_P (dC, dI) vwCl ((cb_W a k (S_sleep S x0 x1) (c_sl (S_sleep S x0 x1)) (c_pt (S_sleep S x0 x1)) (c_at (S_sleep S x0 x1))) ++ [(q, .inl (kq, (1, .inr (.inl (f)))))]) H1 := hP
    have hD : va_D A ((cb_W a k (S_sleep S x0 x1) (c_sl (S_sleep S x0 x1)) (c_pt (S_sleep S x0 x1)) (c_at (S_sleep S x0 x1))) ++ [(q, .inl (kq, (1, .inr (.inl (f)))))]) := hD
    refine lv_i2l hx hb dL_sleep_8 rfl ?_
    refine cb_last hx hb hK hP hD hS 20 14 (f := f) rfl rfl (j := 0) (by omega) (Nat.le_of_ble_eq_true rfl) dL_sleep_9 (fun H locs hP hD hS => ?_)
    have hP : va_P (dC, dI) vwCl ((cb_W a k (S_sleep S x0 x1) (c_sl (S_sleep S x0 x1)) (c_pt (S_sleep S x0 x1)) (c_at (S_sleep S x0 x1))) ++ [(q, .inl (kq, (1, .inr (.inl (vp_updL f 0 ((r_sleep S x0).toInt64))))))]) H := hP
    have hD : va_D A ((cb_W a k (S_sleep S x0 x1) (c_sl (S_sleep S x0 x1)) (c_pt (S_sleep S x0 x1)) (c_at (S_sleep S x0 x1))) ++ [(q, .inl (kq, (1, .inr (.inl (vp_updL f 0 ((r_sleep S x0).toInt64))))))]) := hD
    refine lv_goto (tgt := 21) hx hb dL_sleep_10 (by decide) ?_
    refine lv_iconst (v := nI 0) hx hb dL_sleep_21 (by decide) ?_
    have ew : ((cb_W a k (S_sleep S x0 x1) (c_sl (S_sleep S x0 x1)) (c_pt (S_sleep S x0 x1)) (c_at (S_sleep S x0 x1))) ++ [(q, .inl (kq, (1, .inr (.inl (vp_updL f 0 ((r_sleep S x0).toInt64))))))]) = (cb_w a k (kS (k_sleep S x0 x1) (S_sleep S x0 x1) S) ++ [(q, .inl (kq, (1, .inr (.inl (vp_updL f 0 ((r_sleep S x0).toInt64))))))]) := by rw [hk9]; rfl
    have hP : va_P (dC, dI) vwCl (cb_w a k (kS (k_sleep S x0 x1) (S_sleep S x0 x1) S) ++ [(q, .inl (kq, (1, .inr (.inl (vp_updL f 0 ((r_sleep S x0).toInt64))))))]) H := by rw [← ew]; exact hP
    have hD : va_D A (cb_w a k (kS (k_sleep S x0 x1) (S_sleep S x0 x1) S) ++ [(q, .inl (kq, (1, .inr (.inl (vp_updL f 0 ((r_sleep S x0).toInt64))))))]) := by rw [← ew]; exact hD
    rw [hQ]
    exact W.iret (v := nI 0) hx hb hr (fun t9 ht9 hW9 => ⟨⟨nI 0, (vp_updL f 0 ((r_sleep S x0).toInt64)), rfl, ⟨by rw [hk9], fun _ => pk_uLs⟩, cB_of hP hK hD ht9 hW9⟩, hS.F ht9⟩) hS.2.2 dL_sleep_22
abbrev rm_L_inTent : Room := { frames := 8, cells := 8, slots := 48, locals := 132 }
set_option maxHeartbeats 4000000 in
set_option maxRecDepth 100000 in
theorem c_L_inTent (l : Launch) (hl9 : l.stackTraces = false) (dC : Nat → ClassId) (dI : Nat → Nat → Nat) (a : Nat → Nat) (k : Nat → ClassId) (S : cs_S) (q : Nat) (kq : ClassId) (f : Nat → Int64) (sz : Nat) (x0 : Int32) (hI : Inv S) : Met l yL_inTent wsL_inTent rm_L_inTent (va_Pc [.ref (a 0), .int x0, .ref q] (cV dC dI sz (cb_w a k S ++ [(q, .inl (kq, (1, .inr (.inl (f)))))]) (cb_ty k ++ [(kq, .long)]))) (va_Qi (fun (r : Int32) (f2 : Nat → Int64) => r = nI (k_inTent S x0) ∧ (k_inTent S x0 = 0 → f2 0 = r_inTent S x0)) (fun f2 t => cB dC dI (va_A (cb_w a k S ++ [(q, .inl (kq, (1, .inr (.inl (f)))))]) sz) (cb_w a k S ++ [(q, .inl (kq, (1, .inr (.inl (f2)))))]) (cb_ty k ++ [(kq, .long)]) t) (va_A (cb_w a k S ++ [(q, .inl (kq, (1, .inr (.inl (f)))))]) sz)) 8 48 (va_A (cb_w a k S ++ [(q, .inl (kq, (1, .inr (.inl (f)))))]) sz) := by
  refine va_MetW (cc := cL_inTent) (maxL := 4) (ret := (some .int)) (hh := [(0, 8, 11, 19)]) (by decide) rfl ?_
  intro p e s m args below meth c s₁ B hml hv
  obtain ⟨rfl, ⟨hsz, hP, hK, hD0⟩, hE⟩ := hv
  have hx := B.exec
  have hb := B.bytes
  have hr := B.returns
  have hts := atoms_spec (ws := wsL_inTent) B.pre
  have hown : s.vm.findClass RL = some m.cls := findClass_of_methodNamed B.named
  have htb : c.exceptionTable.toList = tableOf [(0, 8, 11, 19)] := vx_table (x := yL_inTent) B (hts (.codeWith yL_inTent cL_inTent 4 (some .int) [(0, 8, 11, 19)]) List.mem_cons_self)
  subst hsz
  have hD := hD0.self (sz := s.heap.size)
  generalize hAe : va_A (cb_w a k S ++ [(q, .inl (kq, (1, .inr (.inl (f)))))]) s.heap.size = A at hD hE ⊢
  have hA : ∀ q : Nat, s.heap.size ≤ q → A q := fun q h => by rw [← hAe]; exact Or.inr h
  have hS : va_S A s.heap s.heap [] := va_S.rf
  obtain ⟨Q, hQ⟩ : ∃ Q, Q = MQ below (va_Qi (fun (r : Int32) (f2 : Nat → Int64) => r = nI (k_inTent S x0) ∧ (k_inTent S x0 = 0 → f2 0 = r_inTent S x0)) (fun f2 t => cB dC dI A (cb_w a k S ++ [(q, .inl (kq, (1, .inr (.inl (f2)))))]) (cb_ty k ++ [(kq, .long)]) t) A) ([.ref (a 0), .int x0, .ref q] : List Value).toArray s 8 48 A := ⟨_, rfl⟩
  show W p l e rm_L_inTent s m _ below meth c s.heap [] 0 0 (MQ below _ _ _ _ _ _) _
  rw [← hQ]
  have f_0 := hts (.classLink RL 19 xE_I) (by decide +kernel)
  have hl := lv_entry ([.ref (a 0), .int x0, .ref q]) (n := 4) (Nat.le_of_ble_eq_true rfl)
  rw [lg_entry_eq]
  generalize (lg_sl ([.ref (a 0), .int x0, .ref q]) ++ List.replicate (4 - (lg_sl ([.ref (a 0), .int x0, .ref q])).length) Slot.unset).toArray = ls at hl ⊢
  have hl : lv_has ls 4 [(0, .ref (a 0)), (1, .int x0), (2, .ref q)] := hl
  refine lv_aload_n hx hb dL_inTent_0 rfl (lv_at hl 2 rfl) ?_
  refine lv_iconst (v := nI 0) hx hb dL_inTent_1 (by decide) ?_
  refine lv_aload_n hx hb dL_inTent_2 rfl (lv_at hl 0 rfl) ?_
  refine lv_iload_n hx hb dL_inTent_3 rfl (lv_at hl 1 rfl) ?_
  have hPc := hP.sub (ws' := (cb_w a k S)) [0, 1, 2, 3, 4, 5, 6, 7, 8, 9, 10, 11, 12, 13, 14, 15, 16, 17, 18, 19] rfl
  have hDc := hD.sub (ws' := (cb_w a k S)) [0, 1, 2, 3, 4, 5, 6, 7, 8, 9, 10, 11, 12, 13, 14, 15, 16, 17, 18, 19] (by decide) rfl
  have hKc := hK.sub (tys' := (cb_ty k)) [0, 1, 2, 3, 4, 5, 6, 7, 8, 9, 10, 11, 12, 13] rfl
  have hF : ∀ q9, va_A (cb_w a k S) s.heap.size q9 → A q9 := va_free hD hS hA [0, 1, 2, 3, 4, 5, 6, 7, 8, 9, 10, 11, 12, 13, 14, 15, 16, 17, 18, 19] rfl
  refine vx_calll (vx_runV (As := [.int x0]) (rest := [.int (nI 0), .ref q]) ⟨hx, hb, hml, hown, hts⟩ (c_X5_inTent l hl9 dC dI a k S s.heap.size x0 hI) (cwV 1 hts gL_inTent_X5_inTent rfl rfl rfl (by decide +kernel) ⟨(Nat.le_of_ble_eq_true rfl), (Nat.le_of_ble_eq_true rfl)⟩) ⟨cU_blind, va_recv hKc hPc (ci := 5) (q0 := 0) rfl rfl, fun U hU hW => ⟨rfl, cU_of hKc hPc hDc hE.1 hS hU hW hF⟩⟩ rfl rfl hl.1 rfl (lv_room (Nat.le_of_ble_eq_true rfl)) dL_inTent_4 ⟨(Nat.le_of_ble_eq_true rfl), (Nat.le_of_ble_eq_true rfl)⟩) hS (fun q9 _ h => hF q9 h) hF (fun q9 _ h => hF q9 h) (fun E ce q9 u8 t8 H1 L1 ht hvm _ hB hz1 hk1 hS hce hcv hcl => ?_) (fun r9 u8 t8 H1 L1 ht hvm hw hB hz1 hk1 hS => ?_)
  · obtain ⟨hpx9, hB⟩ := hB
    obtain ⟨hP9, -, hD9⟩ := hB
    rw [ht] at hP9
    obtain ⟨hP8, hD8⟩ := va_join (wc := (cb_w a k S)) (wr := [(q, .inl (kq, (1, .inr (.inl (f)))))]) hP hD [0, 1, 2, 3, 4, 5, 6, 7, 8, 9, 10, 11, 12, 13, 14, 15, 16, 17, 18, 19] [20] rfl rfl (by decide) (by decide) hk1 hF hP9 hD9
    have hP : va_P (dC, dI) vwCl (cb_w a k S ++ [(q, .inl (kq, (1, .inr (.inl (f)))))]) H1 := hP8.sub [1, 2, 3, 4, 5, 6, 7, 8, 9, 10, 11, 12, 13, 14, 15, 16, 17, 18, 19, 20, 0] rfl
    have hD : va_D A (cb_w a k S ++ [(q, .inl (kq, (1, .inr (.inl (f)))))]) := hD8.sub [1, 2, 3, 4, 5, 6, 7, 8, 9, 10, 11, 12, 13, 14, 15, 16, 17, 18, 19, 20, 0] (by decide) rfl
    obtain ⟨hk9, rfl⟩ := px_1 hpx9
    refine vx_catch (own := RL) (name := xE_I) (E := xE_I) hown [] (⟨0, 8, 11, 19⟩ : ExceptionTableEntry) [] htb (fun z hz => absurd hz List.not_mem_nil) (by decide) (by decide) f_0 (va_Nw.use rfl (hE.1.2.2.1 (.castable xE_I xE_I) (by decide +kernel))) hce hcv hcl ?_
    refine lv_astore_n (lv' := [(3, .ref q9), (0, .ref (a 0)), (1, .int x0), (2, .ref q)]) hx hb dL_inTent_11 rfl hl (by decide) rfl (fun ls hl => ?_)
    refine lv_iconst (v := nI 1) hx hb dL_inTent_12 (by decide) ?_
    skip
    rw [hQ]
    exact W.iret (v := nI 1) hx hb hr (fun t9 ht9 hW9 => ⟨⟨nI 1, f, rfl, ⟨by rw [hk9], fun h9 => absurd (hk9.symm.trans h9) (by decide)⟩, cB_of hP hK hD ht9 hW9⟩, hS.F ht9⟩) hS.2.2 dL_inTent_13
  · skip
    obtain ⟨hP9, -, hD9⟩ := hB
    rw [ht] at hP9
    obtain ⟨hP8, hD8⟩ := va_join (wc := (cb_w a k S)) (wr := [(q, .inl (kq, (1, .inr (.inl (f)))))]) hP hD [0, 1, 2, 3, 4, 5, 6, 7, 8, 9, 10, 11, 12, 13, 14, 15, 16, 17, 18, 19] [20] rfl rfl (by decide) (by decide) hk1 hF hP9 hD9
    have hP : va_P (dC, dI) vwCl (cb_w a k S ++ [(q, .inl (kq, (1, .inr (.inl (f)))))]) H1 := hP8.sub [1, 2, 3, 4, 5, 6, 7, 8, 9, 10, 11, 12, 13, 14, 15, 16, 17, 18, 19, 20, 0] rfl
    have hD : va_D A (cb_w a k S ++ [(q, .inl (kq, (1, .inr (.inl (f)))))]) := hD8.sub [1, 2, 3, 4, 5, 6, 7, 8, 9, 10, 11, 12, 13, 14, 15, 16, 17, 18, 19, 20, 0] (by decide) rfl
    obtain ⟨hk9, hr9⟩ := hw
    subst hr9
    have hP : va_P (dC, dI) vwCl ((cb_W a k S (c_sl S) (c_pt S) (c_at S)) ++ [(q, .inl (kq, (1, .inr (.inl (f)))))]) H1 := hP
    have hD : va_D A ((cb_W a k S (c_sl S) (c_pt S) (c_at S)) ++ [(q, .inl (kq, (1, .inr (.inl (f)))))]) := hD
    refine cb_last hx hb hK hP hD hS 20 14 (f := f) rfl rfl (j := 0) (by omega) (Nat.le_of_ble_eq_true rfl) dL_inTent_7 (fun H locs hP hD hS => ?_)
    have hP : va_P (dC, dI) vwCl ((cb_W a k S (c_sl S) (c_pt S) (c_at S)) ++ [(q, .inl (kq, (1, .inr (.inl (vp_updL f 0 (r_inTent S x0))))))]) H := hP
    have hD : va_D A ((cb_W a k S (c_sl S) (c_pt S) (c_at S)) ++ [(q, .inl (kq, (1, .inr (.inl (vp_updL f 0 (r_inTent S x0))))))]) := hD
    refine lv_goto (tgt := 14) hx hb dL_inTent_8 (by decide) ?_
    refine lv_iconst (v := nI 0) hx hb dL_inTent_14 (by decide) ?_
    have ew : ((cb_W a k S (c_sl S) (c_pt S) (c_at S)) ++ [(q, .inl (kq, (1, .inr (.inl (vp_updL f 0 (r_inTent S x0))))))]) = (cb_w a k S ++ [(q, .inl (kq, (1, .inr (.inl (vp_updL f 0 (r_inTent S x0))))))]) := rfl
    have hP : va_P (dC, dI) vwCl (cb_w a k S ++ [(q, .inl (kq, (1, .inr (.inl (vp_updL f 0 (r_inTent S x0))))))]) H := by rw [← ew]; exact hP
    have hD : va_D A (cb_w a k S ++ [(q, .inl (kq, (1, .inr (.inl (vp_updL f 0 (r_inTent S x0))))))]) := by rw [← ew]; exact hD
    rw [hQ]
    exact W.iret (v := nI 0) hx hb hr (fun t9 ht9 hW9 => ⟨⟨nI 0, (vp_updL f 0 (r_inTent S x0)), rfl, ⟨by rw [hk9], fun _ => pk_uLs⟩, cB_of hP hK hD ht9 hW9⟩, hS.F ht9⟩) hS.2.2 dL_inTent_15
abbrev rm_L_count : Room := { frames := 8, cells := 8, slots := 48, locals := 132 }
set_option maxHeartbeats 4000000 in
set_option maxRecDepth 100000 in
theorem c_L_count (l : Launch) (hl9 : l.stackTraces = false) (dC : Nat → ClassId) (dI : Nat → Nat → Nat) (a : Nat → Nat) (k : Nat → ClassId) (S : cs_S) (q : Nat) (kq : ClassId) (f : Nat → Int64) (sz : Nat) (x0 : Int32) (hI : Inv S) : Met l yL_count wsL_count rm_L_count (va_Pc [.ref (a 0), .int x0, .ref q] (cV dC dI sz (cb_w a k S ++ [(q, .inl (kq, (1, .inr (.inl (f)))))]) (cb_ty k ++ [(kq, .long)]))) (va_Qi (fun (r : Int32) (f2 : Nat → Int64) => r = nI (k_count x0) ∧ (k_count x0 = 0 → f2 0 = (r_count S x0).toInt64)) (fun f2 t => cB dC dI (va_A (cb_w a k S ++ [(q, .inl (kq, (1, .inr (.inl (f)))))]) sz) (cb_w a k S ++ [(q, .inl (kq, (1, .inr (.inl (f2)))))]) (cb_ty k ++ [(kq, .long)]) t) (va_A (cb_w a k S ++ [(q, .inl (kq, (1, .inr (.inl (f)))))]) sz)) 8 48 (va_A (cb_w a k S ++ [(q, .inl (kq, (1, .inr (.inl (f)))))]) sz) := by
  refine va_MetW (cc := cL_count) (maxL := 4) (ret := (some .int)) (hh := [(0, 9, 12, 19)]) (by decide) rfl ?_
  intro p e s m args below meth c s₁ B hml hv
  obtain ⟨rfl, ⟨hsz, hP, hK, hD0⟩, hE⟩ := hv
  have hx := B.exec
  have hb := B.bytes
  have hr := B.returns
  have hts := atoms_spec (ws := wsL_count) B.pre
  have hown : s.vm.findClass RL = some m.cls := findClass_of_methodNamed B.named
  have htb : c.exceptionTable.toList = tableOf [(0, 9, 12, 19)] := vx_table (x := yL_count) B (hts (.codeWith yL_count cL_count 4 (some .int) [(0, 9, 12, 19)]) List.mem_cons_self)
  subst hsz
  have hD := hD0.self (sz := s.heap.size)
  generalize hAe : va_A (cb_w a k S ++ [(q, .inl (kq, (1, .inr (.inl (f)))))]) s.heap.size = A at hD hE ⊢
  have hA : ∀ q : Nat, s.heap.size ≤ q → A q := fun q h => by rw [← hAe]; exact Or.inr h
  have hS : va_S A s.heap s.heap [] := va_S.rf
  obtain ⟨Q, hQ⟩ : ∃ Q, Q = MQ below (va_Qi (fun (r : Int32) (f2 : Nat → Int64) => r = nI (k_count x0) ∧ (k_count x0 = 0 → f2 0 = (r_count S x0).toInt64)) (fun f2 t => cB dC dI A (cb_w a k S ++ [(q, .inl (kq, (1, .inr (.inl (f2)))))]) (cb_ty k ++ [(kq, .long)]) t) A) ([.ref (a 0), .int x0, .ref q] : List Value).toArray s 8 48 A := ⟨_, rfl⟩
  show W p l e rm_L_count s m _ below meth c s.heap [] 0 0 (MQ below _ _ _ _ _ _) _
  rw [← hQ]
  have f_0 := hts (.classLink RL 19 xE_I) (by decide +kernel)
  have hl := lv_entry ([.ref (a 0), .int x0, .ref q]) (n := 4) (Nat.le_of_ble_eq_true rfl)
  rw [lg_entry_eq]
  generalize (lg_sl ([.ref (a 0), .int x0, .ref q]) ++ List.replicate (4 - (lg_sl ([.ref (a 0), .int x0, .ref q])).length) Slot.unset).toArray = ls at hl ⊢
  have hl : lv_has ls 4 [(0, .ref (a 0)), (1, .int x0), (2, .ref q)] := hl
  refine lv_aload_n hx hb dL_count_0 rfl (lv_at hl 2 rfl) ?_
  refine lv_iconst (v := nI 0) hx hb dL_count_1 (by decide) ?_
  refine lv_aload_n hx hb dL_count_2 rfl (lv_at hl 0 rfl) ?_
  refine lv_iload_n hx hb dL_count_3 rfl (lv_at hl 1 rfl) ?_
  have hPc := hP.sub (ws' := (cb_w a k S)) [0, 1, 2, 3, 4, 5, 6, 7, 8, 9, 10, 11, 12, 13, 14, 15, 16, 17, 18, 19] rfl
  have hDc := hD.sub (ws' := (cb_w a k S)) [0, 1, 2, 3, 4, 5, 6, 7, 8, 9, 10, 11, 12, 13, 14, 15, 16, 17, 18, 19] (by decide) rfl
  have hKc := hK.sub (tys' := (cb_ty k)) [0, 1, 2, 3, 4, 5, 6, 7, 8, 9, 10, 11, 12, 13] rfl
  have hF : ∀ q9, va_A (cb_w a k S) s.heap.size q9 → A q9 := va_free hD hS hA [0, 1, 2, 3, 4, 5, 6, 7, 8, 9, 10, 11, 12, 13, 14, 15, 16, 17, 18, 19] rfl
  refine vx_calli (vx_runV (As := [.int x0]) (rest := [.int (nI 0), .ref q]) ⟨hx, hb, hml, hown, hts⟩ (c_X5_count l hl9 dC dI a k S s.heap.size x0 hI) (cwV 1 hts gL_count_X5_count rfl rfl rfl (by decide +kernel) ⟨(Nat.le_of_ble_eq_true rfl), (Nat.le_of_ble_eq_true rfl)⟩) ⟨cU_blind, va_recv hKc hPc (ci := 5) (q0 := 0) rfl rfl, fun U hU hW => ⟨rfl, cU_of hKc hPc hDc hE.1 hS hU hW hF⟩⟩ rfl rfl hl.1 rfl (lv_room (Nat.le_of_ble_eq_true rfl)) dL_count_4 ⟨(Nat.le_of_ble_eq_true rfl), (Nat.le_of_ble_eq_true rfl)⟩) hS (fun q9 _ h => hF q9 h) hF (fun q9 _ h => hF q9 h) (fun E ce q9 u8 t8 H1 L1 ht hvm _ hB hz1 hk1 hS hce hcv hcl => ?_) (fun r9 u8 t8 H1 L1 ht hvm hw hB hz1 hk1 hS => ?_)
  · obtain ⟨hpx9, hB⟩ := hB
    obtain ⟨hP9, -, hD9⟩ := hB
    rw [ht] at hP9
    obtain ⟨hP8, hD8⟩ := va_join (wc := (cb_w a k S)) (wr := [(q, .inl (kq, (1, .inr (.inl (f)))))]) hP hD [0, 1, 2, 3, 4, 5, 6, 7, 8, 9, 10, 11, 12, 13, 14, 15, 16, 17, 18, 19] [20] rfl rfl (by decide) (by decide) hk1 hF hP9 hD9
    have hP : va_P (dC, dI) vwCl (cb_w a k S ++ [(q, .inl (kq, (1, .inr (.inl (f)))))]) H1 := hP8.sub [1, 2, 3, 4, 5, 6, 7, 8, 9, 10, 11, 12, 13, 14, 15, 16, 17, 18, 19, 20, 0] rfl
    have hD : va_D A (cb_w a k S ++ [(q, .inl (kq, (1, .inr (.inl (f)))))]) := hD8.sub [1, 2, 3, 4, 5, 6, 7, 8, 9, 10, 11, 12, 13, 14, 15, 16, 17, 18, 19, 20, 0] (by decide) rfl
    obtain ⟨hk9, rfl⟩ := px_1 hpx9
    refine vx_catch (own := RL) (name := xE_I) (E := xE_I) hown [] (⟨0, 9, 12, 19⟩ : ExceptionTableEntry) [] htb (fun z hz => absurd hz List.not_mem_nil) (by decide) (by decide) f_0 (va_Nw.use rfl (hE.1.2.2.1 (.castable xE_I xE_I) (by decide +kernel))) hce hcv hcl ?_
    refine lv_astore_n (lv' := [(3, .ref q9), (0, .ref (a 0)), (1, .int x0), (2, .ref q)]) hx hb dL_count_12 rfl hl (by decide) rfl (fun ls hl => ?_)
    refine lv_iconst (v := nI 1) hx hb dL_count_13 (by decide) ?_
    skip
    rw [hQ]
    exact W.iret (v := nI 1) hx hb hr (fun t9 ht9 hW9 => ⟨⟨nI 1, f, rfl, ⟨by rw [hk9], fun h9 => absurd (hk9.symm.trans h9) (by decide)⟩, cB_of hP hK hD ht9 hW9⟩, hS.F ht9⟩) hS.2.2 dL_count_14
  · skip
    obtain ⟨hP9, -, hD9⟩ := hB
    rw [ht] at hP9
    obtain ⟨hP8, hD8⟩ := va_join (wc := (cb_w a k S)) (wr := [(q, .inl (kq, (1, .inr (.inl (f)))))]) hP hD [0, 1, 2, 3, 4, 5, 6, 7, 8, 9, 10, 11, 12, 13, 14, 15, 16, 17, 18, 19] [20] rfl rfl (by decide) (by decide) hk1 hF hP9 hD9
    have hP : va_P (dC, dI) vwCl (cb_w a k S ++ [(q, .inl (kq, (1, .inr (.inl (f)))))]) H1 := hP8.sub [1, 2, 3, 4, 5, 6, 7, 8, 9, 10, 11, 12, 13, 14, 15, 16, 17, 18, 19, 20, 0] rfl
    have hD : va_D A (cb_w a k S ++ [(q, .inl (kq, (1, .inr (.inl (f)))))]) := hD8.sub [1, 2, 3, 4, 5, 6, 7, 8, 9, 10, 11, 12, 13, 14, 15, 16, 17, 18, 19, 20, 0] (by decide) rfl
    obtain ⟨hk9, hr9⟩ := hw
    subst hr9
    have hP : va_P (dC, dI) vwCl ((cb_W a k S (c_sl S) (c_pt S) (c_at S)) ++ [(q, .inl (kq, (1, .inr (.inl (f)))))]) H1 := hP
    have hD : va_D A ((cb_W a k S (c_sl S) (c_pt S) (c_at S)) ++ [(q, .inl (kq, (1, .inr (.inl (f)))))]) := hD
    refine lv_i2l hx hb dL_count_7 rfl ?_
    refine cb_last hx hb hK hP hD hS 20 14 (f := f) rfl rfl (j := 0) (by omega) (Nat.le_of_ble_eq_true rfl) dL_count_8 (fun H locs hP hD hS => ?_)
    have hP : va_P (dC, dI) vwCl ((cb_W a k S (c_sl S) (c_pt S) (c_at S)) ++ [(q, .inl (kq, (1, .inr (.inl (vp_updL f 0 ((r_count S x0).toInt64))))))]) H := hP
    have hD : va_D A ((cb_W a k S (c_sl S) (c_pt S) (c_at S)) ++ [(q, .inl (kq, (1, .inr (.inl (vp_updL f 0 ((r_count S x0).toInt64))))))]) := hD
    refine lv_goto (tgt := 15) hx hb dL_count_9 (by decide) ?_
    refine lv_iconst (v := nI 0) hx hb dL_count_15 (by decide) ?_
    have ew : ((cb_W a k S (c_sl S) (c_pt S) (c_at S)) ++ [(q, .inl (kq, (1, .inr (.inl (vp_updL f 0 ((r_count S x0).toInt64))))))]) = (cb_w a k S ++ [(q, .inl (kq, (1, .inr (.inl (vp_updL f 0 ((r_count S x0).toInt64))))))]) := rfl
    have hP : va_P (dC, dI) vwCl (cb_w a k S ++ [(q, .inl (kq, (1, .inr (.inl (vp_updL f 0 ((r_count S x0).toInt64))))))]) H := by rw [← ew]; exact hP
    have hD : va_D A (cb_w a k S ++ [(q, .inl (kq, (1, .inr (.inl (vp_updL f 0 ((r_count S x0).toInt64))))))]) := by rw [← ew]; exact hD
    rw [hQ]
    exact W.iret (v := nI 0) hx hb hr (fun t9 ht9 hW9 => ⟨⟨nI 0, (vp_updL f 0 ((r_count S x0).toInt64)), rfl, ⟨by rw [hk9], fun _ => pk_uLs⟩, cB_of hP hK hD ht9 hW9⟩, hS.F ht9⟩) hS.2.2 dL_count_16
abbrev rm_L_giveDuty : Room := { frames := 9, cells := 8, slots := 48, locals := 156 }
set_option maxHeartbeats 4000000 in
set_option maxRecDepth 100000 in
theorem c_L_giveDuty (l : Launch) (hl9 : l.stackTraces = false) (dC : Nat → ClassId) (dI : Nat → Nat → Nat) (a : Nat → Nat) (k : Nat → ClassId) (S : cs_S) (q : Nat) (kq : ClassId) (f : Nat → Int64) (sz : Nat) (x0 : Int32) (x1 : Int32) (x2 : Int32) (hI : Inv S) : Met l yL_giveDuty wsL_giveDuty rm_L_giveDuty (va_Pc [.ref (a 0), .int x0, .int x1, .int x2, .ref q] (cV dC dI sz (cb_w a k S ++ [(q, .inl (kq, (1, .inr (.inl (f)))))]) (cb_ty k ++ [(kq, .long)]))) (va_Qi (fun (r : Int32) (f2 : Nat → Int64) => r = nI (k_giveDuty S x0 x1 x2) ∧ (k_giveDuty S x0 x1 x2 = 0 → f2 0 = (r_giveDuty S x0 x1).toInt64)) (fun f2 t => cB dC dI (va_A (cb_w a k S ++ [(q, .inl (kq, (1, .inr (.inl (f)))))]) sz) (cb_w a k (kS (k_giveDuty S x0 x1 x2) (S_giveDuty S x0 x1 x2) S) ++ [(q, .inl (kq, (1, .inr (.inl (f2)))))]) (cb_ty k ++ [(kq, .long)]) t) (va_A (cb_w a k S ++ [(q, .inl (kq, (1, .inr (.inl (f)))))]) sz)) 8 48 (va_A (cb_w a k S ++ [(q, .inl (kq, (1, .inr (.inl (f)))))]) sz) := by
  refine va_MetW (cc := cL_giveDuty) (maxL := 6) (ret := (some .int)) (hh := [(0, 12, 15, 19), (0, 12, 19, 21), (0, 12, 23, 13)]) (by decide) rfl ?_
  intro p e s m args below meth c s₁ B hml hv
  obtain ⟨rfl, ⟨hsz, hP, hK, hD0⟩, hE⟩ := hv
  have hx := B.exec
  have hb := B.bytes
  have hr := B.returns
  have hts := atoms_spec (ws := wsL_giveDuty) B.pre
  have hown : s.vm.findClass RL = some m.cls := findClass_of_methodNamed B.named
  have htb : c.exceptionTable.toList = tableOf [(0, 12, 15, 19), (0, 12, 19, 21), (0, 12, 23, 13)] := vx_table (x := yL_giveDuty) B (hts (.codeWith yL_giveDuty cL_giveDuty 6 (some .int) [(0, 12, 15, 19), (0, 12, 19, 21), (0, 12, 23, 13)]) List.mem_cons_self)
  subst hsz
  have hD := hD0.self (sz := s.heap.size)
  generalize hAe : va_A (cb_w a k S ++ [(q, .inl (kq, (1, .inr (.inl (f)))))]) s.heap.size = A at hD hE ⊢
  have hA : ∀ q : Nat, s.heap.size ≤ q → A q := fun q h => by rw [← hAe]; exact Or.inr h
  have hS : va_S A s.heap s.heap [] := va_S.rf
  obtain ⟨Q, hQ⟩ : ∃ Q, Q = MQ below (va_Qi (fun (r : Int32) (f2 : Nat → Int64) => r = nI (k_giveDuty S x0 x1 x2) ∧ (k_giveDuty S x0 x1 x2 = 0 → f2 0 = (r_giveDuty S x0 x1).toInt64)) (fun f2 t => cB dC dI A (cb_w a k (kS (k_giveDuty S x0 x1 x2) (S_giveDuty S x0 x1 x2) S) ++ [(q, .inl (kq, (1, .inr (.inl (f2)))))]) (cb_ty k ++ [(kq, .long)]) t) A) ([.ref (a 0), .int x0, .int x1, .int x2, .ref q] : List Value).toArray s 8 48 A := ⟨_, rfl⟩
  show W p l e rm_L_giveDuty s m _ below meth c s.heap [] 0 0 (MQ below _ _ _ _ _ _) _
  rw [← hQ]
  have f_0 := hts (.classLink RL 19 xE_I) (by decide +kernel)
  have f_1 := hts (.classLink RL 21 xE_A) (by decide +kernel)
  have f_2 := hts (.classLink RL 13 xE_S) (by decide +kernel)
  have hl := lv_entry ([.ref (a 0), .int x0, .int x1, .int x2, .ref q]) (n := 6) (Nat.le_of_ble_eq_true rfl)
  rw [lg_entry_eq]
  generalize (lg_sl ([.ref (a 0), .int x0, .int x1, .int x2, .ref q]) ++ List.replicate (6 - (lg_sl ([.ref (a 0), .int x0, .int x1, .int x2, .ref q])).length) Slot.unset).toArray = ls at hl ⊢
  have hl : lv_has ls 6 [(0, .ref (a 0)), (1, .int x0), (2, .int x1), (3, .int x2), (4, .ref q)] := hl
  refine lv_aload hx hb dL_giveDuty_0 (lv_at hl 4 rfl) ?_
  refine lv_iconst (v := nI 0) hx hb dL_giveDuty_2 (by decide) ?_
  refine lv_aload_n hx hb dL_giveDuty_3 rfl (lv_at hl 0 rfl) ?_
  refine lv_iload_n hx hb dL_giveDuty_4 rfl (lv_at hl 1 rfl) ?_
  refine lv_iload_n hx hb dL_giveDuty_5 rfl (lv_at hl 2 rfl) ?_
  refine lv_iload_n hx hb dL_giveDuty_6 rfl (lv_at hl 3 rfl) ?_
  have hPc := hP.sub (ws' := (cb_w a k S)) [0, 1, 2, 3, 4, 5, 6, 7, 8, 9, 10, 11, 12, 13, 14, 15, 16, 17, 18, 19] rfl
  have hDc := hD.sub (ws' := (cb_w a k S)) [0, 1, 2, 3, 4, 5, 6, 7, 8, 9, 10, 11, 12, 13, 14, 15, 16, 17, 18, 19] (by decide) rfl
  have hKc := hK.sub (tys' := (cb_ty k)) [0, 1, 2, 3, 4, 5, 6, 7, 8, 9, 10, 11, 12, 13] rfl
  have hF : ∀ q9, va_A (cb_w a k S) s.heap.size q9 → A q9 := va_free hD hS hA [0, 1, 2, 3, 4, 5, 6, 7, 8, 9, 10, 11, 12, 13, 14, 15, 16, 17, 18, 19] rfl
  refine vx_calli (vx_runV (As := [.int x0, .int x1, .int x2]) (rest := [.int (nI 0), .ref q]) ⟨hx, hb, hml, hown, hts⟩ (c_X5_giveDuty l hl9 dC dI a k S s.heap.size x0 x1 x2 hI) (cwV 3 hts gL_giveDuty_X5_giveDuty rfl rfl rfl (by decide +kernel) ⟨(Nat.le_of_ble_eq_true rfl), (Nat.le_of_ble_eq_true rfl)⟩) ⟨cU_blind, va_recv hKc hPc (ci := 5) (q0 := 0) rfl rfl, fun U hU hW => ⟨rfl, cU_of hKc hPc hDc hE.1 hS hU hW hF⟩⟩ rfl rfl hl.1 rfl (lv_room (Nat.le_of_ble_eq_true rfl)) dL_giveDuty_7 ⟨(Nat.le_of_ble_eq_true rfl), (Nat.le_of_ble_eq_true rfl)⟩) hS (fun q9 _ h => hF q9 h) hF (fun q9 _ h => hF q9 h) (fun E ce q9 u8 t8 H1 L1 ht hvm _ hB hz1 hk1 hS hce hcv hcl => ?_) (fun r9 u8 t8 H1 L1 ht hvm hw hB hz1 hk1 hS => ?_)
  · obtain ⟨hpx9, hB⟩ := hB
    obtain ⟨hP9, -, hD9⟩ := hB
    rw [ht] at hP9
    obtain ⟨hP8, hD8⟩ := va_join (wc := (cb_w a k S)) (wr := [(q, .inl (kq, (1, .inr (.inl (f)))))]) hP hD [0, 1, 2, 3, 4, 5, 6, 7, 8, 9, 10, 11, 12, 13, 14, 15, 16, 17, 18, 19] [20] rfl rfl (by decide) (by decide) hk1 hF hP9 hD9
    have hP : va_P (dC, dI) vwCl (cb_w a k S ++ [(q, .inl (kq, (1, .inr (.inl (f)))))]) H1 := hP8.sub [1, 2, 3, 4, 5, 6, 7, 8, 9, 10, 11, 12, 13, 14, 15, 16, 17, 18, 19, 20, 0] rfl
    have hD : va_D A (cb_w a k S ++ [(q, .inl (kq, (1, .inr (.inl (f)))))]) := hD8.sub [1, 2, 3, 4, 5, 6, 7, 8, 9, 10, 11, 12, 13, 14, 15, 16, 17, 18, 19, 20, 0] (by decide) rfl
    rcases px_3 hpx9 with ⟨hk9, rfl⟩ | ⟨hk9, rfl⟩ | ⟨hk9, rfl⟩
    · refine vx_catch (own := RL) (name := xE_I) (E := xE_I) hown [] (⟨0, 12, 15, 19⟩ : ExceptionTableEntry) [(⟨0, 12, 19, 21⟩ : ExceptionTableEntry), (⟨0, 12, 23, 13⟩ : ExceptionTableEntry)] htb (fun z hz => absurd hz List.not_mem_nil) (by decide) (by decide) f_0 (va_Nw.use rfl (hE.1.2.2.1 (.castable xE_I xE_I) (by decide +kernel))) hce hcv hcl ?_
      refine lv_astore (lv' := [(5, .ref q9), (0, .ref (a 0)), (1, .int x0), (2, .int x1), (3, .int x2), (4, .ref q)]) hx hb dL_giveDuty_15 hl (by decide) rfl (fun ls hl => ?_)
      refine lv_iconst (v := nI 1) hx hb dL_giveDuty_17 (by decide) ?_
      have ew : (cb_w a k S ++ [(q, .inl (kq, (1, .inr (.inl (f)))))]) = (cb_w a k (kS (k_giveDuty S x0 x1 x2) (S_giveDuty S x0 x1 x2) S) ++ [(q, .inl (kq, (1, .inr (.inl (f)))))]) := by rw [hk9]; rfl
      have hP : va_P (dC, dI) vwCl (cb_w a k (kS (k_giveDuty S x0 x1 x2) (S_giveDuty S x0 x1 x2) S) ++ [(q, .inl (kq, (1, .inr (.inl (f)))))]) H1 := by rw [← ew]; exact hP
      have hD : va_D A (cb_w a k (kS (k_giveDuty S x0 x1 x2) (S_giveDuty S x0 x1 x2) S) ++ [(q, .inl (kq, (1, .inr (.inl (f)))))]) := by rw [← ew]; exact hD
      rw [hQ]
      exact W.iret (v := nI 1) hx hb hr (fun t9 ht9 hW9 => ⟨⟨nI 1, f, rfl, ⟨by rw [hk9], fun h9 => absurd (hk9.symm.trans h9) (by decide)⟩, cB_of hP hK hD ht9 hW9⟩, hS.F ht9⟩) hS.2.2 dL_giveDuty_18
    · refine vx_catch (own := RL) (name := xE_A) (E := xE_A) hown [(⟨0, 12, 15, 19⟩ : ExceptionTableEntry)] (⟨0, 12, 19, 21⟩ : ExceptionTableEntry) [(⟨0, 12, 23, 13⟩ : ExceptionTableEntry)] htb (fun z hz => by cases List.mem_singleton.mp hz; exact Or.inr ⟨by decide, xE_I, f_0, hE.2 (xE_A, xE_I) (by decide +kernel)⟩) (by decide) (by decide) f_1 (va_Nw.use rfl (hE.1.2.2.1 (.castable xE_A xE_A) (by decide +kernel))) hce hcv hcl ?_
      refine lv_astore (lv' := [(5, .ref q9), (0, .ref (a 0)), (1, .int x0), (2, .int x1), (3, .int x2), (4, .ref q)]) hx hb dL_giveDuty_19 hl (by decide) rfl (fun ls hl => ?_)
      refine lv_iconst (v := nI 2) hx hb dL_giveDuty_21 (by decide) ?_
      have ew : (cb_w a k S ++ [(q, .inl (kq, (1, .inr (.inl (f)))))]) = (cb_w a k (kS (k_giveDuty S x0 x1 x2) (S_giveDuty S x0 x1 x2) S) ++ [(q, .inl (kq, (1, .inr (.inl (f)))))]) := by rw [hk9]; rfl
      have hP : va_P (dC, dI) vwCl (cb_w a k (kS (k_giveDuty S x0 x1 x2) (S_giveDuty S x0 x1 x2) S) ++ [(q, .inl (kq, (1, .inr (.inl (f)))))]) H1 := by rw [← ew]; exact hP
      have hD : va_D A (cb_w a k (kS (k_giveDuty S x0 x1 x2) (S_giveDuty S x0 x1 x2) S) ++ [(q, .inl (kq, (1, .inr (.inl (f)))))]) := by rw [← ew]; exact hD
      rw [hQ]
      exact W.iret (v := nI 2) hx hb hr (fun t9 ht9 hW9 => ⟨⟨nI 2, f, rfl, ⟨by rw [hk9], fun h9 => absurd (hk9.symm.trans h9) (by decide)⟩, cB_of hP hK hD ht9 hW9⟩, hS.F ht9⟩) hS.2.2 dL_giveDuty_22
    · refine vx_catch (own := RL) (name := xE_S) (E := xE_S) hown [(⟨0, 12, 15, 19⟩ : ExceptionTableEntry), (⟨0, 12, 19, 21⟩ : ExceptionTableEntry)] (⟨0, 12, 23, 13⟩ : ExceptionTableEntry) [] htb (fun z hz => by rcases List.mem_cons.mp hz with rfl | hz; exact Or.inr ⟨by decide, xE_I, f_0, hE.2 (xE_S, xE_I) (by decide +kernel)⟩; cases List.mem_singleton.mp hz; exact Or.inr ⟨by decide, xE_A, f_1, hE.2 (xE_S, xE_A) (by decide +kernel)⟩) (by decide) (by decide) f_2 (va_Nw.use rfl (hE.1.2.2.1 (.castable xE_S xE_S) (by decide +kernel))) hce hcv hcl ?_
      refine lv_astore (lv' := [(5, .ref q9), (0, .ref (a 0)), (1, .int x0), (2, .int x1), (3, .int x2), (4, .ref q)]) hx hb dL_giveDuty_23 hl (by decide) rfl (fun ls hl => ?_)
      refine lv_iconst (v := nI 3) hx hb dL_giveDuty_25 (by decide) ?_
      have ew : (cb_w a k S ++ [(q, .inl (kq, (1, .inr (.inl (f)))))]) = (cb_w a k (kS (k_giveDuty S x0 x1 x2) (S_giveDuty S x0 x1 x2) S) ++ [(q, .inl (kq, (1, .inr (.inl (f)))))]) := by rw [hk9]; rfl
      have hP : va_P (dC, dI) vwCl (cb_w a k (kS (k_giveDuty S x0 x1 x2) (S_giveDuty S x0 x1 x2) S) ++ [(q, .inl (kq, (1, .inr (.inl (f)))))]) H1 := by rw [← ew]; exact hP
      have hD : va_D A (cb_w a k (kS (k_giveDuty S x0 x1 x2) (S_giveDuty S x0 x1 x2) S) ++ [(q, .inl (kq, (1, .inr (.inl (f)))))]) := by rw [← ew]; exact hD
      rw [hQ]
      exact W.iret (v := nI 3) hx hb hr (fun t9 ht9 hW9 => ⟨⟨nI 3, f, rfl, ⟨by rw [hk9], fun h9 => absurd (hk9.symm.trans h9) (by decide)⟩, cB_of hP hK hD ht9 hW9⟩, hS.F ht9⟩) hS.2.2 dL_giveDuty_26
  · skip
    obtain ⟨hP9, -, hD9⟩ := hB
    rw [ht] at hP9
    obtain ⟨hP8, hD8⟩ := va_join (wc := (cb_w a k S)) (wr := [(q, .inl (kq, (1, .inr (.inl (f)))))]) hP hD [0, 1, 2, 3, 4, 5, 6, 7, 8, 9, 10, 11, 12, 13, 14, 15, 16, 17, 18, 19] [20] rfl rfl (by decide) (by decide) hk1 hF hP9 hD9
    have hP : va_P (dC, dI) vwCl (cb_w a k (S_giveDuty S x0 x1 x2) ++ [(q, .inl (kq, (1, .inr (.inl (f)))))]) H1 := hP8.sub [1, 2, 3, 4, 5, 6, 7, 8, 9, 10, 11, 12, 13, 14, 15, 16, 17, 18, 19, 20, 0] rfl
    have hD : va_D A (cb_w a k (S_giveDuty S x0 x1 x2) ++ [(q, .inl (kq, (1, .inr (.inl (f)))))]) := hD8.sub [1, 2, 3, 4, 5, 6, 7, 8, 9, 10, 11, 12, 13, 14, 15, 16, 17, 18, 19, 20, 0] (by decide) rfl
    obtain ⟨hk9, hr9⟩ := hw
    subst hr9
    have hP : va_P (dC, dI) vwCl ((cb_W a k (S_giveDuty S x0 x1 x2) (c_sl (S_giveDuty S x0 x1 x2)) (c_pt (S_giveDuty S x0 x1 x2)) (c_at (S_giveDuty S x0 x1 x2))) ++ [(q, .inl (kq, (1, .inr (.inl (f)))))]) H1 := hP
    have hD : va_D A ((cb_W a k (S_giveDuty S x0 x1 x2) (c_sl (S_giveDuty S x0 x1 x2)) (c_pt (S_giveDuty S x0 x1 x2)) (c_at (S_giveDuty S x0 x1 x2))) ++ [(q, .inl (kq, (1, .inr (.inl (f)))))]) := hD
    refine lv_i2l hx hb dL_giveDuty_10 rfl ?_
    refine cb_last hx hb hK hP hD hS 20 14 (f := f) rfl rfl (j := 0) (by omega) (Nat.le_of_ble_eq_true rfl) dL_giveDuty_11 (fun H locs hP hD hS => ?_)
    have hP : va_P (dC, dI) vwCl ((cb_W a k (S_giveDuty S x0 x1 x2) (c_sl (S_giveDuty S x0 x1 x2)) (c_pt (S_giveDuty S x0 x1 x2)) (c_at (S_giveDuty S x0 x1 x2))) ++ [(q, .inl (kq, (1, .inr (.inl (vp_updL f 0 ((r_giveDuty S x0 x1).toInt64))))))]) H := hP
    have hD : va_D A ((cb_W a k (S_giveDuty S x0 x1 x2) (c_sl (S_giveDuty S x0 x1 x2)) (c_pt (S_giveDuty S x0 x1 x2)) (c_at (S_giveDuty S x0 x1 x2))) ++ [(q, .inl (kq, (1, .inr (.inl (vp_updL f 0 ((r_giveDuty S x0 x1).toInt64))))))]) := hD
    refine lv_goto (tgt := 27) hx hb dL_giveDuty_12 (by decide) ?_
    refine lv_iconst (v := nI 0) hx hb dL_giveDuty_27 (by decide) ?_
    have ew : ((cb_W a k (S_giveDuty S x0 x1 x2) (c_sl (S_giveDuty S x0 x1 x2)) (c_pt (S_giveDuty S x0 x1 x2)) (c_at (S_giveDuty S x0 x1 x2))) ++ [(q, .inl (kq, (1, .inr (.inl (vp_updL f 0 ((r_giveDuty S x0 x1).toInt64))))))]) = (cb_w a k (kS (k_giveDuty S x0 x1 x2) (S_giveDuty S x0 x1 x2) S) ++ [(q, .inl (kq, (1, .inr (.inl (vp_updL f 0 ((r_giveDuty S x0 x1).toInt64))))))]) := by rw [hk9]; rfl
    have hP : va_P (dC, dI) vwCl (cb_w a k (kS (k_giveDuty S x0 x1 x2) (S_giveDuty S x0 x1 x2) S) ++ [(q, .inl (kq, (1, .inr (.inl (vp_updL f 0 ((r_giveDuty S x0 x1).toInt64))))))]) H := by rw [← ew]; exact hP
    have hD : va_D A (cb_w a k (kS (k_giveDuty S x0 x1 x2) (S_giveDuty S x0 x1 x2) S) ++ [(q, .inl (kq, (1, .inr (.inl (vp_updL f 0 ((r_giveDuty S x0 x1).toInt64))))))]) := by rw [← ew]; exact hD
    rw [hQ]
    exact W.iret (v := nI 0) hx hb hr (fun t9 ht9 hW9 => ⟨⟨nI 0, (vp_updL f 0 ((r_giveDuty S x0 x1).toInt64)), rfl, ⟨by rw [hk9], fun _ => pk_uLs⟩, cB_of hP hK hD ht9 hW9⟩, hS.F ht9⟩) hS.2.2 dL_giveDuty_28
abbrev rm_L_duty : Room := { frames := 8, cells := 8, slots := 48, locals := 133 }
set_option maxHeartbeats 4000000 in
set_option maxRecDepth 100000 in
theorem c_L_duty (l : Launch) (hl9 : l.stackTraces = false) (dC : Nat → ClassId) (dI : Nat → Nat → Nat) (a : Nat → Nat) (k : Nat → ClassId) (S : cs_S) (q : Nat) (kq : ClassId) (f : Nat → Int64) (sz : Nat) (x0 : Int32) (x1 : Int32) (hI : Inv S) : Met l yL_duty wsL_duty rm_L_duty (va_Pc [.ref (a 0), .int x0, .int x1, .ref q] (cV dC dI sz (cb_w a k S ++ [(q, .inl (kq, (1, .inr (.inl (f)))))]) (cb_ty k ++ [(kq, .long)]))) (va_Qi (fun (r : Int32) (f2 : Nat → Int64) => r = nI (k_duty x0 x1) ∧ (k_duty x0 x1 = 0 → f2 0 = (r_giveDuty S x0 x1).toInt64)) (fun f2 t => cB dC dI (va_A (cb_w a k S ++ [(q, .inl (kq, (1, .inr (.inl (f)))))]) sz) (cb_w a k S ++ [(q, .inl (kq, (1, .inr (.inl (f2)))))]) (cb_ty k ++ [(kq, .long)]) t) (va_A (cb_w a k S ++ [(q, .inl (kq, (1, .inr (.inl (f)))))]) sz)) 8 48 (va_A (cb_w a k S ++ [(q, .inl (kq, (1, .inr (.inl (f)))))]) sz) := by
  refine va_MetW (cc := cL_duty) (maxL := 5) (ret := (some .int)) (hh := [(0, 10, 13, 19)]) (by decide) rfl ?_
  intro p e s m args below meth c s₁ B hml hv
  obtain ⟨rfl, ⟨hsz, hP, hK, hD0⟩, hE⟩ := hv
  have hx := B.exec
  have hb := B.bytes
  have hr := B.returns
  have hts := atoms_spec (ws := wsL_duty) B.pre
  have hown : s.vm.findClass RL = some m.cls := findClass_of_methodNamed B.named
  have htb : c.exceptionTable.toList = tableOf [(0, 10, 13, 19)] := vx_table (x := yL_duty) B (hts (.codeWith yL_duty cL_duty 5 (some .int) [(0, 10, 13, 19)]) List.mem_cons_self)
  subst hsz
  have hD := hD0.self (sz := s.heap.size)
  generalize hAe : va_A (cb_w a k S ++ [(q, .inl (kq, (1, .inr (.inl (f)))))]) s.heap.size = A at hD hE ⊢
  have hA : ∀ q : Nat, s.heap.size ≤ q → A q := fun q h => by rw [← hAe]; exact Or.inr h
  have hS : va_S A s.heap s.heap [] := va_S.rf
  obtain ⟨Q, hQ⟩ : ∃ Q, Q = MQ below (va_Qi (fun (r : Int32) (f2 : Nat → Int64) => r = nI (k_duty x0 x1) ∧ (k_duty x0 x1 = 0 → f2 0 = (r_giveDuty S x0 x1).toInt64)) (fun f2 t => cB dC dI A (cb_w a k S ++ [(q, .inl (kq, (1, .inr (.inl (f2)))))]) (cb_ty k ++ [(kq, .long)]) t) A) ([.ref (a 0), .int x0, .int x1, .ref q] : List Value).toArray s 8 48 A := ⟨_, rfl⟩
  show W p l e rm_L_duty s m _ below meth c s.heap [] 0 0 (MQ below _ _ _ _ _ _) _
  rw [← hQ]
  have f_0 := hts (.classLink RL 19 xE_I) (by decide +kernel)
  have hl := lv_entry ([.ref (a 0), .int x0, .int x1, .ref q]) (n := 5) (Nat.le_of_ble_eq_true rfl)
  rw [lg_entry_eq]
  generalize (lg_sl ([.ref (a 0), .int x0, .int x1, .ref q]) ++ List.replicate (5 - (lg_sl ([.ref (a 0), .int x0, .int x1, .ref q])).length) Slot.unset).toArray = ls at hl ⊢
  have hl : lv_has ls 5 [(0, .ref (a 0)), (1, .int x0), (2, .int x1), (3, .ref q)] := hl
  refine lv_aload_n hx hb dL_duty_0 rfl (lv_at hl 3 rfl) ?_
  refine lv_iconst (v := nI 0) hx hb dL_duty_1 (by decide) ?_
  refine lv_aload_n hx hb dL_duty_2 rfl (lv_at hl 0 rfl) ?_
  refine lv_iload_n hx hb dL_duty_3 rfl (lv_at hl 1 rfl) ?_
  refine lv_iload_n hx hb dL_duty_4 rfl (lv_at hl 2 rfl) ?_
  have hPc := hP.sub (ws' := (cb_w a k S)) [0, 1, 2, 3, 4, 5, 6, 7, 8, 9, 10, 11, 12, 13, 14, 15, 16, 17, 18, 19] rfl
  have hDc := hD.sub (ws' := (cb_w a k S)) [0, 1, 2, 3, 4, 5, 6, 7, 8, 9, 10, 11, 12, 13, 14, 15, 16, 17, 18, 19] (by decide) rfl
  have hKc := hK.sub (tys' := (cb_ty k)) [0, 1, 2, 3, 4, 5, 6, 7, 8, 9, 10, 11, 12, 13] rfl
  have hF : ∀ q9, va_A (cb_w a k S) s.heap.size q9 → A q9 := va_free hD hS hA [0, 1, 2, 3, 4, 5, 6, 7, 8, 9, 10, 11, 12, 13, 14, 15, 16, 17, 18, 19] rfl
  refine vx_calli (vx_runV (As := [.int x0, .int x1]) (rest := [.int (nI 0), .ref q]) ⟨hx, hb, hml, hown, hts⟩ (c_X5_duty l hl9 dC dI a k S s.heap.size x0 x1 hI) (cwV 2 hts gL_duty_X5_duty rfl rfl rfl (by decide +kernel) ⟨(Nat.le_of_ble_eq_true rfl), (Nat.le_of_ble_eq_true rfl)⟩) ⟨cU_blind, va_recv hKc hPc (ci := 5) (q0 := 0) rfl rfl, fun U hU hW => ⟨rfl, cU_of hKc hPc hDc hE.1 hS hU hW hF⟩⟩ rfl rfl hl.1 rfl (lv_room (Nat.le_of_ble_eq_true rfl)) dL_duty_5 ⟨(Nat.le_of_ble_eq_true rfl), (Nat.le_of_ble_eq_true rfl)⟩) hS (fun q9 _ h => hF q9 h) hF (fun q9 _ h => hF q9 h) (fun E ce q9 u8 t8 H1 L1 ht hvm _ hB hz1 hk1 hS hce hcv hcl => ?_) (fun r9 u8 t8 H1 L1 ht hvm hw hB hz1 hk1 hS => ?_)
  · obtain ⟨hpx9, hB⟩ := hB
    obtain ⟨hP9, -, hD9⟩ := hB
    rw [ht] at hP9
    obtain ⟨hP8, hD8⟩ := va_join (wc := (cb_w a k S)) (wr := [(q, .inl (kq, (1, .inr (.inl (f)))))]) hP hD [0, 1, 2, 3, 4, 5, 6, 7, 8, 9, 10, 11, 12, 13, 14, 15, 16, 17, 18, 19] [20] rfl rfl (by decide) (by decide) hk1 hF hP9 hD9
    have hP : va_P (dC, dI) vwCl (cb_w a k S ++ [(q, .inl (kq, (1, .inr (.inl (f)))))]) H1 := hP8.sub [1, 2, 3, 4, 5, 6, 7, 8, 9, 10, 11, 12, 13, 14, 15, 16, 17, 18, 19, 20, 0] rfl
    have hD : va_D A (cb_w a k S ++ [(q, .inl (kq, (1, .inr (.inl (f)))))]) := hD8.sub [1, 2, 3, 4, 5, 6, 7, 8, 9, 10, 11, 12, 13, 14, 15, 16, 17, 18, 19, 20, 0] (by decide) rfl
    obtain ⟨hk9, rfl⟩ := px_1 hpx9
    refine vx_catch (own := RL) (name := xE_I) (E := xE_I) hown [] (⟨0, 10, 13, 19⟩ : ExceptionTableEntry) [] htb (fun z hz => absurd hz List.not_mem_nil) (by decide) (by decide) f_0 (va_Nw.use rfl (hE.1.2.2.1 (.castable xE_I xE_I) (by decide +kernel))) hce hcv hcl ?_
    refine lv_astore (lv' := [(4, .ref q9), (0, .ref (a 0)), (1, .int x0), (2, .int x1), (3, .ref q)]) hx hb dL_duty_13 hl (by decide) rfl (fun ls hl => ?_)
    refine lv_iconst (v := nI 1) hx hb dL_duty_15 (by decide) ?_
    skip
    rw [hQ]
    exact W.iret (v := nI 1) hx hb hr (fun t9 ht9 hW9 => ⟨⟨nI 1, f, rfl, ⟨by rw [hk9], fun h9 => absurd (hk9.symm.trans h9) (by decide)⟩, cB_of hP hK hD ht9 hW9⟩, hS.F ht9⟩) hS.2.2 dL_duty_16
  · skip
    obtain ⟨hP9, -, hD9⟩ := hB
    rw [ht] at hP9
    obtain ⟨hP8, hD8⟩ := va_join (wc := (cb_w a k S)) (wr := [(q, .inl (kq, (1, .inr (.inl (f)))))]) hP hD [0, 1, 2, 3, 4, 5, 6, 7, 8, 9, 10, 11, 12, 13, 14, 15, 16, 17, 18, 19] [20] rfl rfl (by decide) (by decide) hk1 hF hP9 hD9
    have hP : va_P (dC, dI) vwCl (cb_w a k S ++ [(q, .inl (kq, (1, .inr (.inl (f)))))]) H1 := hP8.sub [1, 2, 3, 4, 5, 6, 7, 8, 9, 10, 11, 12, 13, 14, 15, 16, 17, 18, 19, 20, 0] rfl
    have hD : va_D A (cb_w a k S ++ [(q, .inl (kq, (1, .inr (.inl (f)))))]) := hD8.sub [1, 2, 3, 4, 5, 6, 7, 8, 9, 10, 11, 12, 13, 14, 15, 16, 17, 18, 19, 20, 0] (by decide) rfl
    obtain ⟨hk9, hr9⟩ := hw
    subst hr9
    have hP : va_P (dC, dI) vwCl ((cb_W a k S (c_sl S) (c_pt S) (c_at S)) ++ [(q, .inl (kq, (1, .inr (.inl (f)))))]) H1 := hP
    have hD : va_D A ((cb_W a k S (c_sl S) (c_pt S) (c_at S)) ++ [(q, .inl (kq, (1, .inr (.inl (f)))))]) := hD
    refine lv_i2l hx hb dL_duty_8 rfl ?_
    refine cb_last hx hb hK hP hD hS 20 14 (f := f) rfl rfl (j := 0) (by omega) (Nat.le_of_ble_eq_true rfl) dL_duty_9 (fun H locs hP hD hS => ?_)
    have hP : va_P (dC, dI) vwCl ((cb_W a k S (c_sl S) (c_pt S) (c_at S)) ++ [(q, .inl (kq, (1, .inr (.inl (vp_updL f 0 ((r_giveDuty S x0 x1).toInt64))))))]) H := hP
    have hD : va_D A ((cb_W a k S (c_sl S) (c_pt S) (c_at S)) ++ [(q, .inl (kq, (1, .inr (.inl (vp_updL f 0 ((r_giveDuty S x0 x1).toInt64))))))]) := hD
    refine lv_goto (tgt := 17) hx hb dL_duty_10 (by decide) ?_
    refine lv_iconst (v := nI 0) hx hb dL_duty_17 (by decide) ?_
    have ew : ((cb_W a k S (c_sl S) (c_pt S) (c_at S)) ++ [(q, .inl (kq, (1, .inr (.inl (vp_updL f 0 ((r_giveDuty S x0 x1).toInt64))))))]) = (cb_w a k S ++ [(q, .inl (kq, (1, .inr (.inl (vp_updL f 0 ((r_giveDuty S x0 x1).toInt64))))))]) := rfl
    have hP : va_P (dC, dI) vwCl (cb_w a k S ++ [(q, .inl (kq, (1, .inr (.inl (vp_updL f 0 ((r_giveDuty S x0 x1).toInt64))))))]) H := by rw [← ew]; exact hP
    have hD : va_D A (cb_w a k S ++ [(q, .inl (kq, (1, .inr (.inl (vp_updL f 0 ((r_giveDuty S x0 x1).toInt64))))))]) := by rw [← ew]; exact hD
    rw [hQ]
    exact W.iret (v := nI 0) hx hb hr (fun t9 ht9 hW9 => ⟨⟨nI 0, (vp_updL f 0 ((r_giveDuty S x0 x1).toInt64)), rfl, ⟨by rw [hk9], fun _ => pk_uLs⟩, cB_of hP hK hD ht9 hW9⟩, hS.F ht9⟩) hS.2.2 dL_duty_18
abbrev rm_L_points : Room := { frames := 8, cells := 8, slots := 48, locals := 132 }
set_option maxHeartbeats 4000000 in
set_option maxRecDepth 100000 in
theorem c_L_points (l : Launch) (hl9 : l.stackTraces = false) (dC : Nat → ClassId) (dI : Nat → Nat → Nat) (a : Nat → Nat) (k : Nat → ClassId) (S : cs_S) (q : Nat) (kq : ClassId) (f : Nat → Int64) (sz : Nat) (x0 : Int32) (hI : Inv S) : Met l yL_points wsL_points rm_L_points (va_Pc [.ref (a 0), .int x0, .ref q] (cV dC dI sz (cb_w a k S ++ [(q, .inl (kq, (1, .inr (.inl (f)))))]) (cb_ty k ++ [(kq, .long)]))) (va_Qi (fun (r : Int32) (f2 : Nat → Int64) => r = nI (k_points S x0) ∧ (k_points S x0 = 0 → f2 0 = (r_points S x0).toInt64)) (fun f2 t => cB dC dI (va_A (cb_w a k S ++ [(q, .inl (kq, (1, .inr (.inl (f)))))]) sz) (cb_w a k S ++ [(q, .inl (kq, (1, .inr (.inl (f2)))))]) (cb_ty k ++ [(kq, .long)]) t) (va_A (cb_w a k S ++ [(q, .inl (kq, (1, .inr (.inl (f)))))]) sz)) 8 48 (va_A (cb_w a k S ++ [(q, .inl (kq, (1, .inr (.inl (f)))))]) sz) := by
  refine va_MetW (cc := cL_points) (maxL := 4) (ret := (some .int)) (hh := [(0, 9, 12, 19)]) (by decide) rfl ?_
  intro p e s m args below meth c s₁ B hml hv
  obtain ⟨rfl, ⟨hsz, hP, hK, hD0⟩, hE⟩ := hv
  have hx := B.exec
  have hb := B.bytes
  have hr := B.returns
  have hts := atoms_spec (ws := wsL_points) B.pre
  have hown : s.vm.findClass RL = some m.cls := findClass_of_methodNamed B.named
  have htb : c.exceptionTable.toList = tableOf [(0, 9, 12, 19)] := vx_table (x := yL_points) B (hts (.codeWith yL_points cL_points 4 (some .int) [(0, 9, 12, 19)]) List.mem_cons_self)
  subst hsz
  have hD := hD0.self (sz := s.heap.size)
  generalize hAe : va_A (cb_w a k S ++ [(q, .inl (kq, (1, .inr (.inl (f)))))]) s.heap.size = A at hD hE ⊢
  have hA : ∀ q : Nat, s.heap.size ≤ q → A q := fun q h => by rw [← hAe]; exact Or.inr h
  have hS : va_S A s.heap s.heap [] := va_S.rf
  obtain ⟨Q, hQ⟩ : ∃ Q, Q = MQ below (va_Qi (fun (r : Int32) (f2 : Nat → Int64) => r = nI (k_points S x0) ∧ (k_points S x0 = 0 → f2 0 = (r_points S x0).toInt64)) (fun f2 t => cB dC dI A (cb_w a k S ++ [(q, .inl (kq, (1, .inr (.inl (f2)))))]) (cb_ty k ++ [(kq, .long)]) t) A) ([.ref (a 0), .int x0, .ref q] : List Value).toArray s 8 48 A := ⟨_, rfl⟩
  show W p l e rm_L_points s m _ below meth c s.heap [] 0 0 (MQ below _ _ _ _ _ _) _
  rw [← hQ]
  have f_0 := hts (.classLink RL 19 xE_I) (by decide +kernel)
  have hl := lv_entry ([.ref (a 0), .int x0, .ref q]) (n := 4) (Nat.le_of_ble_eq_true rfl)
  rw [lg_entry_eq]
  generalize (lg_sl ([.ref (a 0), .int x0, .ref q]) ++ List.replicate (4 - (lg_sl ([.ref (a 0), .int x0, .ref q])).length) Slot.unset).toArray = ls at hl ⊢
  have hl : lv_has ls 4 [(0, .ref (a 0)), (1, .int x0), (2, .ref q)] := hl
  refine lv_aload_n hx hb dL_points_0 rfl (lv_at hl 2 rfl) ?_
  refine lv_iconst (v := nI 0) hx hb dL_points_1 (by decide) ?_
  refine lv_aload_n hx hb dL_points_2 rfl (lv_at hl 0 rfl) ?_
  refine lv_iload_n hx hb dL_points_3 rfl (lv_at hl 1 rfl) ?_
  have hPc := hP.sub (ws' := (cb_w a k S)) [0, 1, 2, 3, 4, 5, 6, 7, 8, 9, 10, 11, 12, 13, 14, 15, 16, 17, 18, 19] rfl
  have hDc := hD.sub (ws' := (cb_w a k S)) [0, 1, 2, 3, 4, 5, 6, 7, 8, 9, 10, 11, 12, 13, 14, 15, 16, 17, 18, 19] (by decide) rfl
  have hKc := hK.sub (tys' := (cb_ty k)) [0, 1, 2, 3, 4, 5, 6, 7, 8, 9, 10, 11, 12, 13] rfl
  have hF : ∀ q9, va_A (cb_w a k S) s.heap.size q9 → A q9 := va_free hD hS hA [0, 1, 2, 3, 4, 5, 6, 7, 8, 9, 10, 11, 12, 13, 14, 15, 16, 17, 18, 19] rfl
  refine vx_calli (vx_runV (As := [.int x0]) (rest := [.int (nI 0), .ref q]) ⟨hx, hb, hml, hown, hts⟩ (c_X5_points l hl9 dC dI a k S s.heap.size x0 hI) (cwV 1 hts gL_points_X5_points rfl rfl rfl (by decide +kernel) ⟨(Nat.le_of_ble_eq_true rfl), (Nat.le_of_ble_eq_true rfl)⟩) ⟨cU_blind, va_recv hKc hPc (ci := 5) (q0 := 0) rfl rfl, fun U hU hW => ⟨rfl, cU_of hKc hPc hDc hE.1 hS hU hW hF⟩⟩ rfl rfl hl.1 rfl (lv_room (Nat.le_of_ble_eq_true rfl)) dL_points_4 ⟨(Nat.le_of_ble_eq_true rfl), (Nat.le_of_ble_eq_true rfl)⟩) hS (fun q9 _ h => hF q9 h) hF (fun q9 _ h => hF q9 h) (fun E ce q9 u8 t8 H1 L1 ht hvm _ hB hz1 hk1 hS hce hcv hcl => ?_) (fun r9 u8 t8 H1 L1 ht hvm hw hB hz1 hk1 hS => ?_)
  · obtain ⟨hpx9, hB⟩ := hB
    obtain ⟨hP9, -, hD9⟩ := hB
    rw [ht] at hP9
    obtain ⟨hP8, hD8⟩ := va_join (wc := (cb_w a k S)) (wr := [(q, .inl (kq, (1, .inr (.inl (f)))))]) hP hD [0, 1, 2, 3, 4, 5, 6, 7, 8, 9, 10, 11, 12, 13, 14, 15, 16, 17, 18, 19] [20] rfl rfl (by decide) (by decide) hk1 hF hP9 hD9
    have hP : va_P (dC, dI) vwCl (cb_w a k S ++ [(q, .inl (kq, (1, .inr (.inl (f)))))]) H1 := hP8.sub [1, 2, 3, 4, 5, 6, 7, 8, 9, 10, 11, 12, 13, 14, 15, 16, 17, 18, 19, 20, 0] rfl
    have hD : va_D A (cb_w a k S ++ [(q, .inl (kq, (1, .inr (.inl (f)))))]) := hD8.sub [1, 2, 3, 4, 5, 6, 7, 8, 9, 10, 11, 12, 13, 14, 15, 16, 17, 18, 19, 20, 0] (by decide) rfl
    obtain ⟨hk9, rfl⟩ := px_1 hpx9
    refine vx_catch (own := RL) (name := xE_I) (E := xE_I) hown [] (⟨0, 9, 12, 19⟩ : ExceptionTableEntry) [] htb (fun z hz => absurd hz List.not_mem_nil) (by decide) (by decide) f_0 (va_Nw.use rfl (hE.1.2.2.1 (.castable xE_I xE_I) (by decide +kernel))) hce hcv hcl ?_
    refine lv_astore_n (lv' := [(3, .ref q9), (0, .ref (a 0)), (1, .int x0), (2, .ref q)]) hx hb dL_points_12 rfl hl (by decide) rfl (fun ls hl => ?_)
    refine lv_iconst (v := nI 1) hx hb dL_points_13 (by decide) ?_
    skip
    rw [hQ]
    exact W.iret (v := nI 1) hx hb hr (fun t9 ht9 hW9 => ⟨⟨nI 1, f, rfl, ⟨by rw [hk9], fun h9 => absurd (hk9.symm.trans h9) (by decide)⟩, cB_of hP hK hD ht9 hW9⟩, hS.F ht9⟩) hS.2.2 dL_points_14
  · skip
    obtain ⟨hP9, -, hD9⟩ := hB
    rw [ht] at hP9
    obtain ⟨hP8, hD8⟩ := va_join (wc := (cb_w a k S)) (wr := [(q, .inl (kq, (1, .inr (.inl (f)))))]) hP hD [0, 1, 2, 3, 4, 5, 6, 7, 8, 9, 10, 11, 12, 13, 14, 15, 16, 17, 18, 19] [20] rfl rfl (by decide) (by decide) hk1 hF hP9 hD9
    have hP : va_P (dC, dI) vwCl (cb_w a k S ++ [(q, .inl (kq, (1, .inr (.inl (f)))))]) H1 := hP8.sub [1, 2, 3, 4, 5, 6, 7, 8, 9, 10, 11, 12, 13, 14, 15, 16, 17, 18, 19, 20, 0] rfl
    have hD : va_D A (cb_w a k S ++ [(q, .inl (kq, (1, .inr (.inl (f)))))]) := hD8.sub [1, 2, 3, 4, 5, 6, 7, 8, 9, 10, 11, 12, 13, 14, 15, 16, 17, 18, 19, 20, 0] (by decide) rfl
    obtain ⟨hk9, hr9⟩ := hw
    subst hr9
    have hP : va_P (dC, dI) vwCl ((cb_W a k S (c_sl S) (c_pt S) (c_at S)) ++ [(q, .inl (kq, (1, .inr (.inl (f)))))]) H1 := hP
    have hD : va_D A ((cb_W a k S (c_sl S) (c_pt S) (c_at S)) ++ [(q, .inl (kq, (1, .inr (.inl (f)))))]) := hD
    refine lv_i2l hx hb dL_points_7 rfl ?_
    refine cb_last hx hb hK hP hD hS 20 14 (f := f) rfl rfl (j := 0) (by omega) (Nat.le_of_ble_eq_true rfl) dL_points_8 (fun H locs hP hD hS => ?_)
    have hP : va_P (dC, dI) vwCl ((cb_W a k S (c_sl S) (c_pt S) (c_at S)) ++ [(q, .inl (kq, (1, .inr (.inl (vp_updL f 0 ((r_points S x0).toInt64))))))]) H := hP
    have hD : va_D A ((cb_W a k S (c_sl S) (c_pt S) (c_at S)) ++ [(q, .inl (kq, (1, .inr (.inl (vp_updL f 0 ((r_points S x0).toInt64))))))]) := hD
    refine lv_goto (tgt := 15) hx hb dL_points_9 (by decide) ?_
    refine lv_iconst (v := nI 0) hx hb dL_points_15 (by decide) ?_
    have ew : ((cb_W a k S (c_sl S) (c_pt S) (c_at S)) ++ [(q, .inl (kq, (1, .inr (.inl (vp_updL f 0 ((r_points S x0).toInt64))))))]) = (cb_w a k S ++ [(q, .inl (kq, (1, .inr (.inl (vp_updL f 0 ((r_points S x0).toInt64))))))]) := rfl
    have hP : va_P (dC, dI) vwCl (cb_w a k S ++ [(q, .inl (kq, (1, .inr (.inl (vp_updL f 0 ((r_points S x0).toInt64))))))]) H := by rw [← ew]; exact hP
    have hD : va_D A (cb_w a k S ++ [(q, .inl (kq, (1, .inr (.inl (vp_updL f 0 ((r_points S x0).toInt64))))))]) := by rw [← ew]; exact hD
    rw [hQ]
    exact W.iret (v := nI 0) hx hb hr (fun t9 ht9 hW9 => ⟨⟨nI 0, (vp_updL f 0 ((r_points S x0).toInt64)), rfl, ⟨by rw [hk9], fun _ => pk_uLs⟩, cB_of hP hK hD ht9 hW9⟩, hS.F ht9⟩) hS.2.2 dL_points_16
abbrev rm_L_addFood : Room := { frames := 8, cells := 8, slots := 48, locals := 133 }
set_option maxHeartbeats 4000000 in
set_option maxRecDepth 100000 in
theorem c_L_addFood (l : Launch) (hl9 : l.stackTraces = false) (dC : Nat → ClassId) (dI : Nat → Nat → Nat) (a : Nat → Nat) (k : Nat → ClassId) (S : cs_S) (q : Nat) (kq : ClassId) (f : Nat → Int64) (sz : Nat) (x0 : Int32) (hI : Inv S) : Met l yL_addFood wsL_addFood rm_L_addFood (va_Pc [.ref (a 0), .int x0, .ref q] (cV dC dI sz (cb_w a k S ++ [(q, .inl (kq, (1, .inr (.inl (f)))))]) (cb_ty k ++ [(kq, .long)]))) (va_Qi (fun (r : Int32) (f2 : Nat → Int64) => r = nI (k_addFood S x0) ∧ (k_addFood S x0 = 0 → f2 0 = (nI (c_nf S)).toInt64)) (fun f2 t => cB dC dI (va_A (cb_w a k S ++ [(q, .inl (kq, (1, .inr (.inl (f)))))]) sz) (cb_w a k (kS (k_addFood S x0) (S_addFood S x0) S) ++ [(q, .inl (kq, (1, .inr (.inl (f2)))))]) (cb_ty k ++ [(kq, .long)]) t) (va_A (cb_w a k S ++ [(q, .inl (kq, (1, .inr (.inl (f)))))]) sz)) 8 48 (va_A (cb_w a k S ++ [(q, .inl (kq, (1, .inr (.inl (f)))))]) sz) := by
  refine va_MetW (cc := cL_addFood) (maxL := 4) (ret := (some .int)) (hh := [(0, 9, 12, 21), (0, 9, 15, 13)]) (by decide) rfl ?_
  intro p e s m args below meth c s₁ B hml hv
  obtain ⟨rfl, ⟨hsz, hP, hK, hD0⟩, hE⟩ := hv
  have hx := B.exec
  have hb := B.bytes
  have hr := B.returns
  have hts := atoms_spec (ws := wsL_addFood) B.pre
  have hown : s.vm.findClass RL = some m.cls := findClass_of_methodNamed B.named
  have htb : c.exceptionTable.toList = tableOf [(0, 9, 12, 21), (0, 9, 15, 13)] := vx_table (x := yL_addFood) B (hts (.codeWith yL_addFood cL_addFood 4 (some .int) [(0, 9, 12, 21), (0, 9, 15, 13)]) List.mem_cons_self)
  subst hsz
  have hD := hD0.self (sz := s.heap.size)
  generalize hAe : va_A (cb_w a k S ++ [(q, .inl (kq, (1, .inr (.inl (f)))))]) s.heap.size = A at hD hE ⊢
  have hA : ∀ q : Nat, s.heap.size ≤ q → A q := fun q h => by rw [← hAe]; exact Or.inr h
  have hS : va_S A s.heap s.heap [] := va_S.rf
  obtain ⟨Q, hQ⟩ : ∃ Q, Q = MQ below (va_Qi (fun (r : Int32) (f2 : Nat → Int64) => r = nI (k_addFood S x0) ∧ (k_addFood S x0 = 0 → f2 0 = (nI (c_nf S)).toInt64)) (fun f2 t => cB dC dI A (cb_w a k (kS (k_addFood S x0) (S_addFood S x0) S) ++ [(q, .inl (kq, (1, .inr (.inl (f2)))))]) (cb_ty k ++ [(kq, .long)]) t) A) ([.ref (a 0), .int x0, .ref q] : List Value).toArray s 8 48 A := ⟨_, rfl⟩
  show W p l e rm_L_addFood s m _ below meth c s.heap [] 0 0 (MQ below _ _ _ _ _ _) _
  rw [← hQ]
  have f_0 := hts (.classLink RL 21 xE_A) (by decide +kernel)
  have f_1 := hts (.classLink RL 13 xE_S) (by decide +kernel)
  have hl := lv_entry ([.ref (a 0), .int x0, .ref q]) (n := 4) (Nat.le_of_ble_eq_true rfl)
  rw [lg_entry_eq]
  generalize (lg_sl ([.ref (a 0), .int x0, .ref q]) ++ List.replicate (4 - (lg_sl ([.ref (a 0), .int x0, .ref q])).length) Slot.unset).toArray = ls at hl ⊢
  have hl : lv_has ls 4 [(0, .ref (a 0)), (1, .int x0), (2, .ref q)] := hl
  refine lv_aload_n hx hb dL_addFood_0 rfl (lv_at hl 2 rfl) ?_
  refine lv_iconst (v := nI 0) hx hb dL_addFood_1 (by decide) ?_
  refine lv_aload_n hx hb dL_addFood_2 rfl (lv_at hl 0 rfl) ?_
  refine lv_iload_n hx hb dL_addFood_3 rfl (lv_at hl 1 rfl) ?_
  have hPc := hP.sub (ws' := (cb_w a k S)) [0, 1, 2, 3, 4, 5, 6, 7, 8, 9, 10, 11, 12, 13, 14, 15, 16, 17, 18, 19] rfl
  have hDc := hD.sub (ws' := (cb_w a k S)) [0, 1, 2, 3, 4, 5, 6, 7, 8, 9, 10, 11, 12, 13, 14, 15, 16, 17, 18, 19] (by decide) rfl
  have hKc := hK.sub (tys' := (cb_ty k)) [0, 1, 2, 3, 4, 5, 6, 7, 8, 9, 10, 11, 12, 13] rfl
  have hF : ∀ q9, va_A (cb_w a k S) s.heap.size q9 → A q9 := va_free hD hS hA [0, 1, 2, 3, 4, 5, 6, 7, 8, 9, 10, 11, 12, 13, 14, 15, 16, 17, 18, 19] rfl
  refine vx_calli (vx_runV (As := [.int x0]) (rest := [.int (nI 0), .ref q]) ⟨hx, hb, hml, hown, hts⟩ (c_X5_addFood l hl9 dC dI a k S s.heap.size x0 hI) (cwV 1 hts gL_addFood_X5_addFood rfl rfl rfl (by decide +kernel) ⟨(Nat.le_of_ble_eq_true rfl), (Nat.le_of_ble_eq_true rfl)⟩) ⟨cU_blind, va_recv hKc hPc (ci := 5) (q0 := 0) rfl rfl, fun U hU hW => ⟨rfl, cU_of hKc hPc hDc hE.1 hS hU hW hF⟩⟩ rfl rfl hl.1 rfl (lv_room (Nat.le_of_ble_eq_true rfl)) dL_addFood_4 ⟨(Nat.le_of_ble_eq_true rfl), (Nat.le_of_ble_eq_true rfl)⟩) hS (fun q9 _ h => hF q9 h) hF (fun q9 _ h => hF q9 h) (fun E ce q9 u8 t8 H1 L1 ht hvm _ hB hz1 hk1 hS hce hcv hcl => ?_) (fun r9 u8 t8 H1 L1 ht hvm hw hB hz1 hk1 hS => ?_)
  · obtain ⟨hpx9, hB⟩ := hB
    obtain ⟨hP9, -, hD9⟩ := hB
    rw [ht] at hP9
    obtain ⟨hP8, hD8⟩ := va_join (wc := (cb_w a k S)) (wr := [(q, .inl (kq, (1, .inr (.inl (f)))))]) hP hD [0, 1, 2, 3, 4, 5, 6, 7, 8, 9, 10, 11, 12, 13, 14, 15, 16, 17, 18, 19] [20] rfl rfl (by decide) (by decide) hk1 hF hP9 hD9
    have hP : va_P (dC, dI) vwCl (cb_w a k S ++ [(q, .inl (kq, (1, .inr (.inl (f)))))]) H1 := hP8.sub [1, 2, 3, 4, 5, 6, 7, 8, 9, 10, 11, 12, 13, 14, 15, 16, 17, 18, 19, 20, 0] rfl
    have hD : va_D A (cb_w a k S ++ [(q, .inl (kq, (1, .inr (.inl (f)))))]) := hD8.sub [1, 2, 3, 4, 5, 6, 7, 8, 9, 10, 11, 12, 13, 14, 15, 16, 17, 18, 19, 20, 0] (by decide) rfl
    rcases px_2 hpx9 with ⟨hk9, rfl⟩ | ⟨hk9, rfl⟩
    · refine vx_catch (own := RL) (name := xE_A) (E := xE_A) hown [] (⟨0, 9, 12, 21⟩ : ExceptionTableEntry) [(⟨0, 9, 15, 13⟩ : ExceptionTableEntry)] htb (fun z hz => absurd hz List.not_mem_nil) (by decide) (by decide) f_0 (va_Nw.use rfl (hE.1.2.2.1 (.castable xE_A xE_A) (by decide +kernel))) hce hcv hcl ?_
      refine lv_astore_n (lv' := [(3, .ref q9), (0, .ref (a 0)), (1, .int x0), (2, .ref q)]) hx hb dL_addFood_12 rfl hl (by decide) rfl (fun ls hl => ?_)
      refine lv_iconst (v := nI 1) hx hb dL_addFood_13 (by decide) ?_
      have ew : (cb_w a k S ++ [(q, .inl (kq, (1, .inr (.inl (f)))))]) = (cb_w a k (kS (k_addFood S x0) (S_addFood S x0) S) ++ [(q, .inl (kq, (1, .inr (.inl (f)))))]) := by rw [hk9]; rfl
      have hP : va_P (dC, dI) vwCl (cb_w a k (kS (k_addFood S x0) (S_addFood S x0) S) ++ [(q, .inl (kq, (1, .inr (.inl (f)))))]) H1 := by rw [← ew]; exact hP
      have hD : va_D A (cb_w a k (kS (k_addFood S x0) (S_addFood S x0) S) ++ [(q, .inl (kq, (1, .inr (.inl (f)))))]) := by rw [← ew]; exact hD
      rw [hQ]
      exact W.iret (v := nI 1) hx hb hr (fun t9 ht9 hW9 => ⟨⟨nI 1, f, rfl, ⟨by rw [hk9], fun h9 => absurd (hk9.symm.trans h9) (by decide)⟩, cB_of hP hK hD ht9 hW9⟩, hS.F ht9⟩) hS.2.2 dL_addFood_14
    · refine vx_catch (own := RL) (name := xE_S) (E := xE_S) hown [(⟨0, 9, 12, 21⟩ : ExceptionTableEntry)] (⟨0, 9, 15, 13⟩ : ExceptionTableEntry) [] htb (fun z hz => by cases List.mem_singleton.mp hz; exact Or.inr ⟨by decide, xE_A, f_0, hE.2 (xE_S, xE_A) (by decide +kernel)⟩) (by decide) (by decide) f_1 (va_Nw.use rfl (hE.1.2.2.1 (.castable xE_S xE_S) (by decide +kernel))) hce hcv hcl ?_
      refine lv_astore_n (lv' := [(3, .ref q9), (0, .ref (a 0)), (1, .int x0), (2, .ref q)]) hx hb dL_addFood_15 rfl hl (by decide) rfl (fun ls hl => ?_)
      refine lv_iconst (v := nI 2) hx hb dL_addFood_16 (by decide) ?_
      have ew : (cb_w a k S ++ [(q, .inl (kq, (1, .inr (.inl (f)))))]) = (cb_w a k (kS (k_addFood S x0) (S_addFood S x0) S) ++ [(q, .inl (kq, (1, .inr (.inl (f)))))]) := by rw [hk9]; rfl
      have hP : va_P (dC, dI) vwCl (cb_w a k (kS (k_addFood S x0) (S_addFood S x0) S) ++ [(q, .inl (kq, (1, .inr (.inl (f)))))]) H1 := by rw [← ew]; exact hP
      have hD : va_D A (cb_w a k (kS (k_addFood S x0) (S_addFood S x0) S) ++ [(q, .inl (kq, (1, .inr (.inl (f)))))]) := by rw [← ew]; exact hD
      rw [hQ]
      exact W.iret (v := nI 2) hx hb hr (fun t9 ht9 hW9 => ⟨⟨nI 2, f, rfl, ⟨by rw [hk9], fun h9 => absurd (hk9.symm.trans h9) (by decide)⟩, cB_of hP hK hD ht9 hW9⟩, hS.F ht9⟩) hS.2.2 dL_addFood_17
  · skip
    obtain ⟨hP9, -, hD9⟩ := hB
    rw [ht] at hP9
    obtain ⟨hP8, hD8⟩ := va_join (wc := (cb_w a k S)) (wr := [(q, .inl (kq, (1, .inr (.inl (f)))))]) hP hD [0, 1, 2, 3, 4, 5, 6, 7, 8, 9, 10, 11, 12, 13, 14, 15, 16, 17, 18, 19] [20] rfl rfl (by decide) (by decide) hk1 hF hP9 hD9
    have hP : va_P (dC, dI) vwCl (cb_w a k (S_addFood S x0) ++ [(q, .inl (kq, (1, .inr (.inl (f)))))]) H1 := hP8.sub [1, 2, 3, 4, 5, 6, 7, 8, 9, 10, 11, 12, 13, 14, 15, 16, 17, 18, 19, 20, 0] rfl
    have hD : va_D A (cb_w a k (S_addFood S x0) ++ [(q, .inl (kq, (1, .inr (.inl (f)))))]) := hD8.sub [1, 2, 3, 4, 5, 6, 7, 8, 9, 10, 11, 12, 13, 14, 15, 16, 17, 18, 19, 20, 0] (by decide) rfl
    obtain ⟨hk9, hr9⟩ := hw
    subst hr9
    have hP : va_P (dC, dI) vwCl ((cb_W a k (S_addFood S x0) (c_sl (S_addFood S x0)) (c_pt (S_addFood S x0)) (c_at (S_addFood S x0))) ++ [(q, .inl (kq, (1, .inr (.inl (f)))))]) H1 := hP
    have hD : va_D A ((cb_W a k (S_addFood S x0) (c_sl (S_addFood S x0)) (c_pt (S_addFood S x0)) (c_at (S_addFood S x0))) ++ [(q, .inl (kq, (1, .inr (.inl (f)))))]) := hD
    refine lv_i2l hx hb dL_addFood_7 rfl ?_
    refine cb_last hx hb hK hP hD hS 20 14 (f := f) rfl rfl (j := 0) (by omega) (Nat.le_of_ble_eq_true rfl) dL_addFood_8 (fun H locs hP hD hS => ?_)
    have hP : va_P (dC, dI) vwCl ((cb_W a k (S_addFood S x0) (c_sl (S_addFood S x0)) (c_pt (S_addFood S x0)) (c_at (S_addFood S x0))) ++ [(q, .inl (kq, (1, .inr (.inl (vp_updL f 0 ((nI (c_nf S)).toInt64))))))]) H := hP
    have hD : va_D A ((cb_W a k (S_addFood S x0) (c_sl (S_addFood S x0)) (c_pt (S_addFood S x0)) (c_at (S_addFood S x0))) ++ [(q, .inl (kq, (1, .inr (.inl (vp_updL f 0 ((nI (c_nf S)).toInt64))))))]) := hD
    refine lv_goto (tgt := 18) hx hb dL_addFood_9 (by decide) ?_
    refine lv_iconst (v := nI 0) hx hb dL_addFood_18 (by decide) ?_
    have ew : ((cb_W a k (S_addFood S x0) (c_sl (S_addFood S x0)) (c_pt (S_addFood S x0)) (c_at (S_addFood S x0))) ++ [(q, .inl (kq, (1, .inr (.inl (vp_updL f 0 ((nI (c_nf S)).toInt64))))))]) = (cb_w a k (kS (k_addFood S x0) (S_addFood S x0) S) ++ [(q, .inl (kq, (1, .inr (.inl (vp_updL f 0 ((nI (c_nf S)).toInt64))))))]) := by rw [hk9]; rfl
    have hP : va_P (dC, dI) vwCl (cb_w a k (kS (k_addFood S x0) (S_addFood S x0) S) ++ [(q, .inl (kq, (1, .inr (.inl (vp_updL f 0 ((nI (c_nf S)).toInt64))))))]) H := by rw [← ew]; exact hP
    have hD : va_D A (cb_w a k (kS (k_addFood S x0) (S_addFood S x0) S) ++ [(q, .inl (kq, (1, .inr (.inl (vp_updL f 0 ((nI (c_nf S)).toInt64))))))]) := by rw [← ew]; exact hD
    rw [hQ]
    exact W.iret (v := nI 0) hx hb hr (fun t9 ht9 hW9 => ⟨⟨nI 0, (vp_updL f 0 ((nI (c_nf S)).toInt64)), rfl, ⟨by rw [hk9], fun _ => pk_uLs⟩, cB_of hP hK hD ht9 hW9⟩, hS.F ht9⟩) hS.2.2 dL_addFood_19
abbrev rm_L_buy : Room := { frames := 8, cells := 8, slots := 48, locals := 135 }
set_option maxHeartbeats 4000000 in
set_option maxRecDepth 100000 in
theorem c_L_buy (l : Launch) (hl9 : l.stackTraces = false) (dC : Nat → ClassId) (dI : Nat → Nat → Nat) (a : Nat → Nat) (k : Nat → ClassId) (S : cs_S) (q : Nat) (kq : ClassId) (f : Nat → Int64) (sz : Nat) (x0 : Int32) (x1 : Int32) (hI : Inv S) : Met l yL_buy wsL_buy rm_L_buy (va_Pc [.ref (a 0), .int x0, .int x1, .ref q] (cV dC dI sz (cb_w a k S ++ [(q, .inl (kq, (1, .inr (.inl (f)))))]) (cb_ty k ++ [(kq, .long)]))) (va_Qi (fun (r : Int32) (f2 : Nat → Int64) => r = nI (k_buy S x0 x1) ∧ (k_buy S x0 x1 = 0 → f2 0 = (r_buy S x0 x1).toInt64)) (fun f2 t => cB dC dI (va_A (cb_w a k S ++ [(q, .inl (kq, (1, .inr (.inl (f)))))]) sz) (cb_w a k (kS (k_buy S x0 x1) (S_buy S x0 x1) S) ++ [(q, .inl (kq, (1, .inr (.inl (f2)))))]) (cb_ty k ++ [(kq, .long)]) t) (va_A (cb_w a k S ++ [(q, .inl (kq, (1, .inr (.inl (f)))))]) sz)) 8 48 (va_A (cb_w a k S ++ [(q, .inl (kq, (1, .inr (.inl (f)))))]) sz) := by
  refine va_MetW (cc := cL_buy) (maxL := 5) (ret := (some .int)) (hh := [(0, 10, 13, 19), (0, 10, 17, 21), (0, 10, 21, 13)]) (by decide) rfl ?_
  intro p e s m args below meth c s₁ B hml hv
  obtain ⟨rfl, ⟨hsz, hP, hK, hD0⟩, hE⟩ := hv
  have hx := B.exec
  have hb := B.bytes
  have hr := B.returns
  have hts := atoms_spec (ws := wsL_buy) B.pre
  have hown : s.vm.findClass RL = some m.cls := findClass_of_methodNamed B.named
  have htb : c.exceptionTable.toList = tableOf [(0, 10, 13, 19), (0, 10, 17, 21), (0, 10, 21, 13)] := vx_table (x := yL_buy) B (hts (.codeWith yL_buy cL_buy 5 (some .int) [(0, 10, 13, 19), (0, 10, 17, 21), (0, 10, 21, 13)]) List.mem_cons_self)
  subst hsz
  have hD := hD0.self (sz := s.heap.size)
  generalize hAe : va_A (cb_w a k S ++ [(q, .inl (kq, (1, .inr (.inl (f)))))]) s.heap.size = A at hD hE ⊢
  have hA : ∀ q : Nat, s.heap.size ≤ q → A q := fun q h => by rw [← hAe]; exact Or.inr h
  have hS : va_S A s.heap s.heap [] := va_S.rf
  obtain ⟨Q, hQ⟩ : ∃ Q, Q = MQ below (va_Qi (fun (r : Int32) (f2 : Nat → Int64) => r = nI (k_buy S x0 x1) ∧ (k_buy S x0 x1 = 0 → f2 0 = (r_buy S x0 x1).toInt64)) (fun f2 t => cB dC dI A (cb_w a k (kS (k_buy S x0 x1) (S_buy S x0 x1) S) ++ [(q, .inl (kq, (1, .inr (.inl (f2)))))]) (cb_ty k ++ [(kq, .long)]) t) A) ([.ref (a 0), .int x0, .int x1, .ref q] : List Value).toArray s 8 48 A := ⟨_, rfl⟩
  show W p l e rm_L_buy s m _ below meth c s.heap [] 0 0 (MQ below _ _ _ _ _ _) _
  rw [← hQ]
  have f_0 := hts (.classLink RL 19 xE_I) (by decide +kernel)
  have f_1 := hts (.classLink RL 21 xE_A) (by decide +kernel)
  have f_2 := hts (.classLink RL 13 xE_S) (by decide +kernel)
  have hl := lv_entry ([.ref (a 0), .int x0, .int x1, .ref q]) (n := 5) (Nat.le_of_ble_eq_true rfl)
  rw [lg_entry_eq]
  generalize (lg_sl ([.ref (a 0), .int x0, .int x1, .ref q]) ++ List.replicate (5 - (lg_sl ([.ref (a 0), .int x0, .int x1, .ref q])).length) Slot.unset).toArray = ls at hl ⊢
  have hl : lv_has ls 5 [(0, .ref (a 0)), (1, .int x0), (2, .int x1), (3, .ref q)] := hl
  refine lv_aload_n hx hb dL_buy_0 rfl (lv_at hl 3 rfl) ?_
  refine lv_iconst (v := nI 0) hx hb dL_buy_1 (by decide) ?_
  refine lv_aload_n hx hb dL_buy_2 rfl (lv_at hl 0 rfl) ?_
  refine lv_iload_n hx hb dL_buy_3 rfl (lv_at hl 1 rfl) ?_
  refine lv_iload_n hx hb dL_buy_4 rfl (lv_at hl 2 rfl) ?_
  have hPc := hP.sub (ws' := (cb_w a k S)) [0, 1, 2, 3, 4, 5, 6, 7, 8, 9, 10, 11, 12, 13, 14, 15, 16, 17, 18, 19] rfl
  have hDc := hD.sub (ws' := (cb_w a k S)) [0, 1, 2, 3, 4, 5, 6, 7, 8, 9, 10, 11, 12, 13, 14, 15, 16, 17, 18, 19] (by decide) rfl
  have hKc := hK.sub (tys' := (cb_ty k)) [0, 1, 2, 3, 4, 5, 6, 7, 8, 9, 10, 11, 12, 13] rfl
  have hF : ∀ q9, va_A (cb_w a k S) s.heap.size q9 → A q9 := va_free hD hS hA [0, 1, 2, 3, 4, 5, 6, 7, 8, 9, 10, 11, 12, 13, 14, 15, 16, 17, 18, 19] rfl
  refine vx_calli (vx_runV (As := [.int x0, .int x1]) (rest := [.int (nI 0), .ref q]) ⟨hx, hb, hml, hown, hts⟩ (c_X5_buy l hl9 dC dI a k S s.heap.size x0 x1 hI) (cwV 2 hts gL_buy_X5_buy rfl rfl rfl (by decide +kernel) ⟨(Nat.le_of_ble_eq_true rfl), (Nat.le_of_ble_eq_true rfl)⟩) ⟨cU_blind, va_recv hKc hPc (ci := 5) (q0 := 0) rfl rfl, fun U hU hW => ⟨rfl, cU_of hKc hPc hDc hE.1 hS hU hW hF⟩⟩ rfl rfl hl.1 rfl (lv_room (Nat.le_of_ble_eq_true rfl)) dL_buy_5 ⟨(Nat.le_of_ble_eq_true rfl), (Nat.le_of_ble_eq_true rfl)⟩) hS (fun q9 _ h => hF q9 h) hF (fun q9 _ h => hF q9 h) (fun E ce q9 u8 t8 H1 L1 ht hvm _ hB hz1 hk1 hS hce hcv hcl => ?_) (fun r9 u8 t8 H1 L1 ht hvm hw hB hz1 hk1 hS => ?_)
  · obtain ⟨hpx9, hB⟩ := hB
    obtain ⟨hP9, -, hD9⟩ := hB
    rw [ht] at hP9
    obtain ⟨hP8, hD8⟩ := va_join (wc := (cb_w a k S)) (wr := [(q, .inl (kq, (1, .inr (.inl (f)))))]) hP hD [0, 1, 2, 3, 4, 5, 6, 7, 8, 9, 10, 11, 12, 13, 14, 15, 16, 17, 18, 19] [20] rfl rfl (by decide) (by decide) hk1 hF hP9 hD9
    have hP : va_P (dC, dI) vwCl (cb_w a k S ++ [(q, .inl (kq, (1, .inr (.inl (f)))))]) H1 := hP8.sub [1, 2, 3, 4, 5, 6, 7, 8, 9, 10, 11, 12, 13, 14, 15, 16, 17, 18, 19, 20, 0] rfl
    have hD : va_D A (cb_w a k S ++ [(q, .inl (kq, (1, .inr (.inl (f)))))]) := hD8.sub [1, 2, 3, 4, 5, 6, 7, 8, 9, 10, 11, 12, 13, 14, 15, 16, 17, 18, 19, 20, 0] (by decide) rfl
    rcases px_3 hpx9 with ⟨hk9, rfl⟩ | ⟨hk9, rfl⟩ | ⟨hk9, rfl⟩
    · refine vx_catch (own := RL) (name := xE_I) (E := xE_I) hown [] (⟨0, 10, 13, 19⟩ : ExceptionTableEntry) [(⟨0, 10, 17, 21⟩ : ExceptionTableEntry), (⟨0, 10, 21, 13⟩ : ExceptionTableEntry)] htb (fun z hz => absurd hz List.not_mem_nil) (by decide) (by decide) f_0 (va_Nw.use rfl (hE.1.2.2.1 (.castable xE_I xE_I) (by decide +kernel))) hce hcv hcl ?_
      refine lv_astore (lv' := [(4, .ref q9), (0, .ref (a 0)), (1, .int x0), (2, .int x1), (3, .ref q)]) hx hb dL_buy_13 hl (by decide) rfl (fun ls hl => ?_)
      refine lv_iconst (v := nI 1) hx hb dL_buy_15 (by decide) ?_
      have ew : (cb_w a k S ++ [(q, .inl (kq, (1, .inr (.inl (f)))))]) = (cb_w a k (kS (k_buy S x0 x1) (S_buy S x0 x1) S) ++ [(q, .inl (kq, (1, .inr (.inl (f)))))]) := by rw [hk9]; rfl
      have hP : va_P (dC, dI) vwCl (cb_w a k (kS (k_buy S x0 x1) (S_buy S x0 x1) S) ++ [(q, .inl (kq, (1, .inr (.inl (f)))))]) H1 := by rw [← ew]; exact hP
      have hD : va_D A (cb_w a k (kS (k_buy S x0 x1) (S_buy S x0 x1) S) ++ [(q, .inl (kq, (1, .inr (.inl (f)))))]) := by rw [← ew]; exact hD
      rw [hQ]
      exact W.iret (v := nI 1) hx hb hr (fun t9 ht9 hW9 => ⟨⟨nI 1, f, rfl, ⟨by rw [hk9], fun h9 => absurd (hk9.symm.trans h9) (by decide)⟩, cB_of hP hK hD ht9 hW9⟩, hS.F ht9⟩) hS.2.2 dL_buy_16
    · refine vx_catch (own := RL) (name := xE_A) (E := xE_A) hown [(⟨0, 10, 13, 19⟩ : ExceptionTableEntry)] (⟨0, 10, 17, 21⟩ : ExceptionTableEntry) [(⟨0, 10, 21, 13⟩ : ExceptionTableEntry)] htb (fun z hz => by cases List.mem_singleton.mp hz; exact Or.inr ⟨by decide, xE_I, f_0, hE.2 (xE_A, xE_I) (by decide +kernel)⟩) (by decide) (by decide) f_1 (va_Nw.use rfl (hE.1.2.2.1 (.castable xE_A xE_A) (by decide +kernel))) hce hcv hcl ?_
      refine lv_astore (lv' := [(4, .ref q9), (0, .ref (a 0)), (1, .int x0), (2, .int x1), (3, .ref q)]) hx hb dL_buy_17 hl (by decide) rfl (fun ls hl => ?_)
      refine lv_iconst (v := nI 2) hx hb dL_buy_19 (by decide) ?_
      have ew : (cb_w a k S ++ [(q, .inl (kq, (1, .inr (.inl (f)))))]) = (cb_w a k (kS (k_buy S x0 x1) (S_buy S x0 x1) S) ++ [(q, .inl (kq, (1, .inr (.inl (f)))))]) := by rw [hk9]; rfl
      have hP : va_P (dC, dI) vwCl (cb_w a k (kS (k_buy S x0 x1) (S_buy S x0 x1) S) ++ [(q, .inl (kq, (1, .inr (.inl (f)))))]) H1 := by rw [← ew]; exact hP
      have hD : va_D A (cb_w a k (kS (k_buy S x0 x1) (S_buy S x0 x1) S) ++ [(q, .inl (kq, (1, .inr (.inl (f)))))]) := by rw [← ew]; exact hD
      rw [hQ]
      exact W.iret (v := nI 2) hx hb hr (fun t9 ht9 hW9 => ⟨⟨nI 2, f, rfl, ⟨by rw [hk9], fun h9 => absurd (hk9.symm.trans h9) (by decide)⟩, cB_of hP hK hD ht9 hW9⟩, hS.F ht9⟩) hS.2.2 dL_buy_20
    · refine vx_catch (own := RL) (name := xE_S) (E := xE_S) hown [(⟨0, 10, 13, 19⟩ : ExceptionTableEntry), (⟨0, 10, 17, 21⟩ : ExceptionTableEntry)] (⟨0, 10, 21, 13⟩ : ExceptionTableEntry) [] htb (fun z hz => by rcases List.mem_cons.mp hz with rfl | hz; exact Or.inr ⟨by decide, xE_I, f_0, hE.2 (xE_S, xE_I) (by decide +kernel)⟩; cases List.mem_singleton.mp hz; exact Or.inr ⟨by decide, xE_A, f_1, hE.2 (xE_S, xE_A) (by decide +kernel)⟩) (by decide) (by decide) f_2 (va_Nw.use rfl (hE.1.2.2.1 (.castable xE_S xE_S) (by decide +kernel))) hce hcv hcl ?_
      refine lv_astore (lv' := [(4, .ref q9), (0, .ref (a 0)), (1, .int x0), (2, .int x1), (3, .ref q)]) hx hb dL_buy_21 hl (by decide) rfl (fun ls hl => ?_)
      refine lv_iconst (v := nI 3) hx hb dL_buy_23 (by decide) ?_
      have ew : (cb_w a k S ++ [(q, .inl (kq, (1, .inr (.inl (f)))))]) = (cb_w a k (kS (k_buy S x0 x1) (S_buy S x0 x1) S) ++ [(q, .inl (kq, (1, .inr (.inl (f)))))]) := by rw [hk9]; rfl
      have hP : va_P (dC, dI) vwCl (cb_w a k (kS (k_buy S x0 x1) (S_buy S x0 x1) S) ++ [(q, .inl (kq, (1, .inr (.inl (f)))))]) H1 := by rw [← ew]; exact hP
      have hD : va_D A (cb_w a k (kS (k_buy S x0 x1) (S_buy S x0 x1) S) ++ [(q, .inl (kq, (1, .inr (.inl (f)))))]) := by rw [← ew]; exact hD
      rw [hQ]
      exact W.iret (v := nI 3) hx hb hr (fun t9 ht9 hW9 => ⟨⟨nI 3, f, rfl, ⟨by rw [hk9], fun h9 => absurd (hk9.symm.trans h9) (by decide)⟩, cB_of hP hK hD ht9 hW9⟩, hS.F ht9⟩) hS.2.2 dL_buy_24
  · skip
    obtain ⟨hP9, -, hD9⟩ := hB
    rw [ht] at hP9
    obtain ⟨hP8, hD8⟩ := va_join (wc := (cb_w a k S)) (wr := [(q, .inl (kq, (1, .inr (.inl (f)))))]) hP hD [0, 1, 2, 3, 4, 5, 6, 7, 8, 9, 10, 11, 12, 13, 14, 15, 16, 17, 18, 19] [20] rfl rfl (by decide) (by decide) hk1 hF hP9 hD9
    have hP : va_P (dC, dI) vwCl (cb_w a k (S_buy S x0 x1) ++ [(q, .inl (kq, (1, .inr (.inl (f)))))]) H1 := hP8.sub [1, 2, 3, 4, 5, 6, 7, 8, 9, 10, 11, 12, 13, 14, 15, 16, 17, 18, 19, 20, 0] rfl
    have hD : va_D A (cb_w a k (S_buy S x0 x1) ++ [(q, .inl (kq, (1, .inr (.inl (f)))))]) := hD8.sub [1, 2, 3, 4, 5, 6, 7, 8, 9, 10, 11, 12, 13, 14, 15, 16, 17, 18, 19, 20, 0] (by decide) rfl
    obtain ⟨hk9, hr9⟩ := hw
    subst hr9
    have hP : va_P (dC, dI) vwCl ((cb_W a k (S_buy S x0 x1) (c_sl (S_buy S x0 x1)) (c_pt (S_buy S x0 x1)) (c_at (S_buy S x0 x1))) ++ [(q, .inl (kq, (1, .inr (.inl (f)))))]) H1 := hP
    have hD : va_D A ((cb_W a k (S_buy S x0 x1) (c_sl (S_buy S x0 x1)) (c_pt (S_buy S x0 x1)) (c_at (S_buy S x0 x1))) ++ [(q, .inl (kq, (1, .inr (.inl (f)))))]) := hD
    refine lv_i2l hx hb dL_buy_8 rfl ?_
    refine cb_last hx hb hK hP hD hS 20 14 (f := f) rfl rfl (j := 0) (by omega) (Nat.le_of_ble_eq_true rfl) dL_buy_9 (fun H locs hP hD hS => ?_)
    have hP : va_P (dC, dI) vwCl ((cb_W a k (S_buy S x0 x1) (c_sl (S_buy S x0 x1)) (c_pt (S_buy S x0 x1)) (c_at (S_buy S x0 x1))) ++ [(q, .inl (kq, (1, .inr (.inl (vp_updL f 0 ((r_buy S x0 x1).toInt64))))))]) H := hP
    have hD : va_D A ((cb_W a k (S_buy S x0 x1) (c_sl (S_buy S x0 x1)) (c_pt (S_buy S x0 x1)) (c_at (S_buy S x0 x1))) ++ [(q, .inl (kq, (1, .inr (.inl (vp_updL f 0 ((r_buy S x0 x1).toInt64))))))]) := hD
    refine lv_goto (tgt := 25) hx hb dL_buy_10 (by decide) ?_
    refine lv_iconst (v := nI 0) hx hb dL_buy_25 (by decide) ?_
    have ew : ((cb_W a k (S_buy S x0 x1) (c_sl (S_buy S x0 x1)) (c_pt (S_buy S x0 x1)) (c_at (S_buy S x0 x1))) ++ [(q, .inl (kq, (1, .inr (.inl (vp_updL f 0 ((r_buy S x0 x1).toInt64))))))]) = (cb_w a k (kS (k_buy S x0 x1) (S_buy S x0 x1) S) ++ [(q, .inl (kq, (1, .inr (.inl (vp_updL f 0 ((r_buy S x0 x1).toInt64))))))]) := by rw [hk9]; rfl
    have hP : va_P (dC, dI) vwCl (cb_w a k (kS (k_buy S x0 x1) (S_buy S x0 x1) S) ++ [(q, .inl (kq, (1, .inr (.inl (vp_updL f 0 ((r_buy S x0 x1).toInt64))))))]) H := by rw [← ew]; exact hP
    have hD : va_D A (cb_w a k (kS (k_buy S x0 x1) (S_buy S x0 x1) S) ++ [(q, .inl (kq, (1, .inr (.inl (vp_updL f 0 ((r_buy S x0 x1).toInt64))))))]) := by rw [← ew]; exact hD
    rw [hQ]
    exact W.iret (v := nI 0) hx hb hr (fun t9 ht9 hW9 => ⟨⟨nI 0, (vp_updL f 0 ((r_buy S x0 x1).toInt64)), rfl, ⟨by rw [hk9], fun _ => pk_uLs⟩, cB_of hP hK hD ht9 hW9⟩, hS.F ht9⟩) hS.2.2 dL_buy_26
abbrev rm_L_store : Room := { frames := 8, cells := 8, slots := 48, locals := 132 }
set_option maxHeartbeats 4000000 in
set_option maxRecDepth 100000 in
theorem c_L_store (l : Launch) (hl9 : l.stackTraces = false) (dC : Nat → ClassId) (dI : Nat → Nat → Nat) (a : Nat → Nat) (k : Nat → ClassId) (S : cs_S) (q : Nat) (kq : ClassId) (f : Nat → Int64) (sz : Nat) (x0 : Int32) (hI : Inv S) : Met l yL_store wsL_store rm_L_store (va_Pc [.ref (a 0), .int x0, .ref q] (cV dC dI sz (cb_w a k S ++ [(q, .inl (kq, (1, .inr (.inl (f)))))]) (cb_ty k ++ [(kq, .long)]))) (va_Qi (fun (r : Int32) (f2 : Nat → Int64) => r = nI (k_store S x0) ∧ (k_store S x0 = 0 → f2 0 = (r_store S x0).toInt64)) (fun f2 t => cB dC dI (va_A (cb_w a k S ++ [(q, .inl (kq, (1, .inr (.inl (f)))))]) sz) (cb_w a k S ++ [(q, .inl (kq, (1, .inr (.inl (f2)))))]) (cb_ty k ++ [(kq, .long)]) t) (va_A (cb_w a k S ++ [(q, .inl (kq, (1, .inr (.inl (f)))))]) sz)) 8 48 (va_A (cb_w a k S ++ [(q, .inl (kq, (1, .inr (.inl (f)))))]) sz) := by
  refine va_MetW (cc := cL_store) (maxL := 4) (ret := (some .int)) (hh := [(0, 9, 12, 19)]) (by decide) rfl ?_
  intro p e s m args below meth c s₁ B hml hv
  obtain ⟨rfl, ⟨hsz, hP, hK, hD0⟩, hE⟩ := hv
  have hx := B.exec
  have hb := B.bytes
  have hr := B.returns
  have hts := atoms_spec (ws := wsL_store) B.pre
  have hown : s.vm.findClass RL = some m.cls := findClass_of_methodNamed B.named
  have htb : c.exceptionTable.toList = tableOf [(0, 9, 12, 19)] := vx_table (x := yL_store) B (hts (.codeWith yL_store cL_store 4 (some .int) [(0, 9, 12, 19)]) List.mem_cons_self)
  subst hsz
  have hD := hD0.self (sz := s.heap.size)
  generalize hAe : va_A (cb_w a k S ++ [(q, .inl (kq, (1, .inr (.inl (f)))))]) s.heap.size = A at hD hE ⊢
  have hA : ∀ q : Nat, s.heap.size ≤ q → A q := fun q h => by rw [← hAe]; exact Or.inr h
  have hS : va_S A s.heap s.heap [] := va_S.rf
  obtain ⟨Q, hQ⟩ : ∃ Q, Q = MQ below (va_Qi (fun (r : Int32) (f2 : Nat → Int64) => r = nI (k_store S x0) ∧ (k_store S x0 = 0 → f2 0 = (r_store S x0).toInt64)) (fun f2 t => cB dC dI A (cb_w a k S ++ [(q, .inl (kq, (1, .inr (.inl (f2)))))]) (cb_ty k ++ [(kq, .long)]) t) A) ([.ref (a 0), .int x0, .ref q] : List Value).toArray s 8 48 A := ⟨_, rfl⟩
  show W p l e rm_L_store s m _ below meth c s.heap [] 0 0 (MQ below _ _ _ _ _ _) _
  rw [← hQ]
  have f_0 := hts (.classLink RL 19 xE_I) (by decide +kernel)
  have hl := lv_entry ([.ref (a 0), .int x0, .ref q]) (n := 4) (Nat.le_of_ble_eq_true rfl)
  rw [lg_entry_eq]
  generalize (lg_sl ([.ref (a 0), .int x0, .ref q]) ++ List.replicate (4 - (lg_sl ([.ref (a 0), .int x0, .ref q])).length) Slot.unset).toArray = ls at hl ⊢
  have hl : lv_has ls 4 [(0, .ref (a 0)), (1, .int x0), (2, .ref q)] := hl
  refine lv_aload_n hx hb dL_store_0 rfl (lv_at hl 2 rfl) ?_
  refine lv_iconst (v := nI 0) hx hb dL_store_1 (by decide) ?_
  refine lv_aload_n hx hb dL_store_2 rfl (lv_at hl 0 rfl) ?_
  refine lv_iload_n hx hb dL_store_3 rfl (lv_at hl 1 rfl) ?_
  have hPc := hP.sub (ws' := (cb_w a k S)) [0, 1, 2, 3, 4, 5, 6, 7, 8, 9, 10, 11, 12, 13, 14, 15, 16, 17, 18, 19] rfl
  have hDc := hD.sub (ws' := (cb_w a k S)) [0, 1, 2, 3, 4, 5, 6, 7, 8, 9, 10, 11, 12, 13, 14, 15, 16, 17, 18, 19] (by decide) rfl
  have hKc := hK.sub (tys' := (cb_ty k)) [0, 1, 2, 3, 4, 5, 6, 7, 8, 9, 10, 11, 12, 13] rfl
  have hF : ∀ q9, va_A (cb_w a k S) s.heap.size q9 → A q9 := va_free hD hS hA [0, 1, 2, 3, 4, 5, 6, 7, 8, 9, 10, 11, 12, 13, 14, 15, 16, 17, 18, 19] rfl
  refine vx_calli (vx_runV (As := [.int x0]) (rest := [.int (nI 0), .ref q]) ⟨hx, hb, hml, hown, hts⟩ (c_X5_store l hl9 dC dI a k S s.heap.size x0 hI) (cwV 1 hts gL_store_X5_store rfl rfl rfl (by decide +kernel) ⟨(Nat.le_of_ble_eq_true rfl), (Nat.le_of_ble_eq_true rfl)⟩) ⟨cU_blind, va_recv hKc hPc (ci := 5) (q0 := 0) rfl rfl, fun U hU hW => ⟨rfl, cU_of hKc hPc hDc hE.1 hS hU hW hF⟩⟩ rfl rfl hl.1 rfl (lv_room (Nat.le_of_ble_eq_true rfl)) dL_store_4 ⟨(Nat.le_of_ble_eq_true rfl), (Nat.le_of_ble_eq_true rfl)⟩) hS (fun q9 _ h => hF q9 h) hF (fun q9 _ h => hF q9 h) (fun E ce q9 u8 t8 H1 L1 ht hvm _ hB hz1 hk1 hS hce hcv hcl => ?_) (fun r9 u8 t8 H1 L1 ht hvm hw hB hz1 hk1 hS => ?_)
  · obtain ⟨hpx9, hB⟩ := hB
    obtain ⟨hP9, -, hD9⟩ := hB
    rw [ht] at hP9
    obtain ⟨hP8, hD8⟩ := va_join (wc := (cb_w a k S)) (wr := [(q, .inl (kq, (1, .inr (.inl (f)))))]) hP hD [0, 1, 2, 3, 4, 5, 6, 7, 8, 9, 10, 11, 12, 13, 14, 15, 16, 17, 18, 19] [20] rfl rfl (by decide) (by decide) hk1 hF hP9 hD9
    have hP : va_P (dC, dI) vwCl (cb_w a k S ++ [(q, .inl (kq, (1, .inr (.inl (f)))))]) H1 := hP8.sub [1, 2, 3, 4, 5, 6, 7, 8, 9, 10, 11, 12, 13, 14, 15, 16, 17, 18, 19, 20, 0] rfl
    have hD : va_D A (cb_w a k S ++ [(q, .inl (kq, (1, .inr (.inl (f)))))]) := hD8.sub [1, 2, 3, 4, 5, 6, 7, 8, 9, 10, 11, 12, 13, 14, 15, 16, 17, 18, 19, 20, 0] (by decide) rfl
    obtain ⟨hk9, rfl⟩ := px_1 hpx9
    refine vx_catch (own := RL) (name := xE_I) (E := xE_I) hown [] (⟨0, 9, 12, 19⟩ : ExceptionTableEntry) [] htb (fun z hz => absurd hz List.not_mem_nil) (by decide) (by decide) f_0 (va_Nw.use rfl (hE.1.2.2.1 (.castable xE_I xE_I) (by decide +kernel))) hce hcv hcl ?_
    refine lv_astore_n (lv' := [(3, .ref q9), (0, .ref (a 0)), (1, .int x0), (2, .ref q)]) hx hb dL_store_12 rfl hl (by decide) rfl (fun ls hl => ?_)
    refine lv_iconst (v := nI 1) hx hb dL_store_13 (by decide) ?_
    skip
    rw [hQ]
    exact W.iret (v := nI 1) hx hb hr (fun t9 ht9 hW9 => ⟨⟨nI 1, f, rfl, ⟨by rw [hk9], fun h9 => absurd (hk9.symm.trans h9) (by decide)⟩, cB_of hP hK hD ht9 hW9⟩, hS.F ht9⟩) hS.2.2 dL_store_14
  · skip
    obtain ⟨hP9, -, hD9⟩ := hB
    rw [ht] at hP9
    obtain ⟨hP8, hD8⟩ := va_join (wc := (cb_w a k S)) (wr := [(q, .inl (kq, (1, .inr (.inl (f)))))]) hP hD [0, 1, 2, 3, 4, 5, 6, 7, 8, 9, 10, 11, 12, 13, 14, 15, 16, 17, 18, 19] [20] rfl rfl (by decide) (by decide) hk1 hF hP9 hD9
    have hP : va_P (dC, dI) vwCl (cb_w a k S ++ [(q, .inl (kq, (1, .inr (.inl (f)))))]) H1 := hP8.sub [1, 2, 3, 4, 5, 6, 7, 8, 9, 10, 11, 12, 13, 14, 15, 16, 17, 18, 19, 20, 0] rfl
    have hD : va_D A (cb_w a k S ++ [(q, .inl (kq, (1, .inr (.inl (f)))))]) := hD8.sub [1, 2, 3, 4, 5, 6, 7, 8, 9, 10, 11, 12, 13, 14, 15, 16, 17, 18, 19, 20, 0] (by decide) rfl
    obtain ⟨hk9, hr9⟩ := hw
    subst hr9
    have hP : va_P (dC, dI) vwCl ((cb_W a k S (c_sl S) (c_pt S) (c_at S)) ++ [(q, .inl (kq, (1, .inr (.inl (f)))))]) H1 := hP
    have hD : va_D A ((cb_W a k S (c_sl S) (c_pt S) (c_at S)) ++ [(q, .inl (kq, (1, .inr (.inl (f)))))]) := hD
    refine lv_i2l hx hb dL_store_7 rfl ?_
    refine cb_last hx hb hK hP hD hS 20 14 (f := f) rfl rfl (j := 0) (by omega) (Nat.le_of_ble_eq_true rfl) dL_store_8 (fun H locs hP hD hS => ?_)
    have hP : va_P (dC, dI) vwCl ((cb_W a k S (c_sl S) (c_pt S) (c_at S)) ++ [(q, .inl (kq, (1, .inr (.inl (vp_updL f 0 ((r_store S x0).toInt64))))))]) H := hP
    have hD : va_D A ((cb_W a k S (c_sl S) (c_pt S) (c_at S)) ++ [(q, .inl (kq, (1, .inr (.inl (vp_updL f 0 ((r_store S x0).toInt64))))))]) := hD
    refine lv_goto (tgt := 15) hx hb dL_store_9 (by decide) ?_
    refine lv_iconst (v := nI 0) hx hb dL_store_15 (by decide) ?_
    have ew : ((cb_W a k S (c_sl S) (c_pt S) (c_at S)) ++ [(q, .inl (kq, (1, .inr (.inl (vp_updL f 0 ((r_store S x0).toInt64))))))]) = (cb_w a k S ++ [(q, .inl (kq, (1, .inr (.inl (vp_updL f 0 ((r_store S x0).toInt64))))))]) := rfl
    have hP : va_P (dC, dI) vwCl (cb_w a k S ++ [(q, .inl (kq, (1, .inr (.inl (vp_updL f 0 ((r_store S x0).toInt64))))))]) H := by rw [← ew]; exact hP
    have hD : va_D A (cb_w a k S ++ [(q, .inl (kq, (1, .inr (.inl (vp_updL f 0 ((r_store S x0).toInt64))))))]) := by rw [← ew]; exact hD
    rw [hQ]
    exact W.iret (v := nI 0) hx hb hr (fun t9 ht9 hW9 => ⟨⟨nI 0, (vp_updL f 0 ((r_store S x0).toInt64)), rfl, ⟨by rw [hk9], fun _ => pk_uLs⟩, cB_of hP hK hD ht9 hW9⟩, hS.F ht9⟩) hS.2.2 dL_store_16
abbrev rm_L_diet : Room := { frames := 8, cells := 8, slots := 48, locals := 136 }
set_option maxHeartbeats 4000000 in
set_option maxRecDepth 100000 in
theorem c_L_diet (l : Launch) (hl9 : l.stackTraces = false) (dC : Nat → ClassId) (dI : Nat → Nat → Nat) (a : Nat → Nat) (k : Nat → ClassId) (S : cs_S) (q : Nat) (kq : ClassId) (f : Nat → Int64) (sz : Nat) (x0 : Int32) (x1 : Int32) (b9 : Bool) (hI : Inv S) : Met l yL_diet wsL_diet rm_L_diet (va_Pc [.ref (a 0), .int x0, .int x1, .int (bI b9), .ref q] (cV dC dI sz (cb_w a k S ++ [(q, .inl (kq, (1, .inr (.inl (f)))))]) (cb_ty k ++ [(kq, .long)]))) (va_Qi (fun (r : Int32) (f2 : Nat → Int64) => r = nI (k_diet S x0 x1) ∧ (k_diet S x0 x1 = 0 → f2 0 = (bI (r_diet S x0 x1)).toInt64)) (fun f2 t => cB dC dI (va_A (cb_w a k S ++ [(q, .inl (kq, (1, .inr (.inl (f)))))]) sz) (cb_w a k (kS (k_diet S x0 x1) (S_diet S x0 x1 b9) S) ++ [(q, .inl (kq, (1, .inr (.inl (f2)))))]) (cb_ty k ++ [(kq, .long)]) t) (va_A (cb_w a k S ++ [(q, .inl (kq, (1, .inr (.inl (f)))))]) sz)) 8 48 (va_A (cb_w a k S ++ [(q, .inl (kq, (1, .inr (.inl (f)))))]) sz) := by
  refine va_MetW (cc := cL_diet) (maxL := 6) (ret := (some .int)) (hh := [(0, 19, 22, 19)]) (by decide) rfl ?_
  intro p e s m args below meth c s₁ B hml hv
  obtain ⟨rfl, ⟨hsz, hP, hK, hD0⟩, hE⟩ := hv
  have hx := B.exec
  have hb := B.bytes
  have hr := B.returns
  have hts := atoms_spec (ws := wsL_diet) B.pre
  have hown : s.vm.findClass RL = some m.cls := findClass_of_methodNamed B.named
  have htb : c.exceptionTable.toList = tableOf [(0, 19, 22, 19)] := vx_table (x := yL_diet) B (hts (.codeWith yL_diet cL_diet 6 (some .int) [(0, 19, 22, 19)]) List.mem_cons_self)
  subst hsz
  have hD := hD0.self (sz := s.heap.size)
  generalize hAe : va_A (cb_w a k S ++ [(q, .inl (kq, (1, .inr (.inl (f)))))]) s.heap.size = A at hD hE ⊢
  have hA : ∀ q : Nat, s.heap.size ≤ q → A q := fun q h => by rw [← hAe]; exact Or.inr h
  have hS : va_S A s.heap s.heap [] := va_S.rf
  obtain ⟨Q, hQ⟩ : ∃ Q, Q = MQ below (va_Qi (fun (r : Int32) (f2 : Nat → Int64) => r = nI (k_diet S x0 x1) ∧ (k_diet S x0 x1 = 0 → f2 0 = (bI (r_diet S x0 x1)).toInt64)) (fun f2 t => cB dC dI A (cb_w a k (kS (k_diet S x0 x1) (S_diet S x0 x1 b9) S) ++ [(q, .inl (kq, (1, .inr (.inl (f2)))))]) (cb_ty k ++ [(kq, .long)]) t) A) ([.ref (a 0), .int x0, .int x1, .int (bI b9), .ref q] : List Value).toArray s 8 48 A := ⟨_, rfl⟩
  show W p l e rm_L_diet s m _ below meth c s.heap [] 0 0 (MQ below _ _ _ _ _ _) _
  rw [← hQ]
  have f_0 := hts (.classLink RL 19 xE_I) (by decide +kernel)
  have hl := lv_entry ([.ref (a 0), .int x0, .int x1, .int (bI b9), .ref q]) (n := 6) (Nat.le_of_ble_eq_true rfl)
  rw [lg_entry_eq]
  generalize (lg_sl ([.ref (a 0), .int x0, .int x1, .int (bI b9), .ref q]) ++ List.replicate (6 - (lg_sl ([.ref (a 0), .int x0, .int x1, .int (bI b9), .ref q])).length) Slot.unset).toArray = ls at hl ⊢
  have hl : lv_has ls 6 [(0, .ref (a 0)), (1, .int x0), (2, .int x1), (3, .int (bI b9)), (4, .ref q)] := hl
  refine lv_aload hx hb dL_diet_0 (lv_at hl 4 rfl) ?_
  refine lv_iconst (v := nI 0) hx hb dL_diet_2 (by decide) ?_
  refine lv_aload_n hx hb dL_diet_3 rfl (lv_at hl 0 rfl) ?_
  refine lv_iload_n hx hb dL_diet_4 rfl (lv_at hl 1 rfl) ?_
  refine lv_iload_n hx hb dL_diet_5 rfl (lv_at hl 2 rfl) ?_
  refine lv_iload_n hx hb dL_diet_6 rfl (lv_at hl 3 rfl) ?_
  have hPc := hP.sub (ws' := (cb_w a k S)) [0, 1, 2, 3, 4, 5, 6, 7, 8, 9, 10, 11, 12, 13, 14, 15, 16, 17, 18, 19] rfl
  have hDc := hD.sub (ws' := (cb_w a k S)) [0, 1, 2, 3, 4, 5, 6, 7, 8, 9, 10, 11, 12, 13, 14, 15, 16, 17, 18, 19] (by decide) rfl
  have hKc := hK.sub (tys' := (cb_ty k)) [0, 1, 2, 3, 4, 5, 6, 7, 8, 9, 10, 11, 12, 13] rfl
  have hF : ∀ q9, va_A (cb_w a k S) s.heap.size q9 → A q9 := va_free hD hS hA [0, 1, 2, 3, 4, 5, 6, 7, 8, 9, 10, 11, 12, 13, 14, 15, 16, 17, 18, 19] rfl
  refine vx_calli (vx_runV (As := [.int x0, .int x1, .int (bI b9)]) (rest := [.int (nI 0), .ref q]) ⟨hx, hb, hml, hown, hts⟩ (c_X5_diet l hl9 dC dI a k S s.heap.size x0 x1 b9 hI) (cwV 3 hts gL_diet_X5_diet rfl rfl rfl (by decide +kernel) ⟨(Nat.le_of_ble_eq_true rfl), (Nat.le_of_ble_eq_true rfl)⟩) ⟨cU_blind, va_recv hKc hPc (ci := 5) (q0 := 0) rfl rfl, fun U hU hW => ⟨rfl, cU_of hKc hPc hDc hE.1 hS hU hW hF⟩⟩ rfl rfl hl.1 rfl (lv_room (Nat.le_of_ble_eq_true rfl)) dL_diet_7 ⟨(Nat.le_of_ble_eq_true rfl), (Nat.le_of_ble_eq_true rfl)⟩) hS (fun q9 _ h => hF q9 h) hF (fun q9 _ h => hF q9 h) (fun E ce q9 u8 t8 H1 L1 ht hvm _ hB hz1 hk1 hS hce hcv hcl => ?_) (fun r9 u8 t8 H1 L1 ht hvm hw hB hz1 hk1 hS => ?_)
  · obtain ⟨hpx9, hB⟩ := hB
    obtain ⟨hP9, -, hD9⟩ := hB
    rw [ht] at hP9
    obtain ⟨hP8, hD8⟩ := va_join (wc := (cb_w a k S)) (wr := [(q, .inl (kq, (1, .inr (.inl (f)))))]) hP hD [0, 1, 2, 3, 4, 5, 6, 7, 8, 9, 10, 11, 12, 13, 14, 15, 16, 17, 18, 19] [20] rfl rfl (by decide) (by decide) hk1 hF hP9 hD9
    have hP : va_P (dC, dI) vwCl (cb_w a k S ++ [(q, .inl (kq, (1, .inr (.inl (f)))))]) H1 := hP8.sub [1, 2, 3, 4, 5, 6, 7, 8, 9, 10, 11, 12, 13, 14, 15, 16, 17, 18, 19, 20, 0] rfl
    have hD : va_D A (cb_w a k S ++ [(q, .inl (kq, (1, .inr (.inl (f)))))]) := hD8.sub [1, 2, 3, 4, 5, 6, 7, 8, 9, 10, 11, 12, 13, 14, 15, 16, 17, 18, 19, 20, 0] (by decide) rfl
    obtain ⟨hk9, rfl⟩ := px_1 hpx9
    refine vx_catch (own := RL) (name := xE_I) (E := xE_I) hown [] (⟨0, 19, 22, 19⟩ : ExceptionTableEntry) [] htb (fun z hz => absurd hz List.not_mem_nil) (by decide) (by decide) f_0 (va_Nw.use rfl (hE.1.2.2.1 (.castable xE_I xE_I) (by decide +kernel))) hce hcv hcl ?_
    refine lv_astore (lv' := [(5, .ref q9), (0, .ref (a 0)), (1, .int x0), (2, .int x1), (3, .int (bI b9)), (4, .ref q)]) hx hb dL_diet_22 hl (by decide) rfl (fun ls hl => ?_)
    refine lv_iconst (v := nI 1) hx hb dL_diet_24 (by decide) ?_
    have ew : (cb_w a k S ++ [(q, .inl (kq, (1, .inr (.inl (f)))))]) = (cb_w a k (kS (k_diet S x0 x1) (S_diet S x0 x1 b9) S) ++ [(q, .inl (kq, (1, .inr (.inl (f)))))]) := by rw [hk9]; rfl
    have hP : va_P (dC, dI) vwCl (cb_w a k (kS (k_diet S x0 x1) (S_diet S x0 x1 b9) S) ++ [(q, .inl (kq, (1, .inr (.inl (f)))))]) H1 := by rw [← ew]; exact hP
    have hD : va_D A (cb_w a k (kS (k_diet S x0 x1) (S_diet S x0 x1 b9) S) ++ [(q, .inl (kq, (1, .inr (.inl (f)))))]) := by rw [← ew]; exact hD
    rw [hQ]
    exact W.iret (v := nI 1) hx hb hr (fun t9 ht9 hW9 => ⟨⟨nI 1, f, rfl, ⟨by rw [hk9], fun h9 => absurd (hk9.symm.trans h9) (by decide)⟩, cB_of hP hK hD ht9 hW9⟩, hS.F ht9⟩) hS.2.2 dL_diet_25
  · skip
    obtain ⟨hP9, -, hD9⟩ := hB
    rw [ht] at hP9
    obtain ⟨hP8, hD8⟩ := va_join (wc := (cb_w a k S)) (wr := [(q, .inl (kq, (1, .inr (.inl (f)))))]) hP hD [0, 1, 2, 3, 4, 5, 6, 7, 8, 9, 10, 11, 12, 13, 14, 15, 16, 17, 18, 19] [20] rfl rfl (by decide) (by decide) hk1 hF hP9 hD9
    have hP : va_P (dC, dI) vwCl (cb_w a k (S_diet S x0 x1 b9) ++ [(q, .inl (kq, (1, .inr (.inl (f)))))]) H1 := hP8.sub [1, 2, 3, 4, 5, 6, 7, 8, 9, 10, 11, 12, 13, 14, 15, 16, 17, 18, 19, 20, 0] rfl
    have hD : va_D A (cb_w a k (S_diet S x0 x1 b9) ++ [(q, .inl (kq, (1, .inr (.inl (f)))))]) := hD8.sub [1, 2, 3, 4, 5, 6, 7, 8, 9, 10, 11, 12, 13, 14, 15, 16, 17, 18, 19, 20, 0] (by decide) rfl
    obtain ⟨hk9, hr9⟩ := hw
    subst hr9
    have hP : va_P (dC, dI) vwCl ((cb_W a k (S_diet S x0 x1 b9) (c_sl (S_diet S x0 x1 b9)) (c_pt (S_diet S x0 x1 b9)) (c_at (S_diet S x0 x1 b9))) ++ [(q, .inl (kq, (1, .inr (.inl (f)))))]) H1 := hP
    have hD : va_D A ((cb_W a k (S_diet S x0 x1 b9) (c_sl (S_diet S x0 x1 b9)) (c_pt (S_diet S x0 x1 b9)) (c_at (S_diet S x0 x1 b9))) ++ [(q, .inl (kq, (1, .inr (.inl (f)))))]) := hD
    refine lv_if_eq (tgt := 17) hx hb dL_diet_10 (by decide) (fun c_10 => ?_) (fun c_10 => ?_)
    · have c_10 : (r_diet S x0 x1) = false := bI_0 c_10
      refine lv_lconst (v := lN 0) hx hb dL_diet_17 rfl ?_
      refine cb_last hx hb hK hP hD hS 20 14 (f := f) rfl rfl (j := 0) (by omega) (Nat.le_of_ble_eq_true rfl) dL_diet_18 (fun H locs hP hD hS => ?_)
      have hP : va_P (dC, dI) vwCl ((cb_W a k (S_diet S x0 x1 b9) (c_sl (S_diet S x0 x1 b9)) (c_pt (S_diet S x0 x1 b9)) (c_at (S_diet S x0 x1 b9))) ++ [(q, .inl (kq, (1, .inr (.inl (vp_updL f 0 (lN 0))))))]) H := hP
      have hD : va_D A ((cb_W a k (S_diet S x0 x1 b9) (c_sl (S_diet S x0 x1 b9)) (c_pt (S_diet S x0 x1 b9)) (c_at (S_diet S x0 x1 b9))) ++ [(q, .inl (kq, (1, .inr (.inl (vp_updL f 0 (lN 0))))))]) := hD
      refine lv_goto (tgt := 26) hx hb dL_diet_19 (by decide) ?_
      refine lv_iconst (v := nI 0) hx hb dL_diet_26 (by decide) ?_
      have ew : ((cb_W a k (S_diet S x0 x1 b9) (c_sl (S_diet S x0 x1 b9)) (c_pt (S_diet S x0 x1 b9)) (c_at (S_diet S x0 x1 b9))) ++ [(q, .inl (kq, (1, .inr (.inl (vp_updL f 0 (lN 0))))))]) = (cb_w a k (kS (k_diet S x0 x1) (S_diet S x0 x1 b9) S) ++ [(q, .inl (kq, (1, .inr (.inl (vp_updL f 0 (lN 0))))))]) := by rw [hk9]; rfl
      have hP : va_P (dC, dI) vwCl (cb_w a k (kS (k_diet S x0 x1) (S_diet S x0 x1 b9) S) ++ [(q, .inl (kq, (1, .inr (.inl (vp_updL f 0 (lN 0))))))]) H := by rw [← ew]; exact hP
      have hD : va_D A (cb_w a k (kS (k_diet S x0 x1) (S_diet S x0 x1 b9) S) ++ [(q, .inl (kq, (1, .inr (.inl (vp_updL f 0 (lN 0))))))]) := by rw [← ew]; exact hD
      rw [hQ]
      exact W.iret (v := nI 0) hx hb hr (fun t9 ht9 hW9 => ⟨⟨nI 0, (vp_updL f 0 (lN 0)), rfl, ⟨by rw [hk9], fun _ => (pk_uLs.trans (by rw [c_10]; rfl))⟩, cB_of hP hK hD ht9 hW9⟩, hS.F ht9⟩) hS.2.2 dL_diet_27
    · have c_10 : (r_diet S x0 x1) = true := bI_n c_10
      refine lv_lconst (v := lN 1) hx hb dL_diet_13 rfl ?_
      refine lv_goto (tgt := 18) hx hb dL_diet_14 (by decide) ?_
      refine cb_last hx hb hK hP hD hS 20 14 (f := f) rfl rfl (j := 0) (by omega) (Nat.le_of_ble_eq_true rfl) dL_diet_18 (fun H locs hP hD hS => ?_)
      have hP : va_P (dC, dI) vwCl ((cb_W a k (S_diet S x0 x1 b9) (c_sl (S_diet S x0 x1 b9)) (c_pt (S_diet S x0 x1 b9)) (c_at (S_diet S x0 x1 b9))) ++ [(q, .inl (kq, (1, .inr (.inl (vp_updL f 0 (lN 1))))))]) H := hP
      have hD : va_D A ((cb_W a k (S_diet S x0 x1 b9) (c_sl (S_diet S x0 x1 b9)) (c_pt (S_diet S x0 x1 b9)) (c_at (S_diet S x0 x1 b9))) ++ [(q, .inl (kq, (1, .inr (.inl (vp_updL f 0 (lN 1))))))]) := hD
      refine lv_goto (tgt := 26) hx hb dL_diet_19 (by decide) ?_
      refine lv_iconst (v := nI 0) hx hb dL_diet_26 (by decide) ?_
      have ew : ((cb_W a k (S_diet S x0 x1 b9) (c_sl (S_diet S x0 x1 b9)) (c_pt (S_diet S x0 x1 b9)) (c_at (S_diet S x0 x1 b9))) ++ [(q, .inl (kq, (1, .inr (.inl (vp_updL f 0 (lN 1))))))]) = (cb_w a k (kS (k_diet S x0 x1) (S_diet S x0 x1 b9) S) ++ [(q, .inl (kq, (1, .inr (.inl (vp_updL f 0 (lN 1))))))]) := by rw [hk9]; rfl
      have hP : va_P (dC, dI) vwCl (cb_w a k (kS (k_diet S x0 x1) (S_diet S x0 x1 b9) S) ++ [(q, .inl (kq, (1, .inr (.inl (vp_updL f 0 (lN 1))))))]) H := by rw [← ew]; exact hP
      have hD : va_D A (cb_w a k (kS (k_diet S x0 x1) (S_diet S x0 x1 b9) S) ++ [(q, .inl (kq, (1, .inr (.inl (vp_updL f 0 (lN 1))))))]) := by rw [← ew]; exact hD
      rw [hQ]
      exact W.iret (v := nI 0) hx hb hr (fun t9 ht9 hW9 => ⟨⟨nI 0, (vp_updL f 0 (lN 1)), rfl, ⟨by rw [hk9], fun _ => (pk_uLs.trans (by rw [c_10]; rfl))⟩, cB_of hP hK hD ht9 hW9⟩, hS.F ht9⟩) hS.2.2 dL_diet_27
end CBW1
