section CBW2
abbrev rm_L_addMeal : Room := { frames := 7, cells := 8, slots := 48, locals := 110 }
set_option maxHeartbeats 4000000 in
set_option maxRecDepth 100000 in
theorem c_L_addMeal (l : Launch) (hl9 : l.stackTraces = false) (dC : Nat → ClassId) (dI : Nat → Nat → Nat) (a : Nat → Nat) (k : Nat → ClassId) (S : cs_S) (q : Nat) (kq : ClassId) (f : Nat → Int64) (sz : Nat)  (hI : Inv S) : Met l yL_addMeal wsL_addMeal rm_L_addMeal (va_Pc [.ref (a 0), .ref q] (cV dC dI sz (cb_w a k S ++ [(q, .inl (kq, (1, .inr (.inl (f)))))]) (cb_ty k ++ [(kq, .long)]))) (va_Qi (fun (r : Int32) (f2 : Nat → Int64) => r = nI (k_addMeal S) ∧ (k_addMeal S = 0 → f2 0 = (nI (c_nm S)).toInt64)) (fun f2 t => cB dC dI (va_A (cb_w a k S ++ [(q, .inl (kq, (1, .inr (.inl (f)))))]) sz) (cb_w a k (kS (k_addMeal S) (S_addMeal S) S) ++ [(q, .inl (kq, (1, .inr (.inl (f2)))))]) (cb_ty k ++ [(kq, .long)]) t) (va_A (cb_w a k S ++ [(q, .inl (kq, (1, .inr (.inl (f)))))]) sz)) 8 48 (va_A (cb_w a k S ++ [(q, .inl (kq, (1, .inr (.inl (f)))))]) sz) := by
  refine va_MetW (cc := cL_addMeal) (maxL := 3) (ret := (some .int)) (hh := [(0, 8, 11, 13)]) (by decide) rfl ?_
  intro p e s m args below meth c s₁ B hml hv
  obtain ⟨rfl, ⟨hsz, hP, hK, hD0⟩, hE⟩ := hv
  have hx := B.exec
  have hb := B.bytes
  have hr := B.returns
  have hts := atoms_spec (ws := wsL_addMeal) B.pre
  have hown : s.vm.findClass RL = some m.cls := findClass_of_methodNamed B.named
  have htb : c.exceptionTable.toList = tableOf [(0, 8, 11, 13)] := vx_table (x := yL_addMeal) B (hts (.codeWith yL_addMeal cL_addMeal 3 (some .int) [(0, 8, 11, 13)]) List.mem_cons_self)
  subst hsz
  have hD := hD0.self (sz := s.heap.size)
  generalize hAe : va_A (cb_w a k S ++ [(q, .inl (kq, (1, .inr (.inl (f)))))]) s.heap.size = A at hD hE ⊢
  have hA : ∀ q : Nat, s.heap.size ≤ q → A q := fun q h => by rw [← hAe]; exact Or.inr h
  have hS : va_S A s.heap s.heap [] := va_S.rf
  obtain ⟨Q, hQ⟩ : ∃ Q, Q = MQ below (va_Qi (fun (r : Int32) (f2 : Nat → Int64) => r = nI (k_addMeal S) ∧ (k_addMeal S = 0 → f2 0 = (nI (c_nm S)).toInt64)) (fun f2 t => cB dC dI A (cb_w a k (kS (k_addMeal S) (S_addMeal S) S) ++ [(q, .inl (kq, (1, .inr (.inl (f2)))))]) (cb_ty k ++ [(kq, .long)]) t) A) ([.ref (a 0), .ref q] : List Value).toArray s 8 48 A := ⟨_, rfl⟩
  show W p l e rm_L_addMeal s m _ below meth c s.heap [] 0 0 (MQ below _ _ _ _ _ _) _
  rw [← hQ]
  have f_0 := hts (.classLink RL 13 xE_S) (by decide +kernel)
  have hl := lv_entry ([.ref (a 0), .ref q]) (n := 3) (Nat.le_of_ble_eq_true rfl)
  rw [lg_entry_eq]
  generalize (lg_sl ([.ref (a 0), .ref q]) ++ List.replicate (3 - (lg_sl ([.ref (a 0), .ref q])).length) Slot.unset).toArray = ls at hl ⊢
  have hl : lv_has ls 3 [(0, .ref (a 0)), (1, .ref q)] := hl
  refine lv_aload_n hx hb dL_addMeal_0 rfl (lv_at hl 1 rfl) ?_
  refine lv_iconst (v := nI 0) hx hb dL_addMeal_1 (by decide) ?_
  refine lv_aload_n hx hb dL_addMeal_2 rfl (lv_at hl 0 rfl) ?_
  have hPc := hP.sub (ws' := (cb_w a k S)) [0, 1, 2, 3, 4, 5, 6, 7, 8, 9, 10, 11, 12, 13, 14, 15, 16, 17, 18, 19] rfl
  have hDc := hD.sub (ws' := (cb_w a k S)) [0, 1, 2, 3, 4, 5, 6, 7, 8, 9, 10, 11, 12, 13, 14, 15, 16, 17, 18, 19] (by decide) rfl
  have hKc := hK.sub (tys' := (cb_ty k)) [0, 1, 2, 3, 4, 5, 6, 7, 8, 9, 10, 11, 12, 13] rfl
  have hF : ∀ q9, va_A (cb_w a k S) s.heap.size q9 → A q9 := va_free hD hS hA [0, 1, 2, 3, 4, 5, 6, 7, 8, 9, 10, 11, 12, 13, 14, 15, 16, 17, 18, 19] rfl
  refine vx_calli (vx_runV (As := []) (rest := [.int (nI 0), .ref q]) ⟨hx, hb, hml, hown, hts⟩ (c_X5_addMeal l hl9 dC dI a k S s.heap.size hI) (cwV 0 hts gL_addMeal_X5_addMeal rfl rfl rfl (by decide +kernel) ⟨(Nat.le_of_ble_eq_true rfl), (Nat.le_of_ble_eq_true rfl)⟩) ⟨cU_blind, va_recv hKc hPc (ci := 5) (q0 := 0) rfl rfl, fun U hU hW => ⟨rfl, cU_of hKc hPc hDc hE.1 hS hU hW hF⟩⟩ rfl rfl hl.1 rfl (lv_room (Nat.le_of_ble_eq_true rfl)) dL_addMeal_3 ⟨(Nat.le_of_ble_eq_true rfl), (Nat.le_of_ble_eq_true rfl)⟩) hS (fun q9 _ h => hF q9 h) hF (fun q9 _ h => hF q9 h) (fun E ce q9 u8 t8 H1 L1 ht hvm _ hB hz1 hk1 hS hce hcv hcl => ?_) (fun r9 u8 t8 H1 L1 ht hvm hw hB hz1 hk1 hS => ?_)
  · obtain ⟨hpx9, hB⟩ := hB
    obtain ⟨hP9, -, hD9⟩ := hB
    rw [ht] at hP9
    obtain ⟨hP8, hD8⟩ := va_join (wc := (cb_w a k S)) (wr := [(q, .inl (kq, (1, .inr (.inl (f)))))]) hP hD [0, 1, 2, 3, 4, 5, 6, 7, 8, 9, 10, 11, 12, 13, 14, 15, 16, 17, 18, 19] [20] rfl rfl (by decide) (by decide) hk1 hF hP9 hD9
    have hP : va_P (dC, dI) vwCl (cb_w a k S ++ [(q, .inl (kq, (1, .inr (.inl (f)))))]) H1 := hP8.sub [1, 2, 3, 4, 5, 6, 7, 8, 9, 10, 11, 12, 13, 14, 15, 16, 17, 18, 19, 20, 0] rfl
    have hD : va_D A (cb_w a k S ++ [(q, .inl (kq, (1, .inr (.inl (f)))))]) := hD8.sub [1, 2, 3, 4, 5, 6, 7, 8, 9, 10, 11, 12, 13, 14, 15, 16, 17, 18, 19, 20, 0] (by decide) rfl
    obtain ⟨hk9, rfl⟩ := px_1 hpx9
    refine vx_catch (own := RL) (name := xE_S) (E := xE_S) hown [] (⟨0, 8, 11, 13⟩ : ExceptionTableEntry) [] htb (fun z hz => absurd hz List.not_mem_nil) (by decide) (by decide) f_0 (va_Nw.use rfl (hE.1.2.2.1 (.castable xE_S xE_S) (by decide +kernel))) hce hcv hcl ?_
    refine lv_astore_n (lv' := [(2, .ref q9), (0, .ref (a 0)), (1, .ref q)]) hx hb dL_addMeal_11 rfl hl (by decide) rfl (fun ls hl => ?_)
    refine lv_iconst (v := nI 1) hx hb dL_addMeal_12 (by decide) ?_
    have ew : (cb_w a k S ++ [(q, .inl (kq, (1, .inr (.inl (f)))))]) = (cb_w a k (kS (k_addMeal S) (S_addMeal S) S) ++ [(q, .inl (kq, (1, .inr (.inl (f)))))]) := by rw [hk9]; rfl
    have hP : va_P (dC, dI) vwCl (cb_w a k (kS (k_addMeal S) (S_addMeal S) S) ++ [(q, .inl (kq, (1, .inr (.inl (f)))))]) H1 := by rw [← ew]; exact hP
    have hD : va_D A (cb_w a k (kS (k_addMeal S) (S_addMeal S) S) ++ [(q, .inl (kq, (1, .inr (.inl (f)))))]) := by rw [← ew]; exact hD
    rw [hQ]
    exact W.iret (v := nI 1) hx hb hr (fun t9 ht9 hW9 => ⟨⟨nI 1, f, rfl, ⟨by rw [hk9], fun h9 => absurd (hk9.symm.trans h9) (by decide)⟩, cB_of hP hK hD ht9 hW9⟩, hS.F ht9⟩) hS.2.2 dL_addMeal_13
  · skip
    obtain ⟨hP9, -, hD9⟩ := hB
    rw [ht] at hP9
    obtain ⟨hP8, hD8⟩ := va_join (wc := (cb_w a k S)) (wr := [(q, .inl (kq, (1, .inr (.inl (f)))))]) hP hD [0, 1, 2, 3, 4, 5, 6, 7, 8, 9, 10, 11, 12, 13, 14, 15, 16, 17, 18, 19] [20] rfl rfl (by decide) (by decide) hk1 hF hP9 hD9
    have hP : va_P (dC, dI) vwCl (cb_w a k (S_addMeal S) ++ [(q, .inl (kq, (1, .inr (.inl (f)))))]) H1 := hP8.sub [1, 2, 3, 4, 5, 6, 7, 8, 9, 10, 11, 12, 13, 14, 15, 16, 17, 18, 19, 20, 0] rfl
    have hD : va_D A (cb_w a k (S_addMeal S) ++ [(q, .inl (kq, (1, .inr (.inl (f)))))]) := hD8.sub [1, 2, 3, 4, 5, 6, 7, 8, 9, 10, 11, 12, 13, 14, 15, 16, 17, 18, 19, 20, 0] (by decide) rfl
    obtain ⟨hk9, hr9⟩ := hw
    subst hr9
    have hP : va_P (dC, dI) vwCl ((cb_W a k (S_addMeal S) (c_sl (S_addMeal S)) (c_pt (S_addMeal S)) (c_at (S_addMeal S))) ++ [(q, .inl (kq, (1, .inr (.inl (f)))))]) H1 := hP
    have hD : va_D A ((cb_W a k (S_addMeal S) (c_sl (S_addMeal S)) (c_pt (S_addMeal S)) (c_at (S_addMeal S))) ++ [(q, .inl (kq, (1, .inr (.inl (f)))))]) := hD
    refine lv_i2l hx hb dL_addMeal_6 rfl ?_
    refine cb_last hx hb hK hP hD hS 20 14 (f := f) rfl rfl (j := 0) (by omega) (Nat.le_of_ble_eq_true rfl) dL_addMeal_7 (fun H locs hP hD hS => ?_)
    have hP : va_P (dC, dI) vwCl ((cb_W a k (S_addMeal S) (c_sl (S_addMeal S)) (c_pt (S_addMeal S)) (c_at (S_addMeal S))) ++ [(q, .inl (kq, (1, .inr (.inl (vp_updL f 0 ((nI (c_nm S)).toInt64))))))]) H := hP
    have hD : va_D A ((cb_W a k (S_addMeal S) (c_sl (S_addMeal S)) (c_pt (S_addMeal S)) (c_at (S_addMeal S))) ++ [(q, .inl (kq, (1, .inr (.inl (vp_updL f 0 ((nI (c_nm S)).toInt64))))))]) := hD
    refine lv_goto (tgt := 14) hx hb dL_addMeal_8 (by decide) ?_
    refine lv_iconst (v := nI 0) hx hb dL_addMeal_14 (by decide) ?_
    have ew : ((cb_W a k (S_addMeal S) (c_sl (S_addMeal S)) (c_pt (S_addMeal S)) (c_at (S_addMeal S))) ++ [(q, .inl (kq, (1, .inr (.inl (vp_updL f 0 ((nI (c_nm S)).toInt64))))))]) = (cb_w a k (kS (k_addMeal S) (S_addMeal S) S) ++ [(q, .inl (kq, (1, .inr (.inl (vp_updL f 0 ((nI (c_nm S)).toInt64))))))]) := by rw [hk9]; rfl
    have hP : va_P (dC, dI) vwCl (cb_w a k (kS (k_addMeal S) (S_addMeal S) S) ++ [(q, .inl (kq, (1, .inr (.inl (vp_updL f 0 ((nI (c_nm S)).toInt64))))))]) H := by rw [← ew]; exact hP
    have hD : va_D A (cb_w a k (kS (k_addMeal S) (S_addMeal S) S) ++ [(q, .inl (kq, (1, .inr (.inl (vp_updL f 0 ((nI (c_nm S)).toInt64))))))]) := by rw [← ew]; exact hD
    rw [hQ]
    exact W.iret (v := nI 0) hx hb hr (fun t9 ht9 hW9 => ⟨⟨nI 0, (vp_updL f 0 ((nI (c_nm S)).toInt64)), rfl, ⟨by rw [hk9], fun _ => pk_uLs⟩, cB_of hP hK hD ht9 hW9⟩, hS.F ht9⟩) hS.2.2 dL_addMeal_15
abbrev rm_L_need : Room := { frames := 8, cells := 8, slots := 48, locals := 136 }
set_option maxHeartbeats 4000000 in
set_option maxRecDepth 100000 in
theorem c_L_need (l : Launch) (hl9 : l.stackTraces = false) (dC : Nat → ClassId) (dI : Nat → Nat → Nat) (a : Nat → Nat) (k : Nat → ClassId) (S : cs_S) (q : Nat) (kq : ClassId) (f : Nat → Int64) (sz : Nat) (x0 : Int32) (x1 : Int32) (x2 : Int32) (hI : Inv S) : Met l yL_need wsL_need rm_L_need (va_Pc [.ref (a 0), .int x0, .int x1, .int x2, .ref q] (cV dC dI sz (cb_w a k S ++ [(q, .inl (kq, (1, .inr (.inl (f)))))]) (cb_ty k ++ [(kq, .long)]))) (va_Qi (fun (r : Int32) (f2 : Nat → Int64) => r = nI (k_need S x0 x1 x2) ∧ (k_need S x0 x1 x2 = 0 → f2 0 = (r_need S x0 x1).toInt64)) (fun f2 t => cB dC dI (va_A (cb_w a k S ++ [(q, .inl (kq, (1, .inr (.inl (f)))))]) sz) (cb_w a k (kS (k_need S x0 x1 x2) (S_need S x0 x1 x2) S) ++ [(q, .inl (kq, (1, .inr (.inl (f2)))))]) (cb_ty k ++ [(kq, .long)]) t) (va_A (cb_w a k S ++ [(q, .inl (kq, (1, .inr (.inl (f)))))]) sz)) 8 48 (va_A (cb_w a k S ++ [(q, .inl (kq, (1, .inr (.inl (f)))))]) sz) := by
  refine va_MetW (cc := cL_need) (maxL := 6) (ret := (some .int)) (hh := [(0, 12, 15, 19), (0, 12, 19, 21)]) (by decide) rfl ?_
  intro p e s m args below meth c s₁ B hml hv
  obtain ⟨rfl, ⟨hsz, hP, hK, hD0⟩, hE⟩ := hv
  have hx := B.exec
  have hb := B.bytes
  have hr := B.returns
  have hts := atoms_spec (ws := wsL_need) B.pre
  have hown : s.vm.findClass RL = some m.cls := findClass_of_methodNamed B.named
  have htb : c.exceptionTable.toList = tableOf [(0, 12, 15, 19), (0, 12, 19, 21)] := vx_table (x := yL_need) B (hts (.codeWith yL_need cL_need 6 (some .int) [(0, 12, 15, 19), (0, 12, 19, 21)]) List.mem_cons_self)
  subst hsz
  have hD := hD0.self (sz := s.heap.size)
  generalize hAe : va_A (cb_w a k S ++ [(q, .inl (kq, (1, .inr (.inl (f)))))]) s.heap.size = A at hD hE ⊢
  have hA : ∀ q : Nat, s.heap.size ≤ q → A q := fun q h => by rw [← hAe]; exact Or.inr h
  have hS : va_S A s.heap s.heap [] := va_S.rf
  obtain ⟨Q, hQ⟩ : ∃ Q, Q = MQ below (va_Qi (fun (r : Int32) (f2 : Nat → Int64) => r = nI (k_need S x0 x1 x2) ∧ (k_need S x0 x1 x2 = 0 → f2 0 = (r_need S x0 x1).toInt64)) (fun f2 t => cB dC dI A (cb_w a k (kS (k_need S x0 x1 x2) (S_need S x0 x1 x2) S) ++ [(q, .inl (kq, (1, .inr (.inl (f2)))))]) (cb_ty k ++ [(kq, .long)]) t) A) ([.ref (a 0), .int x0, .int x1, .int x2, .ref q] : List Value).toArray s 8 48 A := ⟨_, rfl⟩
  show W p l e rm_L_need s m _ below meth c s.heap [] 0 0 (MQ below _ _ _ _ _ _) _
  rw [← hQ]
  have f_0 := hts (.classLink RL 19 xE_I) (by decide +kernel)
  have f_1 := hts (.classLink RL 21 xE_A) (by decide +kernel)
  have hl := lv_entry ([.ref (a 0), .int x0, .int x1, .int x2, .ref q]) (n := 6) (Nat.le_of_ble_eq_true rfl)
  rw [lg_entry_eq]
  generalize (lg_sl ([.ref (a 0), .int x0, .int x1, .int x2, .ref q]) ++ List.replicate (6 - (lg_sl ([.ref (a 0), .int x0, .int x1, .int x2, .ref q])).length) Slot.unset).toArray = ls at hl ⊢
  have hl : lv_has ls 6 [(0, .ref (a 0)), (1, .int x0), (2, .int x1), (3, .int x2), (4, .ref q)] := hl
  refine lv_aload hx hb dL_need_0 (lv_at hl 4 rfl) ?_
  refine lv_iconst (v := nI 0) hx hb dL_need_2 (by decide) ?_
  refine lv_aload_n hx hb dL_need_3 rfl (lv_at hl 0 rfl) ?_
  refine lv_iload_n hx hb dL_need_4 rfl (lv_at hl 1 rfl) ?_
  refine lv_iload_n hx hb dL_need_5 rfl (lv_at hl 2 rfl) ?_
  refine lv_iload_n hx hb dL_need_6 rfl (lv_at hl 3 rfl) ?_
  have hPc := hP.sub (ws' := (cb_w a k S)) [0, 1, 2, 3, 4, 5, 6, 7, 8, 9, 10, 11, 12, 13, 14, 15, 16, 17, 18, 19] rfl
  have hDc := hD.sub (ws' := (cb_w a k S)) [0, 1, 2, 3, 4, 5, 6, 7, 8, 9, 10, 11, 12, 13, 14, 15, 16, 17, 18, 19] (by decide) rfl
  have hKc := hK.sub (tys' := (cb_ty k)) [0, 1, 2, 3, 4, 5, 6, 7, 8, 9, 10, 11, 12, 13] rfl
  have hF : ∀ q9, va_A (cb_w a k S) s.heap.size q9 → A q9 := va_free hD hS hA [0, 1, 2, 3, 4, 5, 6, 7, 8, 9, 10, 11, 12, 13, 14, 15, 16, 17, 18, 19] rfl
  refine vx_calli (vx_runV (As := [.int x0, .int x1, .int x2]) (rest := [.int (nI 0), .ref q]) ⟨hx, hb, hml, hown, hts⟩ (c_X5_need l hl9 dC dI a k S s.heap.size x0 x1 x2 hI) (cwV 3 hts gL_need_X5_need rfl rfl rfl (by decide +kernel) ⟨(Nat.le_of_ble_eq_true rfl), (Nat.le_of_ble_eq_true rfl)⟩) ⟨cU_blind, va_recv hKc hPc (ci := 5) (q0 := 0) rfl rfl, fun U hU hW => ⟨rfl, cU_of hKc hPc hDc hE.1 hS hU hW hF⟩⟩ rfl rfl hl.1 rfl (lv_room (Nat.le_of_ble_eq_true rfl)) dL_need_7 ⟨(Nat.le_of_ble_eq_true rfl), (Nat.le_of_ble_eq_true rfl)⟩) hS (fun q9 _ h => hF q9 h) hF (fun q9 _ h => hF q9 h) (fun E ce q9 u8 t8 H1 L1 ht hvm _ hB hz1 hk1 hS hce hcv hcl => ?_) (fun r9 u8 t8 H1 L1 ht hvm hw hB hz1 hk1 hS => ?_)
  · obtain ⟨hpx9, hB⟩ := hB
    obtain ⟨hP9, -, hD9⟩ := hB
    rw [ht] at hP9
    obtain ⟨hP8, hD8⟩ := va_join (wc := (cb_w a k S)) (wr := [(q, .inl (kq, (1, .inr (.inl (f)))))]) hP hD [0, 1, 2, 3, 4, 5, 6, 7, 8, 9, 10, 11, 12, 13, 14, 15, 16, 17, 18, 19] [20] rfl rfl (by decide) (by decide) hk1 hF hP9 hD9
    have hP : va_P (dC, dI) vwCl (cb_w a k S ++ [(q, .inl (kq, (1, .inr (.inl (f)))))]) H1 := hP8.sub [1, 2, 3, 4, 5, 6, 7, 8, 9, 10, 11, 12, 13, 14, 15, 16, 17, 18, 19, 20, 0] rfl
    have hD : va_D A (cb_w a k S ++ [(q, .inl (kq, (1, .inr (.inl (f)))))]) := hD8.sub [1, 2, 3, 4, 5, 6, 7, 8, 9, 10, 11, 12, 13, 14, 15, 16, 17, 18, 19, 20, 0] (by decide) rfl
    rcases px_2 hpx9 with ⟨hk9, rfl⟩ | ⟨hk9, rfl⟩
    · refine vx_catch (own := RL) (name := xE_I) (E := xE_I) hown [] (⟨0, 12, 15, 19⟩ : ExceptionTableEntry) [(⟨0, 12, 19, 21⟩ : ExceptionTableEntry)] htb (fun z hz => absurd hz List.not_mem_nil) (by decide) (by decide) f_0 (va_Nw.use rfl (hE.1.2.2.1 (.castable xE_I xE_I) (by decide +kernel))) hce hcv hcl ?_
      refine lv_astore (lv' := [(5, .ref q9), (0, .ref (a 0)), (1, .int x0), (2, .int x1), (3, .int x2), (4, .ref q)]) hx hb dL_need_15 hl (by decide) rfl (fun ls hl => ?_)
      refine lv_iconst (v := nI 1) hx hb dL_need_17 (by decide) ?_
      have ew : (cb_w a k S ++ [(q, .inl (kq, (1, .inr (.inl (f)))))]) = (cb_w a k (kS (k_need S x0 x1 x2) (S_need S x0 x1 x2) S) ++ [(q, .inl (kq, (1, .inr (.inl (f)))))]) := by rw [hk9]; rfl
      have hP : va_P (dC, dI) vwCl (cb_w a k (kS (k_need S x0 x1 x2) (S_need S x0 x1 x2) S) ++ [(q, .inl (kq, (1, .inr (.inl (f)))))]) H1 := by rw [← ew]; exact hP
      have hD : va_D A (cb_w a k (kS (k_need S x0 x1 x2) (S_need S x0 x1 x2) S) ++ [(q, .inl (kq, (1, .inr (.inl (f)))))]) := by rw [← ew]; exact hD
      rw [hQ]
      exact W.iret (v := nI 1) hx hb hr (fun t9 ht9 hW9 => ⟨⟨nI 1, f, rfl, ⟨by rw [hk9], fun h9 => absurd (hk9.symm.trans h9) (by decide)⟩, cB_of hP hK hD ht9 hW9⟩, hS.F ht9⟩) hS.2.2 dL_need_18
    · refine vx_catch (own := RL) (name := xE_A) (E := xE_A) hown [(⟨0, 12, 15, 19⟩ : ExceptionTableEntry)] (⟨0, 12, 19, 21⟩ : ExceptionTableEntry) [] htb (fun z hz => by cases List.mem_singleton.mp hz; exact Or.inr ⟨by decide, xE_I, f_0, hE.2 (xE_A, xE_I) (by decide +kernel)⟩) (by decide) (by decide) f_1 (va_Nw.use rfl (hE.1.2.2.1 (.castable xE_A xE_A) (by decide +kernel))) hce hcv hcl ?_
      refine lv_astore (lv' := [(5, .ref q9), (0, .ref (a 0)), (1, .int x0), (2, .int x1), (3, .int x2), (4, .ref q)]) hx hb dL_need_19 hl (by decide) rfl (fun ls hl => ?_)
      refine lv_iconst (v := nI 2) hx hb dL_need_21 (by decide) ?_
      have ew : (cb_w a k S ++ [(q, .inl (kq, (1, .inr (.inl (f)))))]) = (cb_w a k (kS (k_need S x0 x1 x2) (S_need S x0 x1 x2) S) ++ [(q, .inl (kq, (1, .inr (.inl (f)))))]) := by rw [hk9]; rfl
      have hP : va_P (dC, dI) vwCl (cb_w a k (kS (k_need S x0 x1 x2) (S_need S x0 x1 x2) S) ++ [(q, .inl (kq, (1, .inr (.inl (f)))))]) H1 := by rw [← ew]; exact hP
      have hD : va_D A (cb_w a k (kS (k_need S x0 x1 x2) (S_need S x0 x1 x2) S) ++ [(q, .inl (kq, (1, .inr (.inl (f)))))]) := by rw [← ew]; exact hD
      rw [hQ]
      exact W.iret (v := nI 2) hx hb hr (fun t9 ht9 hW9 => ⟨⟨nI 2, f, rfl, ⟨by rw [hk9], fun h9 => absurd (hk9.symm.trans h9) (by decide)⟩, cB_of hP hK hD ht9 hW9⟩, hS.F ht9⟩) hS.2.2 dL_need_22
  · skip
    obtain ⟨hP9, -, hD9⟩ := hB
    rw [ht] at hP9
    obtain ⟨hP8, hD8⟩ := va_join (wc := (cb_w a k S)) (wr := [(q, .inl (kq, (1, .inr (.inl (f)))))]) hP hD [0, 1, 2, 3, 4, 5, 6, 7, 8, 9, 10, 11, 12, 13, 14, 15, 16, 17, 18, 19] [20] rfl rfl (by decide) (by decide) hk1 hF hP9 hD9
    have hP : va_P (dC, dI) vwCl (cb_w a k (S_need S x0 x1 x2) ++ [(q, .inl (kq, (1, .inr (.inl (f)))))]) H1 := hP8.sub [1, 2, 3, 4, 5, 6, 7, 8, 9, 10, 11, 12, 13, 14, 15, 16, 17, 18, 19, 20, 0] rfl
    have hD : va_D A (cb_w a k (S_need S x0 x1 x2) ++ [(q, .inl (kq, (1, .inr (.inl (f)))))]) := hD8.sub [1, 2, 3, 4, 5, 6, 7, 8, 9, 10, 11, 12, 13, 14, 15, 16, 17, 18, 19, 20, 0] (by decide) rfl
    obtain ⟨hk9, hr9⟩ := hw
    subst hr9
    have hP : va_P (dC, dI) vwCl ((cb_W a k (S_need S x0 x1 x2) (c_sl (S_need S x0 x1 x2)) (c_pt (S_need S x0 x1 x2)) (c_at (S_need S x0 x1 x2))) ++ [(q, .inl (kq, (1, .inr (.inl (f)))))]) H1 := hP
    have hD : va_D A ((cb_W a k (S_need S x0 x1 x2) (c_sl (S_need S x0 x1 x2)) (c_pt (S_need S x0 x1 x2)) (c_at (S_need S x0 x1 x2))) ++ [(q, .inl (kq, (1, .inr (.inl (f)))))]) := hD
    refine lv_i2l hx hb dL_need_10 rfl ?_
    refine cb_last hx hb hK hP hD hS 20 14 (f := f) rfl rfl (j := 0) (by omega) (Nat.le_of_ble_eq_true rfl) dL_need_11 (fun H locs hP hD hS => ?_)
    have hP : va_P (dC, dI) vwCl ((cb_W a k (S_need S x0 x1 x2) (c_sl (S_need S x0 x1 x2)) (c_pt (S_need S x0 x1 x2)) (c_at (S_need S x0 x1 x2))) ++ [(q, .inl (kq, (1, .inr (.inl (vp_updL f 0 ((r_need S x0 x1).toInt64))))))]) H := hP
    have hD : va_D A ((cb_W a k (S_need S x0 x1 x2) (c_sl (S_need S x0 x1 x2)) (c_pt (S_need S x0 x1 x2)) (c_at (S_need S x0 x1 x2))) ++ [(q, .inl (kq, (1, .inr (.inl (vp_updL f 0 ((r_need S x0 x1).toInt64))))))]) := hD
    refine lv_goto (tgt := 23) hx hb dL_need_12 (by decide) ?_
    refine lv_iconst (v := nI 0) hx hb dL_need_23 (by decide) ?_
    have ew : ((cb_W a k (S_need S x0 x1 x2) (c_sl (S_need S x0 x1 x2)) (c_pt (S_need S x0 x1 x2)) (c_at (S_need S x0 x1 x2))) ++ [(q, .inl (kq, (1, .inr (.inl (vp_updL f 0 ((r_need S x0 x1).toInt64))))))]) = (cb_w a k (kS (k_need S x0 x1 x2) (S_need S x0 x1 x2) S) ++ [(q, .inl (kq, (1, .inr (.inl (vp_updL f 0 ((r_need S x0 x1).toInt64))))))]) := by rw [hk9]; rfl
    have hP : va_P (dC, dI) vwCl (cb_w a k (kS (k_need S x0 x1 x2) (S_need S x0 x1 x2) S) ++ [(q, .inl (kq, (1, .inr (.inl (vp_updL f 0 ((r_need S x0 x1).toInt64))))))]) H := by rw [← ew]; exact hP
    have hD : va_D A (cb_w a k (kS (k_need S x0 x1 x2) (S_need S x0 x1 x2) S) ++ [(q, .inl (kq, (1, .inr (.inl (vp_updL f 0 ((r_need S x0 x1).toInt64))))))]) := by rw [← ew]; exact hD
    rw [hQ]
    exact W.iret (v := nI 0) hx hb hr (fun t9 ht9 hW9 => ⟨⟨nI 0, (vp_updL f 0 ((r_need S x0 x1).toInt64)), rfl, ⟨by rw [hk9], fun _ => pk_uLs⟩, cB_of hP hK hD ht9 hW9⟩, hS.F ht9⟩) hS.2.2 dL_need_24
abbrev rm_L_eaters : Room := { frames := 8, cells := 8, slots := 48, locals := 132 }
set_option maxHeartbeats 4000000 in
set_option maxRecDepth 100000 in
theorem c_L_eaters (l : Launch) (hl9 : l.stackTraces = false) (dC : Nat → ClassId) (dI : Nat → Nat → Nat) (a : Nat → Nat) (k : Nat → ClassId) (S : cs_S) (q : Nat) (kq : ClassId) (f : Nat → Int64) (sz : Nat) (x0 : Int32) (hI : Inv S) : Met l yL_eaters wsL_eaters rm_L_eaters (va_Pc [.ref (a 0), .int x0, .ref q] (cV dC dI sz (cb_w a k S ++ [(q, .inl (kq, (1, .inr (.inl (f)))))]) (cb_ty k ++ [(kq, .long)]))) (va_Qi (fun (r : Int32) (f2 : Nat → Int64) => r = nI (k_eaters S x0) ∧ (k_eaters S x0 = 0 → f2 0 = r_eaters S x0)) (fun f2 t => cB dC dI (va_A (cb_w a k S ++ [(q, .inl (kq, (1, .inr (.inl (f)))))]) sz) (cb_w a k S ++ [(q, .inl (kq, (1, .inr (.inl (f2)))))]) (cb_ty k ++ [(kq, .long)]) t) (va_A (cb_w a k S ++ [(q, .inl (kq, (1, .inr (.inl (f)))))]) sz)) 8 48 (va_A (cb_w a k S ++ [(q, .inl (kq, (1, .inr (.inl (f)))))]) sz) := by
  refine va_MetW (cc := cL_eaters) (maxL := 4) (ret := (some .int)) (hh := [(0, 8, 11, 19)]) (by decide) rfl ?_
  intro p e s m args below meth c s₁ B hml hv
  obtain ⟨rfl, ⟨hsz, hP, hK, hD0⟩, hE⟩ := hv
  have hx := B.exec
  have hb := B.bytes
  have hr := B.returns
  have hts := atoms_spec (ws := wsL_eaters) B.pre
  have hown : s.vm.findClass RL = some m.cls := findClass_of_methodNamed B.named
  have htb : c.exceptionTable.toList = tableOf [(0, 8, 11, 19)] := vx_table (x := yL_eaters) B (hts (.codeWith yL_eaters cL_eaters 4 (some .int) [(0, 8, 11, 19)]) List.mem_cons_self)
  subst hsz
  have hD := hD0.self (sz := s.heap.size)
  generalize hAe : va_A (cb_w a k S ++ [(q, .inl (kq, (1, .inr (.inl (f)))))]) s.heap.size = A at hD hE ⊢
  have hA : ∀ q : Nat, s.heap.size ≤ q → A q := fun q h => by rw [← hAe]; exact Or.inr h
  have hS : va_S A s.heap s.heap [] := va_S.rf
  obtain ⟨Q, hQ⟩ : ∃ Q, Q = MQ below (va_Qi (fun (r : Int32) (f2 : Nat → Int64) => r = nI (k_eaters S x0) ∧ (k_eaters S x0 = 0 → f2 0 = r_eaters S x0)) (fun f2 t => cB dC dI A (cb_w a k S ++ [(q, .inl (kq, (1, .inr (.inl (f2)))))]) (cb_ty k ++ [(kq, .long)]) t) A) ([.ref (a 0), .int x0, .ref q] : List Value).toArray s 8 48 A := ⟨_, rfl⟩
  show W p l e rm_L_eaters s m _ below meth c s.heap [] 0 0 (MQ below _ _ _ _ _ _) _
  rw [← hQ]
  have f_0 := hts (.classLink RL 19 xE_I) (by decide +kernel)
  have hl := lv_entry ([.ref (a 0), .int x0, .ref q]) (n := 4) (Nat.le_of_ble_eq_true rfl)
  rw [lg_entry_eq]
  generalize (lg_sl ([.ref (a 0), .int x0, .ref q]) ++ List.replicate (4 - (lg_sl ([.ref (a 0), .int x0, .ref q])).length) Slot.unset).toArray = ls at hl ⊢
  have hl : lv_has ls 4 [(0, .ref (a 0)), (1, .int x0), (2, .ref q)] := hl
  refine lv_aload_n hx hb dL_eaters_0 rfl (lv_at hl 2 rfl) ?_
  refine lv_iconst (v := nI 0) hx hb dL_eaters_1 (by decide) ?_
  refine lv_aload_n hx hb dL_eaters_2 rfl (lv_at hl 0 rfl) ?_
  refine lv_iload_n hx hb dL_eaters_3 rfl (lv_at hl 1 rfl) ?_
  have hPc := hP.sub (ws' := (cb_w a k S)) [0, 1, 2, 3, 4, 5, 6, 7, 8, 9, 10, 11, 12, 13, 14, 15, 16, 17, 18, 19] rfl
  have hDc := hD.sub (ws' := (cb_w a k S)) [0, 1, 2, 3, 4, 5, 6, 7, 8, 9, 10, 11, 12, 13, 14, 15, 16, 17, 18, 19] (by decide) rfl
  have hKc := hK.sub (tys' := (cb_ty k)) [0, 1, 2, 3, 4, 5, 6, 7, 8, 9, 10, 11, 12, 13] rfl
  have hF : ∀ q9, va_A (cb_w a k S) s.heap.size q9 → A q9 := va_free hD hS hA [0, 1, 2, 3, 4, 5, 6, 7, 8, 9, 10, 11, 12, 13, 14, 15, 16, 17, 18, 19] rfl
  refine vx_calll (vx_runV (As := [.int x0]) (rest := [.int (nI 0), .ref q]) ⟨hx, hb, hml, hown, hts⟩ (c_X5_eaters l hl9 dC dI a k S s.heap.size x0 hI) (cwV 1 hts gL_eaters_X5_eaters rfl rfl rfl (by decide +kernel) ⟨(Nat.le_of_ble_eq_true rfl), (Nat.le_of_ble_eq_true rfl)⟩) ⟨cU_blind, va_recv hKc hPc (ci := 5) (q0 := 0) rfl rfl, fun U hU hW => ⟨rfl, cU_of hKc hPc hDc hE.1 hS hU hW hF⟩⟩ rfl rfl hl.1 rfl (lv_room (Nat.le_of_ble_eq_true rfl)) dL_eaters_4 ⟨(Nat.le_of_ble_eq_true rfl), (Nat.le_of_ble_eq_true rfl)⟩) hS (fun q9 _ h => hF q9 h) hF (fun q9 _ h => hF q9 h) (fun E ce q9 u8 t8 H1 L1 ht hvm _ hB hz1 hk1 hS hce hcv hcl => ?_) (fun r9 u8 t8 H1 L1 ht hvm hw hB hz1 hk1 hS => ?_)
  · obtain ⟨hpx9, hB⟩ := hB
    obtain ⟨hP9, -, hD9⟩ := hB
    rw [ht] at hP9
    obtain ⟨hP8, hD8⟩ := va_join (wc := (cb_w a k S)) (wr := [(q, .inl (kq, (1, .inr (.inl (f)))))]) hP hD [0, 1, 2, 3, 4, 5, 6, 7, 8, 9, 10, 11, 12, 13, 14, 15, 16, 17, 18, 19] [20] rfl rfl (by decide) (by decide) hk1 hF hP9 hD9
    have hP : va_P (dC, dI) vwCl (cb_w a k S ++ [(q, .inl (kq, (1, .inr (.inl (f)))))]) H1 := hP8.sub [1, 2, 3, 4, 5, 6, 7, 8, 9, 10, 11, 12, 13, 14, 15, 16, 17, 18, 19, 20, 0] rfl
    have hD : va_D A (cb_w a k S ++ [(q, .inl (kq, (1, .inr (.inl (f)))))]) := hD8.sub [1, 2, 3, 4, 5, 6, 7, 8, 9, 10, 11, 12, 13, 14, 15, 16, 17, 18, 19, 20, 0] (by decide) rfl
    obtain ⟨hk9, rfl⟩ := px_1 hpx9
    refine vx_catch (own := RL) (name := xE_I) (E := xE_I) hown [] (⟨0, 8, 11, 19⟩ : ExceptionTableEntry) [] htb (fun z hz => absurd hz List.not_mem_nil) (by decide) (by decide) f_0 (va_Nw.use rfl (hE.1.2.2.1 (.castable xE_I xE_I) (by decide +kernel))) hce hcv hcl ?_
    refine lv_astore_n (lv' := [(3, .ref q9), (0, .ref (a 0)), (1, .int x0), (2, .ref q)]) hx hb dL_eaters_11 rfl hl (by decide) rfl (fun ls hl => ?_)
    refine lv_iconst (v := nI 1) hx hb dL_eaters_12 (by decide) ?_
    skip
    rw [hQ]
    exact W.iret (v := nI 1) hx hb hr (fun t9 ht9 hW9 => ⟨⟨nI 1, f, rfl, ⟨by rw [hk9], fun h9 => absurd (hk9.symm.trans h9) (by decide)⟩, cB_of hP hK hD ht9 hW9⟩, hS.F ht9⟩) hS.2.2 dL_eaters_13
  · skip
    obtain ⟨hP9, -, hD9⟩ := hB
    rw [ht] at hP9
    obtain ⟨hP8, hD8⟩ := va_join (wc := (cb_w a k S)) (wr := [(q, .inl (kq, (1, .inr (.inl (f)))))]) hP hD [0, 1, 2, 3, 4, 5, 6, 7, 8, 9, 10, 11, 12, 13, 14, 15, 16, 17, 18, 19] [20] rfl rfl (by decide) (by decide) hk1 hF hP9 hD9
    have hP : va_P (dC, dI) vwCl (cb_w a k S ++ [(q, .inl (kq, (1, .inr (.inl (f)))))]) H1 := hP8.sub [1, 2, 3, 4, 5, 6, 7, 8, 9, 10, 11, 12, 13, 14, 15, 16, 17, 18, 19, 20, 0] rfl
    have hD : va_D A (cb_w a k S ++ [(q, .inl (kq, (1, .inr (.inl (f)))))]) := hD8.sub [1, 2, 3, 4, 5, 6, 7, 8, 9, 10, 11, 12, 13, 14, 15, 16, 17, 18, 19, 20, 0] (by decide) rfl
    obtain ⟨hk9, hr9⟩ := hw
    subst hr9
    have hP : va_P (dC, dI) vwCl ((cb_W a k S (c_sl S) (c_pt S) (c_at S)) ++ [(q, .inl (kq, (1, .inr (.inl (f)))))]) H1 := hP
    have hD : va_D A ((cb_W a k S (c_sl S) (c_pt S) (c_at S)) ++ [(q, .inl (kq, (1, .inr (.inl (f)))))]) := hD
    refine cb_last hx hb hK hP hD hS 20 14 (f := f) rfl rfl (j := 0) (by omega) (Nat.le_of_ble_eq_true rfl) dL_eaters_7 (fun H locs hP hD hS => ?_)
    have hP : va_P (dC, dI) vwCl ((cb_W a k S (c_sl S) (c_pt S) (c_at S)) ++ [(q, .inl (kq, (1, .inr (.inl (vp_updL f 0 (r_eaters S x0))))))]) H := hP
    have hD : va_D A ((cb_W a k S (c_sl S) (c_pt S) (c_at S)) ++ [(q, .inl (kq, (1, .inr (.inl (vp_updL f 0 (r_eaters S x0))))))]) := hD
    refine lv_goto (tgt := 14) hx hb dL_eaters_8 (by decide) ?_
    refine lv_iconst (v := nI 0) hx hb dL_eaters_14 (by decide) ?_
    have ew : ((cb_W a k S (c_sl S) (c_pt S) (c_at S)) ++ [(q, .inl (kq, (1, .inr (.inl (vp_updL f 0 (r_eaters S x0))))))]) = (cb_w a k S ++ [(q, .inl (kq, (1, .inr (.inl (vp_updL f 0 (r_eaters S x0))))))]) := rfl
    have hP : va_P (dC, dI) vwCl (cb_w a k S ++ [(q, .inl (kq, (1, .inr (.inl (vp_updL f 0 (r_eaters S x0))))))]) H := by rw [← ew]; exact hP
    have hD : va_D A (cb_w a k S ++ [(q, .inl (kq, (1, .inr (.inl (vp_updL f 0 (r_eaters S x0))))))]) := by rw [← ew]; exact hD
    rw [hQ]
    exact W.iret (v := nI 0) hx hb hr (fun t9 ht9 hW9 => ⟨⟨nI 0, (vp_updL f 0 (r_eaters S x0)), rfl, ⟨by rw [hk9], fun _ => pk_uLs⟩, cB_of hP hK hD ht9 hW9⟩, hS.F ht9⟩) hS.2.2 dL_eaters_15
abbrev rm_L_lacks : Room := { frames := 8, cells := 8, slots := 48, locals := 136 }
set_option maxHeartbeats 4000000 in
set_option maxRecDepth 100000 in
theorem c_L_lacks (l : Launch) (hl9 : l.stackTraces = false) (dC : Nat → ClassId) (dI : Nat → Nat → Nat) (a : Nat → Nat) (k : Nat → ClassId) (S : cs_S) (q : Nat) (kq : ClassId) (f : Nat → Int64) (sz : Nat) (x0 : Int32) (x1 : Int32) (x2 : Int32) (hI : Inv S) : Met l yL_lacks wsL_lacks rm_L_lacks (va_Pc [.ref (a 0), .int x0, .int x1, .int x2, .ref q] (cV dC dI sz (cb_w a k S ++ [(q, .inl (kq, (1, .inr (.inl (f)))))]) (cb_ty k ++ [(kq, .long)]))) (va_Qi (fun (r : Int32) (f2 : Nat → Int64) => r = nI (k_lacks S x0 x1 x2) ∧ (k_lacks S x0 x1 x2 = 0 → f2 0 = (r_lacks S x0 x1 x2).toInt64)) (fun f2 t => cB dC dI (va_A (cb_w a k S ++ [(q, .inl (kq, (1, .inr (.inl (f)))))]) sz) (cb_w a k S ++ [(q, .inl (kq, (1, .inr (.inl (f2)))))]) (cb_ty k ++ [(kq, .long)]) t) (va_A (cb_w a k S ++ [(q, .inl (kq, (1, .inr (.inl (f)))))]) sz)) 8 48 (va_A (cb_w a k S ++ [(q, .inl (kq, (1, .inr (.inl (f)))))]) sz) := by
  refine va_MetW (cc := cL_lacks) (maxL := 6) (ret := (some .int)) (hh := [(0, 12, 15, 19), (0, 12, 19, 21)]) (by decide) rfl ?_
  intro p e s m args below meth c s₁ B hml hv
  obtain ⟨rfl, ⟨hsz, hP, hK, hD0⟩, hE⟩ := hv
  have hx := B.exec
  have hb := B.bytes
  have hr := B.returns
  have hts := atoms_spec (ws := wsL_lacks) B.pre
  have hown : s.vm.findClass RL = some m.cls := findClass_of_methodNamed B.named
  have htb : c.exceptionTable.toList = tableOf [(0, 12, 15, 19), (0, 12, 19, 21)] := vx_table (x := yL_lacks) B (hts (.codeWith yL_lacks cL_lacks 6 (some .int) [(0, 12, 15, 19), (0, 12, 19, 21)]) List.mem_cons_self)
  subst hsz
  have hD := hD0.self (sz := s.heap.size)
  generalize hAe : va_A (cb_w a k S ++ [(q, .inl (kq, (1, .inr (.inl (f)))))]) s.heap.size = A at hD hE ⊢
  have hA : ∀ q : Nat, s.heap.size ≤ q → A q := fun q h => by rw [← hAe]; exact Or.inr h
  have hS : va_S A s.heap s.heap [] := va_S.rf
  obtain ⟨Q, hQ⟩ : ∃ Q, Q = MQ below (va_Qi (fun (r : Int32) (f2 : Nat → Int64) => r = nI (k_lacks S x0 x1 x2) ∧ (k_lacks S x0 x1 x2 = 0 → f2 0 = (r_lacks S x0 x1 x2).toInt64)) (fun f2 t => cB dC dI A (cb_w a k S ++ [(q, .inl (kq, (1, .inr (.inl (f2)))))]) (cb_ty k ++ [(kq, .long)]) t) A) ([.ref (a 0), .int x0, .int x1, .int x2, .ref q] : List Value).toArray s 8 48 A := ⟨_, rfl⟩
  show W p l e rm_L_lacks s m _ below meth c s.heap [] 0 0 (MQ below _ _ _ _ _ _) _
  rw [← hQ]
  have f_0 := hts (.classLink RL 19 xE_I) (by decide +kernel)
  have f_1 := hts (.classLink RL 21 xE_A) (by decide +kernel)
  have hl := lv_entry ([.ref (a 0), .int x0, .int x1, .int x2, .ref q]) (n := 6) (Nat.le_of_ble_eq_true rfl)
  rw [lg_entry_eq]
  generalize (lg_sl ([.ref (a 0), .int x0, .int x1, .int x2, .ref q]) ++ List.replicate (6 - (lg_sl ([.ref (a 0), .int x0, .int x1, .int x2, .ref q])).length) Slot.unset).toArray = ls at hl ⊢
  have hl : lv_has ls 6 [(0, .ref (a 0)), (1, .int x0), (2, .int x1), (3, .int x2), (4, .ref q)] := hl
  refine lv_aload hx hb dL_lacks_0 (lv_at hl 4 rfl) ?_
  refine lv_iconst (v := nI 0) hx hb dL_lacks_2 (by decide) ?_
  refine lv_aload_n hx hb dL_lacks_3 rfl (lv_at hl 0 rfl) ?_
  refine lv_iload_n hx hb dL_lacks_4 rfl (lv_at hl 1 rfl) ?_
  refine lv_iload_n hx hb dL_lacks_5 rfl (lv_at hl 2 rfl) ?_
  refine lv_iload_n hx hb dL_lacks_6 rfl (lv_at hl 3 rfl) ?_
  have hPc := hP.sub (ws' := (cb_w a k S)) [0, 1, 2, 3, 4, 5, 6, 7, 8, 9, 10, 11, 12, 13, 14, 15, 16, 17, 18, 19] rfl
  have hDc := hD.sub (ws' := (cb_w a k S)) [0, 1, 2, 3, 4, 5, 6, 7, 8, 9, 10, 11, 12, 13, 14, 15, 16, 17, 18, 19] (by decide) rfl
  have hKc := hK.sub (tys' := (cb_ty k)) [0, 1, 2, 3, 4, 5, 6, 7, 8, 9, 10, 11, 12, 13] rfl
  have hF : ∀ q9, va_A (cb_w a k S) s.heap.size q9 → A q9 := va_free hD hS hA [0, 1, 2, 3, 4, 5, 6, 7, 8, 9, 10, 11, 12, 13, 14, 15, 16, 17, 18, 19] rfl
  refine vx_calli (vx_runV (As := [.int x0, .int x1, .int x2]) (rest := [.int (nI 0), .ref q]) ⟨hx, hb, hml, hown, hts⟩ (c_X5_lacks l hl9 dC dI a k S s.heap.size x0 x1 x2 hI) (cwV 3 hts gL_lacks_X5_lacks rfl rfl rfl (by decide +kernel) ⟨(Nat.le_of_ble_eq_true rfl), (Nat.le_of_ble_eq_true rfl)⟩) ⟨cU_blind, va_recv hKc hPc (ci := 5) (q0 := 0) rfl rfl, fun U hU hW => ⟨rfl, cU_of hKc hPc hDc hE.1 hS hU hW hF⟩⟩ rfl rfl hl.1 rfl (lv_room (Nat.le_of_ble_eq_true rfl)) dL_lacks_7 ⟨(Nat.le_of_ble_eq_true rfl), (Nat.le_of_ble_eq_true rfl)⟩) hS (fun q9 _ h => hF q9 h) hF (fun q9 _ h => hF q9 h) (fun E ce q9 u8 t8 H1 L1 ht hvm _ hB hz1 hk1 hS hce hcv hcl => ?_) (fun r9 u8 t8 H1 L1 ht hvm hw hB hz1 hk1 hS => ?_)
  · obtain ⟨hpx9, hB⟩ := hB
    obtain ⟨hP9, -, hD9⟩ := hB
    rw [ht] at hP9
    obtain ⟨hP8, hD8⟩ := va_join (wc := (cb_w a k S)) (wr := [(q, .inl (kq, (1, .inr (.inl (f)))))]) hP hD [0, 1, 2, 3, 4, 5, 6, 7, 8, 9, 10, 11, 12, 13, 14, 15, 16, 17, 18, 19] [20] rfl rfl (by decide) (by decide) hk1 hF hP9 hD9
    have hP : va_P (dC, dI) vwCl (cb_w a k S ++ [(q, .inl (kq, (1, .inr (.inl (f)))))]) H1 := hP8.sub [1, 2, 3, 4, 5, 6, 7, 8, 9, 10, 11, 12, 13, 14, 15, 16, 17, 18, 19, 20, 0] rfl
    have hD : va_D A (cb_w a k S ++ [(q, .inl (kq, (1, .inr (.inl (f)))))]) := hD8.sub [1, 2, 3, 4, 5, 6, 7, 8, 9, 10, 11, 12, 13, 14, 15, 16, 17, 18, 19, 20, 0] (by decide) rfl
    rcases px_2 hpx9 with ⟨hk9, rfl⟩ | ⟨hk9, rfl⟩
    · refine vx_catch (own := RL) (name := xE_I) (E := xE_I) hown [] (⟨0, 12, 15, 19⟩ : ExceptionTableEntry) [(⟨0, 12, 19, 21⟩ : ExceptionTableEntry)] htb (fun z hz => absurd hz List.not_mem_nil) (by decide) (by decide) f_0 (va_Nw.use rfl (hE.1.2.2.1 (.castable xE_I xE_I) (by decide +kernel))) hce hcv hcl ?_
      refine lv_astore (lv' := [(5, .ref q9), (0, .ref (a 0)), (1, .int x0), (2, .int x1), (3, .int x2), (4, .ref q)]) hx hb dL_lacks_15 hl (by decide) rfl (fun ls hl => ?_)
      refine lv_iconst (v := nI 1) hx hb dL_lacks_17 (by decide) ?_
      skip
      rw [hQ]
      exact W.iret (v := nI 1) hx hb hr (fun t9 ht9 hW9 => ⟨⟨nI 1, f, rfl, ⟨by rw [hk9], fun h9 => absurd (hk9.symm.trans h9) (by decide)⟩, cB_of hP hK hD ht9 hW9⟩, hS.F ht9⟩) hS.2.2 dL_lacks_18
    · refine vx_catch (own := RL) (name := xE_A) (E := xE_A) hown [(⟨0, 12, 15, 19⟩ : ExceptionTableEntry)] (⟨0, 12, 19, 21⟩ : ExceptionTableEntry) [] htb (fun z hz => by cases List.mem_singleton.mp hz; exact Or.inr ⟨by decide, xE_I, f_0, hE.2 (xE_A, xE_I) (by decide +kernel)⟩) (by decide) (by decide) f_1 (va_Nw.use rfl (hE.1.2.2.1 (.castable xE_A xE_A) (by decide +kernel))) hce hcv hcl ?_
      refine lv_astore (lv' := [(5, .ref q9), (0, .ref (a 0)), (1, .int x0), (2, .int x1), (3, .int x2), (4, .ref q)]) hx hb dL_lacks_19 hl (by decide) rfl (fun ls hl => ?_)
      refine lv_iconst (v := nI 2) hx hb dL_lacks_21 (by decide) ?_
      skip
      rw [hQ]
      exact W.iret (v := nI 2) hx hb hr (fun t9 ht9 hW9 => ⟨⟨nI 2, f, rfl, ⟨by rw [hk9], fun h9 => absurd (hk9.symm.trans h9) (by decide)⟩, cB_of hP hK hD ht9 hW9⟩, hS.F ht9⟩) hS.2.2 dL_lacks_22
  · skip
    obtain ⟨hP9, -, hD9⟩ := hB
    rw [ht] at hP9
    obtain ⟨hP8, hD8⟩ := va_join (wc := (cb_w a k S)) (wr := [(q, .inl (kq, (1, .inr (.inl (f)))))]) hP hD [0, 1, 2, 3, 4, 5, 6, 7, 8, 9, 10, 11, 12, 13, 14, 15, 16, 17, 18, 19] [20] rfl rfl (by decide) (by decide) hk1 hF hP9 hD9
    have hP : va_P (dC, dI) vwCl (cb_w a k S ++ [(q, .inl (kq, (1, .inr (.inl (f)))))]) H1 := hP8.sub [1, 2, 3, 4, 5, 6, 7, 8, 9, 10, 11, 12, 13, 14, 15, 16, 17, 18, 19, 20, 0] rfl
    have hD : va_D A (cb_w a k S ++ [(q, .inl (kq, (1, .inr (.inl (f)))))]) := hD8.sub [1, 2, 3, 4, 5, 6, 7, 8, 9, 10, 11, 12, 13, 14, 15, 16, 17, 18, 19, 20, 0] (by decide) rfl
    obtain ⟨hk9, hr9⟩ := hw
    subst hr9
    have hP : va_P (dC, dI) vwCl ((cb_W a k S (c_sl S) (c_pt S) (c_at S)) ++ [(q, .inl (kq, (1, .inr (.inl (f)))))]) H1 := hP
    have hD : va_D A ((cb_W a k S (c_sl S) (c_pt S) (c_at S)) ++ [(q, .inl (kq, (1, .inr (.inl (f)))))]) := hD
    refine lv_i2l hx hb dL_lacks_10 rfl ?_
    refine cb_last hx hb hK hP hD hS 20 14 (f := f) rfl rfl (j := 0) (by omega) (Nat.le_of_ble_eq_true rfl) dL_lacks_11 (fun H locs hP hD hS => ?_)
    have hP : va_P (dC, dI) vwCl ((cb_W a k S (c_sl S) (c_pt S) (c_at S)) ++ [(q, .inl (kq, (1, .inr (.inl (vp_updL f 0 ((r_lacks S x0 x1 x2).toInt64))))))]) H := hP
    have hD : va_D A ((cb_W a k S (c_sl S) (c_pt S) (c_at S)) ++ [(q, .inl (kq, (1, .inr (.inl (vp_updL f 0 ((r_lacks S x0 x1 x2).toInt64))))))]) := hD
    refine lv_goto (tgt := 23) hx hb dL_lacks_12 (by decide) ?_
    refine lv_iconst (v := nI 0) hx hb dL_lacks_23 (by decide) ?_
    have ew : ((cb_W a k S (c_sl S) (c_pt S) (c_at S)) ++ [(q, .inl (kq, (1, .inr (.inl (vp_updL f 0 ((r_lacks S x0 x1 x2).toInt64))))))]) = (cb_w a k S ++ [(q, .inl (kq, (1, .inr (.inl (vp_updL f 0 ((r_lacks S x0 x1 x2).toInt64))))))]) := rfl
    have hP : va_P (dC, dI) vwCl (cb_w a k S ++ [(q, .inl (kq, (1, .inr (.inl (vp_updL f 0 ((r_lacks S x0 x1 x2).toInt64))))))]) H := by rw [← ew]; exact hP
    have hD : va_D A (cb_w a k S ++ [(q, .inl (kq, (1, .inr (.inl (vp_updL f 0 ((r_lacks S x0 x1 x2).toInt64))))))]) := by rw [← ew]; exact hD
    rw [hQ]
    exact W.iret (v := nI 0) hx hb hr (fun t9 ht9 hW9 => ⟨⟨nI 0, (vp_updL f 0 ((r_lacks S x0 x1 x2).toInt64)), rfl, ⟨by rw [hk9], fun _ => pk_uLs⟩, cB_of hP hK hD ht9 hW9⟩, hS.F ht9⟩) hS.2.2 dL_lacks_24
abbrev rm_L_eat : Room := { frames := 8, cells := 8, slots := 48, locals := 132 }
set_option maxHeartbeats 4000000 in
set_option maxRecDepth 100000 in
theorem c_L_eat (l : Launch) (hl9 : l.stackTraces = false) (dC : Nat → ClassId) (dI : Nat → Nat → Nat) (a : Nat → Nat) (k : Nat → ClassId) (S : cs_S) (q : Nat) (kq : ClassId) (f : Nat → Int64) (sz : Nat) (x0 : Int32) (hI : Inv S) : Met l yL_eat wsL_eat rm_L_eat (va_Pc [.ref (a 0), .int x0, .ref q] (cV dC dI sz (cb_w a k S ++ [(q, .inl (kq, (1, .inr (.inl (f)))))]) (cb_ty k ++ [(kq, .long)]))) (va_Qi (fun (r : Int32) (f2 : Nat → Int64) => r = nI (k_eat S x0) ∧ (k_eat S x0 = 0 → f2 0 = (r_eat S x0).toInt64)) (fun f2 t => cB dC dI (va_A (cb_w a k S ++ [(q, .inl (kq, (1, .inr (.inl (f)))))]) sz) (cb_w a k (kS (k_eat S x0) (S_eat S x0) S) ++ [(q, .inl (kq, (1, .inr (.inl (f2)))))]) (cb_ty k ++ [(kq, .long)]) t) (va_A (cb_w a k S ++ [(q, .inl (kq, (1, .inr (.inl (f)))))]) sz)) 8 48 (va_A (cb_w a k S ++ [(q, .inl (kq, (1, .inr (.inl (f)))))]) sz) := by
  refine va_MetW (cc := cL_eat) (maxL := 4) (ret := (some .int)) (hh := [(0, 9, 12, 19), (0, 9, 15, 13)]) (by decide) rfl ?_
  intro p e s m args below meth c s₁ B hml hv
  obtain ⟨rfl, ⟨hsz, hP, hK, hD0⟩, hE⟩ := hv
  have hx := B.exec
  have hb := B.bytes
  have hr := B.returns
  have hts := atoms_spec (ws := wsL_eat) B.pre
  have hown : s.vm.findClass RL = some m.cls := findClass_of_methodNamed B.named
  have htb : c.exceptionTable.toList = tableOf [(0, 9, 12, 19), (0, 9, 15, 13)] := vx_table (x := yL_eat) B (hts (.codeWith yL_eat cL_eat 4 (some .int) [(0, 9, 12, 19), (0, 9, 15, 13)]) List.mem_cons_self)
  subst hsz
  have hD := hD0.self (sz := s.heap.size)
  generalize hAe : va_A (cb_w a k S ++ [(q, .inl (kq, (1, .inr (.inl (f)))))]) s.heap.size = A at hD hE ⊢
  have hA : ∀ q : Nat, s.heap.size ≤ q → A q := fun q h => by rw [← hAe]; exact Or.inr h
  have hS : va_S A s.heap s.heap [] := va_S.rf
  obtain ⟨Q, hQ⟩ : ∃ Q, Q = MQ below (va_Qi (fun (r : Int32) (f2 : Nat → Int64) => r = nI (k_eat S x0) ∧ (k_eat S x0 = 0 → f2 0 = (r_eat S x0).toInt64)) (fun f2 t => cB dC dI A (cb_w a k (kS (k_eat S x0) (S_eat S x0) S) ++ [(q, .inl (kq, (1, .inr (.inl (f2)))))]) (cb_ty k ++ [(kq, .long)]) t) A) ([.ref (a 0), .int x0, .ref q] : List Value).toArray s 8 48 A := ⟨_, rfl⟩
  show W p l e rm_L_eat s m _ below meth c s.heap [] 0 0 (MQ below _ _ _ _ _ _) _
  rw [← hQ]
  have f_0 := hts (.classLink RL 19 xE_I) (by decide +kernel)
  have f_1 := hts (.classLink RL 13 xE_S) (by decide +kernel)
  have hl := lv_entry ([.ref (a 0), .int x0, .ref q]) (n := 4) (Nat.le_of_ble_eq_true rfl)
  rw [lg_entry_eq]
  generalize (lg_sl ([.ref (a 0), .int x0, .ref q]) ++ List.replicate (4 - (lg_sl ([.ref (a 0), .int x0, .ref q])).length) Slot.unset).toArray = ls at hl ⊢
  have hl : lv_has ls 4 [(0, .ref (a 0)), (1, .int x0), (2, .ref q)] := hl
  refine lv_aload_n hx hb dL_eat_0 rfl (lv_at hl 2 rfl) ?_
  refine lv_iconst (v := nI 0) hx hb dL_eat_1 (by decide) ?_
  refine lv_aload_n hx hb dL_eat_2 rfl (lv_at hl 0 rfl) ?_
  refine lv_iload_n hx hb dL_eat_3 rfl (lv_at hl 1 rfl) ?_
  have hPc := hP.sub (ws' := (cb_w a k S)) [0, 1, 2, 3, 4, 5, 6, 7, 8, 9, 10, 11, 12, 13, 14, 15, 16, 17, 18, 19] rfl
  have hDc := hD.sub (ws' := (cb_w a k S)) [0, 1, 2, 3, 4, 5, 6, 7, 8, 9, 10, 11, 12, 13, 14, 15, 16, 17, 18, 19] (by decide) rfl
  have hKc := hK.sub (tys' := (cb_ty k)) [0, 1, 2, 3, 4, 5, 6, 7, 8, 9, 10, 11, 12, 13] rfl
  have hF : ∀ q9, va_A (cb_w a k S) s.heap.size q9 → A q9 := va_free hD hS hA [0, 1, 2, 3, 4, 5, 6, 7, 8, 9, 10, 11, 12, 13, 14, 15, 16, 17, 18, 19] rfl
  refine vx_calli (vx_runV (As := [.int x0]) (rest := [.int (nI 0), .ref q]) ⟨hx, hb, hml, hown, hts⟩ (c_X5_eat l hl9 dC dI a k S s.heap.size x0 hI) (cwV 1 hts gL_eat_X5_eat rfl rfl rfl (by decide +kernel) ⟨(Nat.le_of_ble_eq_true rfl), (Nat.le_of_ble_eq_true rfl)⟩) ⟨cU_blind, va_recv hKc hPc (ci := 5) (q0 := 0) rfl rfl, fun U hU hW => ⟨rfl, cU_of hKc hPc hDc hE.1 hS hU hW hF⟩⟩ rfl rfl hl.1 rfl (lv_room (Nat.le_of_ble_eq_true rfl)) dL_eat_4 ⟨(Nat.le_of_ble_eq_true rfl), (Nat.le_of_ble_eq_true rfl)⟩) hS (fun q9 _ h => hF q9 h) hF (fun q9 _ h => hF q9 h) (fun E ce q9 u8 t8 H1 L1 ht hvm _ hB hz1 hk1 hS hce hcv hcl => ?_) (fun r9 u8 t8 H1 L1 ht hvm hw hB hz1 hk1 hS => ?_)
  · obtain ⟨hpx9, hB⟩ := hB
    obtain ⟨hP9, -, hD9⟩ := hB
    rw [ht] at hP9
    obtain ⟨hP8, hD8⟩ := va_join (wc := (cb_w a k S)) (wr := [(q, .inl (kq, (1, .inr (.inl (f)))))]) hP hD [0, 1, 2, 3, 4, 5, 6, 7, 8, 9, 10, 11, 12, 13, 14, 15, 16, 17, 18, 19] [20] rfl rfl (by decide) (by decide) hk1 hF hP9 hD9
    have hP : va_P (dC, dI) vwCl (cb_w a k S ++ [(q, .inl (kq, (1, .inr (.inl (f)))))]) H1 := hP8.sub [1, 2, 3, 4, 5, 6, 7, 8, 9, 10, 11, 12, 13, 14, 15, 16, 17, 18, 19, 20, 0] rfl
    have hD : va_D A (cb_w a k S ++ [(q, .inl (kq, (1, .inr (.inl (f)))))]) := hD8.sub [1, 2, 3, 4, 5, 6, 7, 8, 9, 10, 11, 12, 13, 14, 15, 16, 17, 18, 19, 20, 0] (by decide) rfl
    rcases px_2 hpx9 with ⟨hk9, rfl⟩ | ⟨hk9, rfl⟩
    · refine vx_catch (own := RL) (name := xE_I) (E := xE_I) hown [] (⟨0, 9, 12, 19⟩ : ExceptionTableEntry) [(⟨0, 9, 15, 13⟩ : ExceptionTableEntry)] htb (fun z hz => absurd hz List.not_mem_nil) (by decide) (by decide) f_0 (va_Nw.use rfl (hE.1.2.2.1 (.castable xE_I xE_I) (by decide +kernel))) hce hcv hcl ?_
      refine lv_astore_n (lv' := [(3, .ref q9), (0, .ref (a 0)), (1, .int x0), (2, .ref q)]) hx hb dL_eat_12 rfl hl (by decide) rfl (fun ls hl => ?_)
      refine lv_iconst (v := nI 1) hx hb dL_eat_13 (by decide) ?_
      have ew : (cb_w a k S ++ [(q, .inl (kq, (1, .inr (.inl (f)))))]) = (cb_w a k (kS (k_eat S x0) (S_eat S x0) S) ++ [(q, .inl (kq, (1, .inr (.inl (f)))))]) := by rw [hk9]; rfl
      have hP : va_P (dC, dI) vwCl (cb_w a k (kS (k_eat S x0) (S_eat S x0) S) ++ [(q, .inl (kq, (1, .inr (.inl (f)))))]) H1 := by rw [← ew]; exact hP
      have hD : va_D A (cb_w a k (kS (k_eat S x0) (S_eat S x0) S) ++ [(q, .inl (kq, (1, .inr (.inl (f)))))]) := by rw [← ew]; exact hD
      rw [hQ]
      exact W.iret (v := nI 1) hx hb hr (fun t9 ht9 hW9 => ⟨⟨nI 1, f, rfl, ⟨by rw [hk9], fun h9 => absurd (hk9.symm.trans h9) (by decide)⟩, cB_of hP hK hD ht9 hW9⟩, hS.F ht9⟩) hS.2.2 dL_eat_14
    · refine vx_catch (own := RL) (name := xE_S) (E := xE_S) hown [(⟨0, 9, 12, 19⟩ : ExceptionTableEntry)] (⟨0, 9, 15, 13⟩ : ExceptionTableEntry) [] htb (fun z hz => by cases List.mem_singleton.mp hz; exact Or.inr ⟨by decide, xE_I, f_0, hE.2 (xE_S, xE_I) (by decide +kernel)⟩) (by decide) (by decide) f_1 (va_Nw.use rfl (hE.1.2.2.1 (.castable xE_S xE_S) (by decide +kernel))) hce hcv hcl ?_
      refine lv_astore_n (lv' := [(3, .ref q9), (0, .ref (a 0)), (1, .int x0), (2, .ref q)]) hx hb dL_eat_15 rfl hl (by decide) rfl (fun ls hl => ?_)
      refine lv_iconst (v := nI 2) hx hb dL_eat_16 (by decide) ?_
      have ew : (cb_w a k S ++ [(q, .inl (kq, (1, .inr (.inl (f)))))]) = (cb_w a k (kS (k_eat S x0) (S_eat S x0) S) ++ [(q, .inl (kq, (1, .inr (.inl (f)))))]) := by rw [hk9]; rfl
      have hP : va_P (dC, dI) vwCl (cb_w a k (kS (k_eat S x0) (S_eat S x0) S) ++ [(q, .inl (kq, (1, .inr (.inl (f)))))]) H1 := by rw [← ew]; exact hP
      have hD : va_D A (cb_w a k (kS (k_eat S x0) (S_eat S x0) S) ++ [(q, .inl (kq, (1, .inr (.inl (f)))))]) := by rw [← ew]; exact hD
      rw [hQ]
      exact W.iret (v := nI 2) hx hb hr (fun t9 ht9 hW9 => ⟨⟨nI 2, f, rfl, ⟨by rw [hk9], fun h9 => absurd (hk9.symm.trans h9) (by decide)⟩, cB_of hP hK hD ht9 hW9⟩, hS.F ht9⟩) hS.2.2 dL_eat_17
  · skip
    obtain ⟨hP9, -, hD9⟩ := hB
    rw [ht] at hP9
    obtain ⟨hP8, hD8⟩ := va_join (wc := (cb_w a k S)) (wr := [(q, .inl (kq, (1, .inr (.inl (f)))))]) hP hD [0, 1, 2, 3, 4, 5, 6, 7, 8, 9, 10, 11, 12, 13, 14, 15, 16, 17, 18, 19] [20] rfl rfl (by decide) (by decide) hk1 hF hP9 hD9
    have hP : va_P (dC, dI) vwCl (cb_w a k (S_eat S x0) ++ [(q, .inl (kq, (1, .inr (.inl (f)))))]) H1 := hP8.sub [1, 2, 3, 4, 5, 6, 7, 8, 9, 10, 11, 12, 13, 14, 15, 16, 17, 18, 19, 20, 0] rfl
    have hD : va_D A (cb_w a k (S_eat S x0) ++ [(q, .inl (kq, (1, .inr (.inl (f)))))]) := hD8.sub [1, 2, 3, 4, 5, 6, 7, 8, 9, 10, 11, 12, 13, 14, 15, 16, 17, 18, 19, 20, 0] (by decide) rfl
    obtain ⟨hk9, hr9⟩ := hw
    subst hr9
    have hP : va_P (dC, dI) vwCl ((cb_W a k (S_eat S x0) (c_sl (S_eat S x0)) (c_pt (S_eat S x0)) (c_at (S_eat S x0))) ++ [(q, .inl (kq, (1, .inr (.inl (f)))))]) H1 := hP
    have hD : va_D A ((cb_W a k (S_eat S x0) (c_sl (S_eat S x0)) (c_pt (S_eat S x0)) (c_at (S_eat S x0))) ++ [(q, .inl (kq, (1, .inr (.inl (f)))))]) := hD
    refine lv_i2l hx hb dL_eat_7 rfl ?_
    refine cb_last hx hb hK hP hD hS 20 14 (f := f) rfl rfl (j := 0) (by omega) (Nat.le_of_ble_eq_true rfl) dL_eat_8 (fun H locs hP hD hS => ?_)
    have hP : va_P (dC, dI) vwCl ((cb_W a k (S_eat S x0) (c_sl (S_eat S x0)) (c_pt (S_eat S x0)) (c_at (S_eat S x0))) ++ [(q, .inl (kq, (1, .inr (.inl (vp_updL f 0 ((r_eat S x0).toInt64))))))]) H := hP
    have hD : va_D A ((cb_W a k (S_eat S x0) (c_sl (S_eat S x0)) (c_pt (S_eat S x0)) (c_at (S_eat S x0))) ++ [(q, .inl (kq, (1, .inr (.inl (vp_updL f 0 ((r_eat S x0).toInt64))))))]) := hD
    refine lv_goto (tgt := 18) hx hb dL_eat_9 (by decide) ?_
    refine lv_iconst (v := nI 0) hx hb dL_eat_18 (by decide) ?_
    have ew : ((cb_W a k (S_eat S x0) (c_sl (S_eat S x0)) (c_pt (S_eat S x0)) (c_at (S_eat S x0))) ++ [(q, .inl (kq, (1, .inr (.inl (vp_updL f 0 ((r_eat S x0).toInt64))))))]) = (cb_w a k (kS (k_eat S x0) (S_eat S x0) S) ++ [(q, .inl (kq, (1, .inr (.inl (vp_updL f 0 ((r_eat S x0).toInt64))))))]) := by rw [hk9]; rfl
    have hP : va_P (dC, dI) vwCl (cb_w a k (kS (k_eat S x0) (S_eat S x0) S) ++ [(q, .inl (kq, (1, .inr (.inl (vp_updL f 0 ((r_eat S x0).toInt64))))))]) H := by rw [← ew]; exact hP
    have hD : va_D A (cb_w a k (kS (k_eat S x0) (S_eat S x0) S) ++ [(q, .inl (kq, (1, .inr (.inl (vp_updL f 0 ((r_eat S x0).toInt64))))))]) := by rw [← ew]; exact hD
    rw [hQ]
    exact W.iret (v := nI 0) hx hb hr (fun t9 ht9 hW9 => ⟨⟨nI 0, (vp_updL f 0 ((r_eat S x0).toInt64)), rfl, ⟨by rw [hk9], fun _ => pk_uLs⟩, cB_of hP hK hD ht9 hW9⟩, hS.F ht9⟩) hS.2.2 dL_eat_19
abbrev rm_L_table : Room := { frames := 8, cells := 8, slots := 48, locals := 140 }
set_option maxHeartbeats 4000000 in
set_option maxRecDepth 100000 in
theorem c_L_table (l : Launch) (hl9 : l.stackTraces = false) (dC : Nat → ClassId) (dI : Nat → Nat → Nat) (a : Nat → Nat) (k : Nat → ClassId) (S : cs_S) (q : Nat) (kq : ClassId) (f : Nat → Int64) (sz : Nat) (x0 : Int32) (hI : Inv S) : Met l yL_table wsL_table rm_L_table (va_Pc [.ref (a 0), .int x0, .ref q] (cV dC dI sz (cb_w a k S ++ [(q, .inl (kq, (1, .inr (.inl (f)))))]) (cb_ty k ++ [(kq, .long)]))) (va_Qi (fun (r : Int32) (f2 : Nat → Int64) => r = nI (k_table x0) ∧ (k_table x0 = 0 → f2 0 = (r_table S x0).toInt64)) (fun f2 t => cB dC dI (va_A (cb_w a k S ++ [(q, .inl (kq, (1, .inr (.inl (f)))))]) sz) (cb_w a k S ++ [(q, .inl (kq, (1, .inr (.inl (f2)))))]) (cb_ty k ++ [(kq, .long)]) t) (va_A (cb_w a k S ++ [(q, .inl (kq, (1, .inr (.inl (f)))))]) sz)) 8 48 (va_A (cb_w a k S ++ [(q, .inl (kq, (1, .inr (.inl (f)))))]) sz) := by
  refine va_MetW (cc := cL_table) (maxL := 4) (ret := (some .int)) (hh := [(0, 9, 12, 19)]) (by decide) rfl ?_
  intro p e s m args below meth c s₁ B hml hv
  obtain ⟨rfl, ⟨hsz, hP, hK, hD0⟩, hE⟩ := hv
  have hx := B.exec
  have hb := B.bytes
  have hr := B.returns
  have hts := atoms_spec (ws := wsL_table) B.pre
  have hown : s.vm.findClass RL = some m.cls := findClass_of_methodNamed B.named
  have htb : c.exceptionTable.toList = tableOf [(0, 9, 12, 19)] := vx_table (x := yL_table) B (hts (.codeWith yL_table cL_table 4 (some .int) [(0, 9, 12, 19)]) List.mem_cons_self)
  subst hsz
  have hD := hD0.self (sz := s.heap.size)
  generalize hAe : va_A (cb_w a k S ++ [(q, .inl (kq, (1, .inr (.inl (f)))))]) s.heap.size = A at hD hE ⊢
  have hA : ∀ q : Nat, s.heap.size ≤ q → A q := fun q h => by rw [← hAe]; exact Or.inr h
  have hS : va_S A s.heap s.heap [] := va_S.rf
  obtain ⟨Q, hQ⟩ : ∃ Q, Q = MQ below (va_Qi (fun (r : Int32) (f2 : Nat → Int64) => r = nI (k_table x0) ∧ (k_table x0 = 0 → f2 0 = (r_table S x0).toInt64)) (fun f2 t => cB dC dI A (cb_w a k S ++ [(q, .inl (kq, (1, .inr (.inl (f2)))))]) (cb_ty k ++ [(kq, .long)]) t) A) ([.ref (a 0), .int x0, .ref q] : List Value).toArray s 8 48 A := ⟨_, rfl⟩
  show W p l e rm_L_table s m _ below meth c s.heap [] 0 0 (MQ below _ _ _ _ _ _) _
  rw [← hQ]
  have f_0 := hts (.classLink RL 19 xE_I) (by decide +kernel)
  have hl := lv_entry ([.ref (a 0), .int x0, .ref q]) (n := 4) (Nat.le_of_ble_eq_true rfl)
  rw [lg_entry_eq]
  generalize (lg_sl ([.ref (a 0), .int x0, .ref q]) ++ List.replicate (4 - (lg_sl ([.ref (a 0), .int x0, .ref q])).length) Slot.unset).toArray = ls at hl ⊢
  have hl : lv_has ls 4 [(0, .ref (a 0)), (1, .int x0), (2, .ref q)] := hl
  refine lv_aload_n hx hb dL_table_0 rfl (lv_at hl 2 rfl) ?_
  refine lv_iconst (v := nI 0) hx hb dL_table_1 (by decide) ?_
  refine lv_aload_n hx hb dL_table_2 rfl (lv_at hl 0 rfl) ?_
  refine lv_iload_n hx hb dL_table_3 rfl (lv_at hl 1 rfl) ?_
  have hPc := hP.sub (ws' := (cb_w a k S)) [0, 1, 2, 3, 4, 5, 6, 7, 8, 9, 10, 11, 12, 13, 14, 15, 16, 17, 18, 19] rfl
  have hDc := hD.sub (ws' := (cb_w a k S)) [0, 1, 2, 3, 4, 5, 6, 7, 8, 9, 10, 11, 12, 13, 14, 15, 16, 17, 18, 19] (by decide) rfl
  have hKc := hK.sub (tys' := (cb_ty k)) [0, 1, 2, 3, 4, 5, 6, 7, 8, 9, 10, 11, 12, 13] rfl
  have hF : ∀ q9, va_A (cb_w a k S) s.heap.size q9 → A q9 := va_free hD hS hA [0, 1, 2, 3, 4, 5, 6, 7, 8, 9, 10, 11, 12, 13, 14, 15, 16, 17, 18, 19] rfl
  refine vx_calli (vx_runV (As := [.int x0]) (rest := [.int (nI 0), .ref q]) ⟨hx, hb, hml, hown, hts⟩ (c_X5_table l hl9 dC dI a k S s.heap.size x0 hI) (cwV 1 hts gL_table_X5_table rfl rfl rfl (by decide +kernel) ⟨(Nat.le_of_ble_eq_true rfl), (Nat.le_of_ble_eq_true rfl)⟩) ⟨cU_blind, va_recv hKc hPc (ci := 5) (q0 := 0) rfl rfl, fun U hU hW => ⟨rfl, cU_of hKc hPc hDc hE.1 hS hU hW hF⟩⟩ rfl rfl hl.1 rfl (lv_room (Nat.le_of_ble_eq_true rfl)) dL_table_4 ⟨(Nat.le_of_ble_eq_true rfl), (Nat.le_of_ble_eq_true rfl)⟩) hS (fun q9 _ h => hF q9 h) hF (fun q9 _ h => hF q9 h) (fun E ce q9 u8 t8 H1 L1 ht hvm _ hB hz1 hk1 hS hce hcv hcl => ?_) (fun r9 u8 t8 H1 L1 ht hvm hw hB hz1 hk1 hS => ?_)
  · obtain ⟨hpx9, hB⟩ := hB
    obtain ⟨hP9, -, hD9⟩ := hB
    rw [ht] at hP9
    obtain ⟨hP8, hD8⟩ := va_join (wc := (cb_w a k S)) (wr := [(q, .inl (kq, (1, .inr (.inl (f)))))]) hP hD [0, 1, 2, 3, 4, 5, 6, 7, 8, 9, 10, 11, 12, 13, 14, 15, 16, 17, 18, 19] [20] rfl rfl (by decide) (by decide) hk1 hF hP9 hD9
    have hP : va_P (dC, dI) vwCl (cb_w a k S ++ [(q, .inl (kq, (1, .inr (.inl (f)))))]) H1 := hP8.sub [1, 2, 3, 4, 5, 6, 7, 8, 9, 10, 11, 12, 13, 14, 15, 16, 17, 18, 19, 20, 0] rfl
    have hD : va_D A (cb_w a k S ++ [(q, .inl (kq, (1, .inr (.inl (f)))))]) := hD8.sub [1, 2, 3, 4, 5, 6, 7, 8, 9, 10, 11, 12, 13, 14, 15, 16, 17, 18, 19, 20, 0] (by decide) rfl
    obtain ⟨hk9, rfl⟩ := px_1 hpx9
    refine vx_catch (own := RL) (name := xE_I) (E := xE_I) hown [] (⟨0, 9, 12, 19⟩ : ExceptionTableEntry) [] htb (fun z hz => absurd hz List.not_mem_nil) (by decide) (by decide) f_0 (va_Nw.use rfl (hE.1.2.2.1 (.castable xE_I xE_I) (by decide +kernel))) hce hcv hcl ?_
    refine lv_astore_n (lv' := [(3, .ref q9), (0, .ref (a 0)), (1, .int x0), (2, .ref q)]) hx hb dL_table_12 rfl hl (by decide) rfl (fun ls hl => ?_)
    refine lv_iconst (v := nI 1) hx hb dL_table_13 (by decide) ?_
    skip
    rw [hQ]
    exact W.iret (v := nI 1) hx hb hr (fun t9 ht9 hW9 => ⟨⟨nI 1, f, rfl, ⟨by rw [hk9], fun h9 => absurd (hk9.symm.trans h9) (by decide)⟩, cB_of hP hK hD ht9 hW9⟩, hS.F ht9⟩) hS.2.2 dL_table_14
  · skip
    obtain ⟨hP9, -, hD9⟩ := hB
    rw [ht] at hP9
    obtain ⟨hP8, hD8⟩ := va_join (wc := (cb_w a k S)) (wr := [(q, .inl (kq, (1, .inr (.inl (f)))))]) hP hD [0, 1, 2, 3, 4, 5, 6, 7, 8, 9, 10, 11, 12, 13, 14, 15, 16, 17, 18, 19] [20] rfl rfl (by decide) (by decide) hk1 hF hP9 hD9
    have hP : va_P (dC, dI) vwCl (cb_w a k S ++ [(q, .inl (kq, (1, .inr (.inl (f)))))]) H1 := hP8.sub [1, 2, 3, 4, 5, 6, 7, 8, 9, 10, 11, 12, 13, 14, 15, 16, 17, 18, 19, 20, 0] rfl
    have hD : va_D A (cb_w a k S ++ [(q, .inl (kq, (1, .inr (.inl (f)))))]) := hD8.sub [1, 2, 3, 4, 5, 6, 7, 8, 9, 10, 11, 12, 13, 14, 15, 16, 17, 18, 19, 20, 0] (by decide) rfl
    obtain ⟨hk9, hr9⟩ := hw
    subst hr9
    have hP : va_P (dC, dI) vwCl ((cb_W a k S (c_sl S) (c_pt S) (c_at S)) ++ [(q, .inl (kq, (1, .inr (.inl (f)))))]) H1 := hP
    have hD : va_D A ((cb_W a k S (c_sl S) (c_pt S) (c_at S)) ++ [(q, .inl (kq, (1, .inr (.inl (f)))))]) := hD
    refine lv_i2l hx hb dL_table_7 rfl ?_
    refine cb_last hx hb hK hP hD hS 20 14 (f := f) rfl rfl (j := 0) (by omega) (Nat.le_of_ble_eq_true rfl) dL_table_8 (fun H locs hP hD hS => ?_)
    have hP : va_P (dC, dI) vwCl ((cb_W a k S (c_sl S) (c_pt S) (c_at S)) ++ [(q, .inl (kq, (1, .inr (.inl (vp_updL f 0 ((r_table S x0).toInt64))))))]) H := hP
    have hD : va_D A ((cb_W a k S (c_sl S) (c_pt S) (c_at S)) ++ [(q, .inl (kq, (1, .inr (.inl (vp_updL f 0 ((r_table S x0).toInt64))))))]) := hD
    refine lv_goto (tgt := 15) hx hb dL_table_9 (by decide) ?_
    refine lv_iconst (v := nI 0) hx hb dL_table_15 (by decide) ?_
    have ew : ((cb_W a k S (c_sl S) (c_pt S) (c_at S)) ++ [(q, .inl (kq, (1, .inr (.inl (vp_updL f 0 ((r_table S x0).toInt64))))))]) = (cb_w a k S ++ [(q, .inl (kq, (1, .inr (.inl (vp_updL f 0 ((r_table S x0).toInt64))))))]) := rfl
    have hP : va_P (dC, dI) vwCl (cb_w a k S ++ [(q, .inl (kq, (1, .inr (.inl (vp_updL f 0 ((r_table S x0).toInt64))))))]) H := by rw [← ew]; exact hP
    have hD : va_D A (cb_w a k S ++ [(q, .inl (kq, (1, .inr (.inl (vp_updL f 0 ((r_table S x0).toInt64))))))]) := by rw [← ew]; exact hD
    rw [hQ]
    exact W.iret (v := nI 0) hx hb hr (fun t9 ht9 hW9 => ⟨⟨nI 0, (vp_updL f 0 ((r_table S x0).toInt64)), rfl, ⟨by rw [hk9], fun _ => pk_uLs⟩, cB_of hP hK hD ht9 hW9⟩, hS.F ht9⟩) hS.2.2 dL_table_16
abbrev rm_L_addBadge : Room := { frames := 8, cells := 8, slots := 48, locals := 133 }
set_option maxHeartbeats 4000000 in
set_option maxRecDepth 100000 in
theorem c_L_addBadge (l : Launch) (hl9 : l.stackTraces = false) (dC : Nat → ClassId) (dI : Nat → Nat → Nat) (a : Nat → Nat) (k : Nat → ClassId) (S : cs_S) (q : Nat) (kq : ClassId) (f : Nat → Int64) (sz : Nat) (x0 : Int32) (hI : Inv S) : Met l yL_addBadge wsL_addBadge rm_L_addBadge (va_Pc [.ref (a 0), .int x0, .ref q] (cV dC dI sz (cb_w a k S ++ [(q, .inl (kq, (1, .inr (.inl (f)))))]) (cb_ty k ++ [(kq, .long)]))) (va_Qi (fun (r : Int32) (f2 : Nat → Int64) => r = nI (k_addBadge S x0) ∧ (k_addBadge S x0 = 0 → f2 0 = (nI (c_nb S)).toInt64)) (fun f2 t => cB dC dI (va_A (cb_w a k S ++ [(q, .inl (kq, (1, .inr (.inl (f)))))]) sz) (cb_w a k (kS (k_addBadge S x0) (S_addBadge S x0) S) ++ [(q, .inl (kq, (1, .inr (.inl (f2)))))]) (cb_ty k ++ [(kq, .long)]) t) (va_A (cb_w a k S ++ [(q, .inl (kq, (1, .inr (.inl (f)))))]) sz)) 8 48 (va_A (cb_w a k S ++ [(q, .inl (kq, (1, .inr (.inl (f)))))]) sz) := by
  refine va_MetW (cc := cL_addBadge) (maxL := 4) (ret := (some .int)) (hh := [(0, 9, 12, 21), (0, 9, 15, 13)]) (by decide) rfl ?_
  intro p e s m args below meth c s₁ B hml hv
  obtain ⟨rfl, ⟨hsz, hP, hK, hD0⟩, hE⟩ := hv
  have hx := B.exec
  have hb := B.bytes
  have hr := B.returns
  have hts := atoms_spec (ws := wsL_addBadge) B.pre
  have hown : s.vm.findClass RL = some m.cls := findClass_of_methodNamed B.named
  have htb : c.exceptionTable.toList = tableOf [(0, 9, 12, 21), (0, 9, 15, 13)] := vx_table (x := yL_addBadge) B (hts (.codeWith yL_addBadge cL_addBadge 4 (some .int) [(0, 9, 12, 21), (0, 9, 15, 13)]) List.mem_cons_self)
  subst hsz
  have hD := hD0.self (sz := s.heap.size)
  generalize hAe : va_A (cb_w a k S ++ [(q, .inl (kq, (1, .inr (.inl (f)))))]) s.heap.size = A at hD hE ⊢
  have hA : ∀ q : Nat, s.heap.size ≤ q → A q := fun q h => by rw [← hAe]; exact Or.inr h
  have hS : va_S A s.heap s.heap [] := va_S.rf
  obtain ⟨Q, hQ⟩ : ∃ Q, Q = MQ below (va_Qi (fun (r : Int32) (f2 : Nat → Int64) => r = nI (k_addBadge S x0) ∧ (k_addBadge S x0 = 0 → f2 0 = (nI (c_nb S)).toInt64)) (fun f2 t => cB dC dI A (cb_w a k (kS (k_addBadge S x0) (S_addBadge S x0) S) ++ [(q, .inl (kq, (1, .inr (.inl (f2)))))]) (cb_ty k ++ [(kq, .long)]) t) A) ([.ref (a 0), .int x0, .ref q] : List Value).toArray s 8 48 A := ⟨_, rfl⟩
  show W p l e rm_L_addBadge s m _ below meth c s.heap [] 0 0 (MQ below _ _ _ _ _ _) _
  rw [← hQ]
  have f_0 := hts (.classLink RL 21 xE_A) (by decide +kernel)
  have f_1 := hts (.classLink RL 13 xE_S) (by decide +kernel)
  have hl := lv_entry ([.ref (a 0), .int x0, .ref q]) (n := 4) (Nat.le_of_ble_eq_true rfl)
  rw [lg_entry_eq]
  generalize (lg_sl ([.ref (a 0), .int x0, .ref q]) ++ List.replicate (4 - (lg_sl ([.ref (a 0), .int x0, .ref q])).length) Slot.unset).toArray = ls at hl ⊢
  have hl : lv_has ls 4 [(0, .ref (a 0)), (1, .int x0), (2, .ref q)] := hl
  refine lv_aload_n hx hb dL_addBadge_0 rfl (lv_at hl 2 rfl) ?_
  refine lv_iconst (v := nI 0) hx hb dL_addBadge_1 (by decide) ?_
  refine lv_aload_n hx hb dL_addBadge_2 rfl (lv_at hl 0 rfl) ?_
  refine lv_iload_n hx hb dL_addBadge_3 rfl (lv_at hl 1 rfl) ?_
  have hPc := hP.sub (ws' := (cb_w a k S)) [0, 1, 2, 3, 4, 5, 6, 7, 8, 9, 10, 11, 12, 13, 14, 15, 16, 17, 18, 19] rfl
  have hDc := hD.sub (ws' := (cb_w a k S)) [0, 1, 2, 3, 4, 5, 6, 7, 8, 9, 10, 11, 12, 13, 14, 15, 16, 17, 18, 19] (by decide) rfl
  have hKc := hK.sub (tys' := (cb_ty k)) [0, 1, 2, 3, 4, 5, 6, 7, 8, 9, 10, 11, 12, 13] rfl
  have hF : ∀ q9, va_A (cb_w a k S) s.heap.size q9 → A q9 := va_free hD hS hA [0, 1, 2, 3, 4, 5, 6, 7, 8, 9, 10, 11, 12, 13, 14, 15, 16, 17, 18, 19] rfl
  refine vx_calli (vx_runV (As := [.int x0]) (rest := [.int (nI 0), .ref q]) ⟨hx, hb, hml, hown, hts⟩ (c_X5_addBadge l hl9 dC dI a k S s.heap.size x0 hI) (cwV 1 hts gL_addBadge_X5_addBadge rfl rfl rfl (by decide +kernel) ⟨(Nat.le_of_ble_eq_true rfl), (Nat.le_of_ble_eq_true rfl)⟩) ⟨cU_blind, va_recv hKc hPc (ci := 5) (q0 := 0) rfl rfl, fun U hU hW => ⟨rfl, cU_of hKc hPc hDc hE.1 hS hU hW hF⟩⟩ rfl rfl hl.1 rfl (lv_room (Nat.le_of_ble_eq_true rfl)) dL_addBadge_4 ⟨(Nat.le_of_ble_eq_true rfl), (Nat.le_of_ble_eq_true rfl)⟩) hS (fun q9 _ h => hF q9 h) hF (fun q9 _ h => hF q9 h) (fun E ce q9 u8 t8 H1 L1 ht hvm _ hB hz1 hk1 hS hce hcv hcl => ?_) (fun r9 u8 t8 H1 L1 ht hvm hw hB hz1 hk1 hS => ?_)
  · obtain ⟨hpx9, hB⟩ := hB
    obtain ⟨hP9, -, hD9⟩ := hB
    rw [ht] at hP9
    obtain ⟨hP8, hD8⟩ := va_join (wc := (cb_w a k S)) (wr := [(q, .inl (kq, (1, .inr (.inl (f)))))]) hP hD [0, 1, 2, 3, 4, 5, 6, 7, 8, 9, 10, 11, 12, 13, 14, 15, 16, 17, 18, 19] [20] rfl rfl (by decide) (by decide) hk1 hF hP9 hD9
    have hP : va_P (dC, dI) vwCl (cb_w a k S ++ [(q, .inl (kq, (1, .inr (.inl (f)))))]) H1 := hP8.sub [1, 2, 3, 4, 5, 6, 7, 8, 9, 10, 11, 12, 13, 14, 15, 16, 17, 18, 19, 20, 0] rfl
    have hD : va_D A (cb_w a k S ++ [(q, .inl (kq, (1, .inr (.inl (f)))))]) := hD8.sub [1, 2, 3, 4, 5, 6, 7, 8, 9, 10, 11, 12, 13, 14, 15, 16, 17, 18, 19, 20, 0] (by decide) rfl
    rcases px_2 hpx9 with ⟨hk9, rfl⟩ | ⟨hk9, rfl⟩
    · refine vx_catch (own := RL) (name := xE_A) (E := xE_A) hown [] (⟨0, 9, 12, 21⟩ : ExceptionTableEntry) [(⟨0, 9, 15, 13⟩ : ExceptionTableEntry)] htb (fun z hz => absurd hz List.not_mem_nil) (by decide) (by decide) f_0 (va_Nw.use rfl (hE.1.2.2.1 (.castable xE_A xE_A) (by decide +kernel))) hce hcv hcl ?_
      refine lv_astore_n (lv' := [(3, .ref q9), (0, .ref (a 0)), (1, .int x0), (2, .ref q)]) hx hb dL_addBadge_12 rfl hl (by decide) rfl (fun ls hl => ?_)
      refine lv_iconst (v := nI 1) hx hb dL_addBadge_13 (by decide) ?_
      have ew : (cb_w a k S ++ [(q, .inl (kq, (1, .inr (.inl (f)))))]) = (cb_w a k (kS (k_addBadge S x0) (S_addBadge S x0) S) ++ [(q, .inl (kq, (1, .inr (.inl (f)))))]) := by rw [hk9]; rfl
      have hP : va_P (dC, dI) vwCl (cb_w a k (kS (k_addBadge S x0) (S_addBadge S x0) S) ++ [(q, .inl (kq, (1, .inr (.inl (f)))))]) H1 := by rw [← ew]; exact hP
      have hD : va_D A (cb_w a k (kS (k_addBadge S x0) (S_addBadge S x0) S) ++ [(q, .inl (kq, (1, .inr (.inl (f)))))]) := by rw [← ew]; exact hD
      rw [hQ]
      exact W.iret (v := nI 1) hx hb hr (fun t9 ht9 hW9 => ⟨⟨nI 1, f, rfl, ⟨by rw [hk9], fun h9 => absurd (hk9.symm.trans h9) (by decide)⟩, cB_of hP hK hD ht9 hW9⟩, hS.F ht9⟩) hS.2.2 dL_addBadge_14
    · refine vx_catch (own := RL) (name := xE_S) (E := xE_S) hown [(⟨0, 9, 12, 21⟩ : ExceptionTableEntry)] (⟨0, 9, 15, 13⟩ : ExceptionTableEntry) [] htb (fun z hz => by cases List.mem_singleton.mp hz; exact Or.inr ⟨by decide, xE_A, f_0, hE.2 (xE_S, xE_A) (by decide +kernel)⟩) (by decide) (by decide) f_1 (va_Nw.use rfl (hE.1.2.2.1 (.castable xE_S xE_S) (by decide +kernel))) hce hcv hcl ?_
      refine lv_astore_n (lv' := [(3, .ref q9), (0, .ref (a 0)), (1, .int x0), (2, .ref q)]) hx hb dL_addBadge_15 rfl hl (by decide) rfl (fun ls hl => ?_)
      refine lv_iconst (v := nI 2) hx hb dL_addBadge_16 (by decide) ?_
      have ew : (cb_w a k S ++ [(q, .inl (kq, (1, .inr (.inl (f)))))]) = (cb_w a k (kS (k_addBadge S x0) (S_addBadge S x0) S) ++ [(q, .inl (kq, (1, .inr (.inl (f)))))]) := by rw [hk9]; rfl
      have hP : va_P (dC, dI) vwCl (cb_w a k (kS (k_addBadge S x0) (S_addBadge S x0) S) ++ [(q, .inl (kq, (1, .inr (.inl (f)))))]) H1 := by rw [← ew]; exact hP
      have hD : va_D A (cb_w a k (kS (k_addBadge S x0) (S_addBadge S x0) S) ++ [(q, .inl (kq, (1, .inr (.inl (f)))))]) := by rw [← ew]; exact hD
      rw [hQ]
      exact W.iret (v := nI 2) hx hb hr (fun t9 ht9 hW9 => ⟨⟨nI 2, f, rfl, ⟨by rw [hk9], fun h9 => absurd (hk9.symm.trans h9) (by decide)⟩, cB_of hP hK hD ht9 hW9⟩, hS.F ht9⟩) hS.2.2 dL_addBadge_17
  · skip
    obtain ⟨hP9, -, hD9⟩ := hB
    rw [ht] at hP9
    obtain ⟨hP8, hD8⟩ := va_join (wc := (cb_w a k S)) (wr := [(q, .inl (kq, (1, .inr (.inl (f)))))]) hP hD [0, 1, 2, 3, 4, 5, 6, 7, 8, 9, 10, 11, 12, 13, 14, 15, 16, 17, 18, 19] [20] rfl rfl (by decide) (by decide) hk1 hF hP9 hD9
    have hP : va_P (dC, dI) vwCl (cb_w a k (S_addBadge S x0) ++ [(q, .inl (kq, (1, .inr (.inl (f)))))]) H1 := hP8.sub [1, 2, 3, 4, 5, 6, 7, 8, 9, 10, 11, 12, 13, 14, 15, 16, 17, 18, 19, 20, 0] rfl
    have hD : va_D A (cb_w a k (S_addBadge S x0) ++ [(q, .inl (kq, (1, .inr (.inl (f)))))]) := hD8.sub [1, 2, 3, 4, 5, 6, 7, 8, 9, 10, 11, 12, 13, 14, 15, 16, 17, 18, 19, 20, 0] (by decide) rfl
    obtain ⟨hk9, hr9⟩ := hw
    subst hr9
    have hP : va_P (dC, dI) vwCl ((cb_W a k (S_addBadge S x0) (c_sl (S_addBadge S x0)) (c_pt (S_addBadge S x0)) (c_at (S_addBadge S x0))) ++ [(q, .inl (kq, (1, .inr (.inl (f)))))]) H1 := hP
    have hD : va_D A ((cb_W a k (S_addBadge S x0) (c_sl (S_addBadge S x0)) (c_pt (S_addBadge S x0)) (c_at (S_addBadge S x0))) ++ [(q, .inl (kq, (1, .inr (.inl (f)))))]) := hD
    refine lv_i2l hx hb dL_addBadge_7 rfl ?_
    refine cb_last hx hb hK hP hD hS 20 14 (f := f) rfl rfl (j := 0) (by omega) (Nat.le_of_ble_eq_true rfl) dL_addBadge_8 (fun H locs hP hD hS => ?_)
    have hP : va_P (dC, dI) vwCl ((cb_W a k (S_addBadge S x0) (c_sl (S_addBadge S x0)) (c_pt (S_addBadge S x0)) (c_at (S_addBadge S x0))) ++ [(q, .inl (kq, (1, .inr (.inl (vp_updL f 0 ((nI (c_nb S)).toInt64))))))]) H := hP
    have hD : va_D A ((cb_W a k (S_addBadge S x0) (c_sl (S_addBadge S x0)) (c_pt (S_addBadge S x0)) (c_at (S_addBadge S x0))) ++ [(q, .inl (kq, (1, .inr (.inl (vp_updL f 0 ((nI (c_nb S)).toInt64))))))]) := hD
    refine lv_goto (tgt := 18) hx hb dL_addBadge_9 (by decide) ?_
    refine lv_iconst (v := nI 0) hx hb dL_addBadge_18 (by decide) ?_
    have ew : ((cb_W a k (S_addBadge S x0) (c_sl (S_addBadge S x0)) (c_pt (S_addBadge S x0)) (c_at (S_addBadge S x0))) ++ [(q, .inl (kq, (1, .inr (.inl (vp_updL f 0 ((nI (c_nb S)).toInt64))))))]) = (cb_w a k (kS (k_addBadge S x0) (S_addBadge S x0) S) ++ [(q, .inl (kq, (1, .inr (.inl (vp_updL f 0 ((nI (c_nb S)).toInt64))))))]) := by rw [hk9]; rfl
    have hP : va_P (dC, dI) vwCl (cb_w a k (kS (k_addBadge S x0) (S_addBadge S x0) S) ++ [(q, .inl (kq, (1, .inr (.inl (vp_updL f 0 ((nI (c_nb S)).toInt64))))))]) H := by rw [← ew]; exact hP
    have hD : va_D A (cb_w a k (kS (k_addBadge S x0) (S_addBadge S x0) S) ++ [(q, .inl (kq, (1, .inr (.inl (vp_updL f 0 ((nI (c_nb S)).toInt64))))))]) := by rw [← ew]; exact hD
    rw [hQ]
    exact W.iret (v := nI 0) hx hb hr (fun t9 ht9 hW9 => ⟨⟨nI 0, (vp_updL f 0 ((nI (c_nb S)).toInt64)), rfl, ⟨by rw [hk9], fun _ => pk_uLs⟩, cB_of hP hK hD ht9 hW9⟩, hS.F ht9⟩) hS.2.2 dL_addBadge_19
abbrev rm_L_want : Room := { frames := 8, cells := 8, slots := 48, locals := 137 }
set_option maxHeartbeats 4000000 in
set_option maxRecDepth 100000 in
theorem c_L_want (l : Launch) (hl9 : l.stackTraces = false) (dC : Nat → ClassId) (dI : Nat → Nat → Nat) (a : Nat → Nat) (k : Nat → ClassId) (S : cs_S) (q : Nat) (kq : ClassId) (f : Nat → Int64) (sz : Nat) (x0 : Int32) (x1 : Int32) (x2 : Int32) (hI : Inv S) : Met l yL_want wsL_want rm_L_want (va_Pc [.ref (a 0), .int x0, .int x1, .int x2, .ref q] (cV dC dI sz (cb_w a k S ++ [(q, .inl (kq, (1, .inr (.inl (f)))))]) (cb_ty k ++ [(kq, .long)]))) (va_Qi (fun (r : Int32) (f2 : Nat → Int64) => r = nI (k_want S x0 x1 x2) ∧ (k_want S x0 x1 x2 = 0 → f2 0 = (r_want S x0 x1).toInt64)) (fun f2 t => cB dC dI (va_A (cb_w a k S ++ [(q, .inl (kq, (1, .inr (.inl (f)))))]) sz) (cb_w a k (kS (k_want S x0 x1 x2) (S_want S x0 x1 x2) S) ++ [(q, .inl (kq, (1, .inr (.inl (f2)))))]) (cb_ty k ++ [(kq, .long)]) t) (va_A (cb_w a k S ++ [(q, .inl (kq, (1, .inr (.inl (f)))))]) sz)) 8 48 (va_A (cb_w a k S ++ [(q, .inl (kq, (1, .inr (.inl (f)))))]) sz) := by
  refine va_MetW (cc := cL_want) (maxL := 6) (ret := (some .int)) (hh := [(0, 12, 15, 19), (0, 12, 19, 21)]) (by decide) rfl ?_
  intro p e s m args below meth c s₁ B hml hv
  obtain ⟨rfl, ⟨hsz, hP, hK, hD0⟩, hE⟩ := hv
  have hx := B.exec
  have hb := B.bytes
  have hr := B.returns
  have hts := atoms_spec (ws := wsL_want) B.pre
  have hown : s.vm.findClass RL = some m.cls := findClass_of_methodNamed B.named
  have htb : c.exceptionTable.toList = tableOf [(0, 12, 15, 19), (0, 12, 19, 21)] := vx_table (x := yL_want) B (hts (.codeWith yL_want cL_want 6 (some .int) [(0, 12, 15, 19), (0, 12, 19, 21)]) List.mem_cons_self)
  subst hsz
  have hD := hD0.self (sz := s.heap.size)
  generalize hAe : va_A (cb_w a k S ++ [(q, .inl (kq, (1, .inr (.inl (f)))))]) s.heap.size = A at hD hE ⊢
  have hA : ∀ q : Nat, s.heap.size ≤ q → A q := fun q h => by rw [← hAe]; exact Or.inr h
  have hS : va_S A s.heap s.heap [] := va_S.rf
  obtain ⟨Q, hQ⟩ : ∃ Q, Q = MQ below (va_Qi (fun (r : Int32) (f2 : Nat → Int64) => r = nI (k_want S x0 x1 x2) ∧ (k_want S x0 x1 x2 = 0 → f2 0 = (r_want S x0 x1).toInt64)) (fun f2 t => cB dC dI A (cb_w a k (kS (k_want S x0 x1 x2) (S_want S x0 x1 x2) S) ++ [(q, .inl (kq, (1, .inr (.inl (f2)))))]) (cb_ty k ++ [(kq, .long)]) t) A) ([.ref (a 0), .int x0, .int x1, .int x2, .ref q] : List Value).toArray s 8 48 A := ⟨_, rfl⟩
  show W p l e rm_L_want s m _ below meth c s.heap [] 0 0 (MQ below _ _ _ _ _ _) _
  rw [← hQ]
  have f_0 := hts (.classLink RL 19 xE_I) (by decide +kernel)
  have f_1 := hts (.classLink RL 21 xE_A) (by decide +kernel)
  have hl := lv_entry ([.ref (a 0), .int x0, .int x1, .int x2, .ref q]) (n := 6) (Nat.le_of_ble_eq_true rfl)
  rw [lg_entry_eq]
  generalize (lg_sl ([.ref (a 0), .int x0, .int x1, .int x2, .ref q]) ++ List.replicate (6 - (lg_sl ([.ref (a 0), .int x0, .int x1, .int x2, .ref q])).length) Slot.unset).toArray = ls at hl ⊢
  have hl : lv_has ls 6 [(0, .ref (a 0)), (1, .int x0), (2, .int x1), (3, .int x2), (4, .ref q)] := hl
  refine lv_aload hx hb dL_want_0 (lv_at hl 4 rfl) ?_
  refine lv_iconst (v := nI 0) hx hb dL_want_2 (by decide) ?_
  refine lv_aload_n hx hb dL_want_3 rfl (lv_at hl 0 rfl) ?_
  refine lv_iload_n hx hb dL_want_4 rfl (lv_at hl 1 rfl) ?_
  refine lv_iload_n hx hb dL_want_5 rfl (lv_at hl 2 rfl) ?_
  refine lv_iload_n hx hb dL_want_6 rfl (lv_at hl 3 rfl) ?_
  have hPc := hP.sub (ws' := (cb_w a k S)) [0, 1, 2, 3, 4, 5, 6, 7, 8, 9, 10, 11, 12, 13, 14, 15, 16, 17, 18, 19] rfl
  have hDc := hD.sub (ws' := (cb_w a k S)) [0, 1, 2, 3, 4, 5, 6, 7, 8, 9, 10, 11, 12, 13, 14, 15, 16, 17, 18, 19] (by decide) rfl
  have hKc := hK.sub (tys' := (cb_ty k)) [0, 1, 2, 3, 4, 5, 6, 7, 8, 9, 10, 11, 12, 13] rfl
  have hF : ∀ q9, va_A (cb_w a k S) s.heap.size q9 → A q9 := va_free hD hS hA [0, 1, 2, 3, 4, 5, 6, 7, 8, 9, 10, 11, 12, 13, 14, 15, 16, 17, 18, 19] rfl
  refine vx_calli (vx_runV (As := [.int x0, .int x1, .int x2]) (rest := [.int (nI 0), .ref q]) ⟨hx, hb, hml, hown, hts⟩ (c_X5_want l hl9 dC dI a k S s.heap.size x0 x1 x2 hI) (cwV 3 hts gL_want_X5_want rfl rfl rfl (by decide +kernel) ⟨(Nat.le_of_ble_eq_true rfl), (Nat.le_of_ble_eq_true rfl)⟩) ⟨cU_blind, va_recv hKc hPc (ci := 5) (q0 := 0) rfl rfl, fun U hU hW => ⟨rfl, cU_of hKc hPc hDc hE.1 hS hU hW hF⟩⟩ rfl rfl hl.1 rfl (lv_room (Nat.le_of_ble_eq_true rfl)) dL_want_7 ⟨(Nat.le_of_ble_eq_true rfl), (Nat.le_of_ble_eq_true rfl)⟩) hS (fun q9 _ h => hF q9 h) hF (fun q9 _ h => hF q9 h) (fun E ce q9 u8 t8 H1 L1 ht hvm _ hB hz1 hk1 hS hce hcv hcl => ?_) (fun r9 u8 t8 H1 L1 ht hvm hw hB hz1 hk1 hS => ?_)
  · obtain ⟨hpx9, hB⟩ := hB
    obtain ⟨hP9, -, hD9⟩ := hB
    rw [ht] at hP9
    obtain ⟨hP8, hD8⟩ := va_join (wc := (cb_w a k S)) (wr := [(q, .inl (kq, (1, .inr (.inl (f)))))]) hP hD [0, 1, 2, 3, 4, 5, 6, 7, 8, 9, 10, 11, 12, 13, 14, 15, 16, 17, 18, 19] [20] rfl rfl (by decide) (by decide) hk1 hF hP9 hD9
    have hP : va_P (dC, dI) vwCl (cb_w a k S ++ [(q, .inl (kq, (1, .inr (.inl (f)))))]) H1 := hP8.sub [1, 2, 3, 4, 5, 6, 7, 8, 9, 10, 11, 12, 13, 14, 15, 16, 17, 18, 19, 20, 0] rfl
    have hD : va_D A (cb_w a k S ++ [(q, .inl (kq, (1, .inr (.inl (f)))))]) := hD8.sub [1, 2, 3, 4, 5, 6, 7, 8, 9, 10, 11, 12, 13, 14, 15, 16, 17, 18, 19, 20, 0] (by decide) rfl
    rcases px_2 hpx9 with ⟨hk9, rfl⟩ | ⟨hk9, rfl⟩
    · refine vx_catch (own := RL) (name := xE_I) (E := xE_I) hown [] (⟨0, 12, 15, 19⟩ : ExceptionTableEntry) [(⟨0, 12, 19, 21⟩ : ExceptionTableEntry)] htb (fun z hz => absurd hz List.not_mem_nil) (by decide) (by decide) f_0 (va_Nw.use rfl (hE.1.2.2.1 (.castable xE_I xE_I) (by decide +kernel))) hce hcv hcl ?_
      refine lv_astore (lv' := [(5, .ref q9), (0, .ref (a 0)), (1, .int x0), (2, .int x1), (3, .int x2), (4, .ref q)]) hx hb dL_want_15 hl (by decide) rfl (fun ls hl => ?_)
      refine lv_iconst (v := nI 1) hx hb dL_want_17 (by decide) ?_
      have ew : (cb_w a k S ++ [(q, .inl (kq, (1, .inr (.inl (f)))))]) = (cb_w a k (kS (k_want S x0 x1 x2) (S_want S x0 x1 x2) S) ++ [(q, .inl (kq, (1, .inr (.inl (f)))))]) := by rw [hk9]; rfl
      have hP : va_P (dC, dI) vwCl (cb_w a k (kS (k_want S x0 x1 x2) (S_want S x0 x1 x2) S) ++ [(q, .inl (kq, (1, .inr (.inl (f)))))]) H1 := by rw [← ew]; exact hP
      have hD : va_D A (cb_w a k (kS (k_want S x0 x1 x2) (S_want S x0 x1 x2) S) ++ [(q, .inl (kq, (1, .inr (.inl (f)))))]) := by rw [← ew]; exact hD
      rw [hQ]
      exact W.iret (v := nI 1) hx hb hr (fun t9 ht9 hW9 => ⟨⟨nI 1, f, rfl, ⟨by rw [hk9], fun h9 => absurd (hk9.symm.trans h9) (by decide)⟩, cB_of hP hK hD ht9 hW9⟩, hS.F ht9⟩) hS.2.2 dL_want_18
    · refine vx_catch (own := RL) (name := xE_A) (E := xE_A) hown [(⟨0, 12, 15, 19⟩ : ExceptionTableEntry)] (⟨0, 12, 19, 21⟩ : ExceptionTableEntry) [] htb (fun z hz => by cases List.mem_singleton.mp hz; exact Or.inr ⟨by decide, xE_I, f_0, hE.2 (xE_A, xE_I) (by decide +kernel)⟩) (by decide) (by decide) f_1 (va_Nw.use rfl (hE.1.2.2.1 (.castable xE_A xE_A) (by decide +kernel))) hce hcv hcl ?_
      refine lv_astore (lv' := [(5, .ref q9), (0, .ref (a 0)), (1, .int x0), (2, .int x1), (3, .int x2), (4, .ref q)]) hx hb dL_want_19 hl (by decide) rfl (fun ls hl => ?_)
      refine lv_iconst (v := nI 2) hx hb dL_want_21 (by decide) ?_
      have ew : (cb_w a k S ++ [(q, .inl (kq, (1, .inr (.inl (f)))))]) = (cb_w a k (kS (k_want S x0 x1 x2) (S_want S x0 x1 x2) S) ++ [(q, .inl (kq, (1, .inr (.inl (f)))))]) := by rw [hk9]; rfl
      have hP : va_P (dC, dI) vwCl (cb_w a k (kS (k_want S x0 x1 x2) (S_want S x0 x1 x2) S) ++ [(q, .inl (kq, (1, .inr (.inl (f)))))]) H1 := by rw [← ew]; exact hP
      have hD : va_D A (cb_w a k (kS (k_want S x0 x1 x2) (S_want S x0 x1 x2) S) ++ [(q, .inl (kq, (1, .inr (.inl (f)))))]) := by rw [← ew]; exact hD
      rw [hQ]
      exact W.iret (v := nI 2) hx hb hr (fun t9 ht9 hW9 => ⟨⟨nI 2, f, rfl, ⟨by rw [hk9], fun h9 => absurd (hk9.symm.trans h9) (by decide)⟩, cB_of hP hK hD ht9 hW9⟩, hS.F ht9⟩) hS.2.2 dL_want_22
  · skip
    obtain ⟨hP9, -, hD9⟩ := hB
    rw [ht] at hP9
    obtain ⟨hP8, hD8⟩ := va_join (wc := (cb_w a k S)) (wr := [(q, .inl (kq, (1, .inr (.inl (f)))))]) hP hD [0, 1, 2, 3, 4, 5, 6, 7, 8, 9, 10, 11, 12, 13, 14, 15, 16, 17, 18, 19] [20] rfl rfl (by decide) (by decide) hk1 hF hP9 hD9
    have hP : va_P (dC, dI) vwCl (cb_w a k (S_want S x0 x1 x2) ++ [(q, .inl (kq, (1, .inr (.inl (f)))))]) H1 := hP8.sub [1, 2, 3, 4, 5, 6, 7, 8, 9, 10, 11, 12, 13, 14, 15, 16, 17, 18, 19, 20, 0] rfl
    have hD : va_D A (cb_w a k (S_want S x0 x1 x2) ++ [(q, .inl (kq, (1, .inr (.inl (f)))))]) := hD8.sub [1, 2, 3, 4, 5, 6, 7, 8, 9, 10, 11, 12, 13, 14, 15, 16, 17, 18, 19, 20, 0] (by decide) rfl
    obtain ⟨hk9, hr9⟩ := hw
    subst hr9
    have hP : va_P (dC, dI) vwCl ((cb_W a k (S_want S x0 x1 x2) (c_sl (S_want S x0 x1 x2)) (c_pt (S_want S x0 x1 x2)) (c_at (S_want S x0 x1 x2))) ++ [(q, .inl (kq, (1, .inr (.inl (f)))))]) H1 := hP
    have hD : va_D A ((cb_W a k (S_want S x0 x1 x2) (c_sl (S_want S x0 x1 x2)) (c_pt (S_want S x0 x1 x2)) (c_at (S_want S x0 x1 x2))) ++ [(q, .inl (kq, (1, .inr (.inl (f)))))]) := hD
    refine lv_i2l hx hb dL_want_10 rfl ?_
    refine cb_last hx hb hK hP hD hS 20 14 (f := f) rfl rfl (j := 0) (by omega) (Nat.le_of_ble_eq_true rfl) dL_want_11 (fun H locs hP hD hS => ?_)
    have hP : va_P (dC, dI) vwCl ((cb_W a k (S_want S x0 x1 x2) (c_sl (S_want S x0 x1 x2)) (c_pt (S_want S x0 x1 x2)) (c_at (S_want S x0 x1 x2))) ++ [(q, .inl (kq, (1, .inr (.inl (vp_updL f 0 ((r_want S x0 x1).toInt64))))))]) H := hP
    have hD : va_D A ((cb_W a k (S_want S x0 x1 x2) (c_sl (S_want S x0 x1 x2)) (c_pt (S_want S x0 x1 x2)) (c_at (S_want S x0 x1 x2))) ++ [(q, .inl (kq, (1, .inr (.inl (vp_updL f 0 ((r_want S x0 x1).toInt64))))))]) := hD
    refine lv_goto (tgt := 23) hx hb dL_want_12 (by decide) ?_
    refine lv_iconst (v := nI 0) hx hb dL_want_23 (by decide) ?_
    have ew : ((cb_W a k (S_want S x0 x1 x2) (c_sl (S_want S x0 x1 x2)) (c_pt (S_want S x0 x1 x2)) (c_at (S_want S x0 x1 x2))) ++ [(q, .inl (kq, (1, .inr (.inl (vp_updL f 0 ((r_want S x0 x1).toInt64))))))]) = (cb_w a k (kS (k_want S x0 x1 x2) (S_want S x0 x1 x2) S) ++ [(q, .inl (kq, (1, .inr (.inl (vp_updL f 0 ((r_want S x0 x1).toInt64))))))]) := by rw [hk9]; rfl
    have hP : va_P (dC, dI) vwCl (cb_w a k (kS (k_want S x0 x1 x2) (S_want S x0 x1 x2) S) ++ [(q, .inl (kq, (1, .inr (.inl (vp_updL f 0 ((r_want S x0 x1).toInt64))))))]) H := by rw [← ew]; exact hP
    have hD : va_D A (cb_w a k (kS (k_want S x0 x1 x2) (S_want S x0 x1 x2) S) ++ [(q, .inl (kq, (1, .inr (.inl (vp_updL f 0 ((r_want S x0 x1).toInt64))))))]) := by rw [← ew]; exact hD
    rw [hQ]
    exact W.iret (v := nI 0) hx hb hr (fun t9 ht9 hW9 => ⟨⟨nI 0, (vp_updL f 0 ((r_want S x0 x1).toInt64)), rfl, ⟨by rw [hk9], fun _ => pk_uLs⟩, cB_of hP hK hD ht9 hW9⟩, hS.F ht9⟩) hS.2.2 dL_want_24
abbrev rm_L_practise : Room := { frames := 8, cells := 8, slots := 48, locals := 135 }
set_option maxHeartbeats 4000000 in
set_option maxRecDepth 100000 in
theorem c_L_practise (l : Launch) (hl9 : l.stackTraces = false) (dC : Nat → ClassId) (dI : Nat → Nat → Nat) (a : Nat → Nat) (k : Nat → ClassId) (S : cs_S) (q : Nat) (kq : ClassId) (f : Nat → Int64) (sz : Nat) (x0 : Int32) (x1 : Int32) (x2 : Int32) (hI : Inv S) : Met l yL_practise wsL_practise rm_L_practise (va_Pc [.ref (a 0), .int x0, .int x1, .int x2, .ref q] (cV dC dI sz (cb_w a k S ++ [(q, .inl (kq, (1, .inr (.inl (f)))))]) (cb_ty k ++ [(kq, .long)]))) (va_Qi (fun (r : Int32) (f2 : Nat → Int64) => r = nI (k_practise S x0 x1 x2) ∧ (k_practise S x0 x1 x2 = 0 → f2 0 = (r_practise S x0).toInt64)) (fun f2 t => cB dC dI (va_A (cb_w a k S ++ [(q, .inl (kq, (1, .inr (.inl (f)))))]) sz) (cb_w a k (kS (k_practise S x0 x1 x2) (S_practise S x0 x1 x2) S) ++ [(q, .inl (kq, (1, .inr (.inl (f2)))))]) (cb_ty k ++ [(kq, .long)]) t) (va_A (cb_w a k S ++ [(q, .inl (kq, (1, .inr (.inl (f)))))]) sz)) 8 48 (va_A (cb_w a k S ++ [(q, .inl (kq, (1, .inr (.inl (f)))))]) sz) := by
  refine va_MetW (cc := cL_practise) (maxL := 6) (ret := (some .int)) (hh := [(0, 12, 15, 19), (0, 12, 19, 21)]) (by decide) rfl ?_
  intro p e s m args below meth c s₁ B hml hv
  obtain ⟨rfl, ⟨hsz, hP, hK, hD0⟩, hE⟩ := hv
  have hx := B.exec
  have hb := B.bytes
  have hr := B.returns
  have hts := atoms_spec (ws := wsL_practise) B.pre
  have hown : s.vm.findClass RL = some m.cls := findClass_of_methodNamed B.named
  have htb : c.exceptionTable.toList = tableOf [(0, 12, 15, 19), (0, 12, 19, 21)] := vx_table (x := yL_practise) B (hts (.codeWith yL_practise cL_practise 6 (some .int) [(0, 12, 15, 19), (0, 12, 19, 21)]) List.mem_cons_self)
  subst hsz
  have hD := hD0.self (sz := s.heap.size)
  generalize hAe : va_A (cb_w a k S ++ [(q, .inl (kq, (1, .inr (.inl (f)))))]) s.heap.size = A at hD hE ⊢
  have hA : ∀ q : Nat, s.heap.size ≤ q → A q := fun q h => by rw [← hAe]; exact Or.inr h
  have hS : va_S A s.heap s.heap [] := va_S.rf
  obtain ⟨Q, hQ⟩ : ∃ Q, Q = MQ below (va_Qi (fun (r : Int32) (f2 : Nat → Int64) => r = nI (k_practise S x0 x1 x2) ∧ (k_practise S x0 x1 x2 = 0 → f2 0 = (r_practise S x0).toInt64)) (fun f2 t => cB dC dI A (cb_w a k (kS (k_practise S x0 x1 x2) (S_practise S x0 x1 x2) S) ++ [(q, .inl (kq, (1, .inr (.inl (f2)))))]) (cb_ty k ++ [(kq, .long)]) t) A) ([.ref (a 0), .int x0, .int x1, .int x2, .ref q] : List Value).toArray s 8 48 A := ⟨_, rfl⟩
  show W p l e rm_L_practise s m _ below meth c s.heap [] 0 0 (MQ below _ _ _ _ _ _) _
  rw [← hQ]
  have f_0 := hts (.classLink RL 19 xE_I) (by decide +kernel)
  have f_1 := hts (.classLink RL 21 xE_A) (by decide +kernel)
  have hl := lv_entry ([.ref (a 0), .int x0, .int x1, .int x2, .ref q]) (n := 6) (Nat.le_of_ble_eq_true rfl)
  rw [lg_entry_eq]
  generalize (lg_sl ([.ref (a 0), .int x0, .int x1, .int x2, .ref q]) ++ List.replicate (6 - (lg_sl ([.ref (a 0), .int x0, .int x1, .int x2, .ref q])).length) Slot.unset).toArray = ls at hl ⊢
  have hl : lv_has ls 6 [(0, .ref (a 0)), (1, .int x0), (2, .int x1), (3, .int x2), (4, .ref q)] := hl
  refine lv_aload hx hb dL_practise_0 (lv_at hl 4 rfl) ?_
  refine lv_iconst (v := nI 0) hx hb dL_practise_2 (by decide) ?_
  refine lv_aload_n hx hb dL_practise_3 rfl (lv_at hl 0 rfl) ?_
  refine lv_iload_n hx hb dL_practise_4 rfl (lv_at hl 1 rfl) ?_
  refine lv_iload_n hx hb dL_practise_5 rfl (lv_at hl 2 rfl) ?_
  refine lv_iload_n hx hb dL_practise_6 rfl (lv_at hl 3 rfl) ?_
  have hPc := hP.sub (ws' := (cb_w a k S)) [0, 1, 2, 3, 4, 5, 6, 7, 8, 9, 10, 11, 12, 13, 14, 15, 16, 17, 18, 19] rfl
  have hDc := hD.sub (ws' := (cb_w a k S)) [0, 1, 2, 3, 4, 5, 6, 7, 8, 9, 10, 11, 12, 13, 14, 15, 16, 17, 18, 19] (by decide) rfl
  have hKc := hK.sub (tys' := (cb_ty k)) [0, 1, 2, 3, 4, 5, 6, 7, 8, 9, 10, 11, 12, 13] rfl
  have hF : ∀ q9, va_A (cb_w a k S) s.heap.size q9 → A q9 := va_free hD hS hA [0, 1, 2, 3, 4, 5, 6, 7, 8, 9, 10, 11, 12, 13, 14, 15, 16, 17, 18, 19] rfl
  refine vx_calli (vx_runV (As := [.int x0, .int x1, .int x2]) (rest := [.int (nI 0), .ref q]) ⟨hx, hb, hml, hown, hts⟩ (c_X5_practise l hl9 dC dI a k S s.heap.size x0 x1 x2 hI) (cwV 3 hts gL_practise_X5_practise rfl rfl rfl (by decide +kernel) ⟨(Nat.le_of_ble_eq_true rfl), (Nat.le_of_ble_eq_true rfl)⟩) ⟨cU_blind, va_recv hKc hPc (ci := 5) (q0 := 0) rfl rfl, fun U hU hW => ⟨rfl, cU_of hKc hPc hDc hE.1 hS hU hW hF⟩⟩ rfl rfl hl.1 rfl (lv_room (Nat.le_of_ble_eq_true rfl)) dL_practise_7 ⟨(Nat.le_of_ble_eq_true rfl), (Nat.le_of_ble_eq_true rfl)⟩) hS (fun q9 _ h => hF q9 h) hF (fun q9 _ h => hF q9 h) (fun E ce q9 u8 t8 H1 L1 ht hvm _ hB hz1 hk1 hS hce hcv hcl => ?_) (fun r9 u8 t8 H1 L1 ht hvm hw hB hz1 hk1 hS => ?_)
  · obtain ⟨hpx9, hB⟩ := hB
    obtain ⟨hP9, -, hD9⟩ := hB
    rw [ht] at hP9
    obtain ⟨hP8, hD8⟩ := va_join (wc := (cb_w a k S)) (wr := [(q, .inl (kq, (1, .inr (.inl (f)))))]) hP hD [0, 1, 2, 3, 4, 5, 6, 7, 8, 9, 10, 11, 12, 13, 14, 15, 16, 17, 18, 19] [20] rfl rfl (by decide) (by decide) hk1 hF hP9 hD9
    have hP : va_P (dC, dI) vwCl (cb_w a k S ++ [(q, .inl (kq, (1, .inr (.inl (f)))))]) H1 := hP8.sub [1, 2, 3, 4, 5, 6, 7, 8, 9, 10, 11, 12, 13, 14, 15, 16, 17, 18, 19, 20, 0] rfl
    have hD : va_D A (cb_w a k S ++ [(q, .inl (kq, (1, .inr (.inl (f)))))]) := hD8.sub [1, 2, 3, 4, 5, 6, 7, 8, 9, 10, 11, 12, 13, 14, 15, 16, 17, 18, 19, 20, 0] (by decide) rfl
    rcases px_2 hpx9 with ⟨hk9, rfl⟩ | ⟨hk9, rfl⟩
    · refine vx_catch (own := RL) (name := xE_I) (E := xE_I) hown [] (⟨0, 12, 15, 19⟩ : ExceptionTableEntry) [(⟨0, 12, 19, 21⟩ : ExceptionTableEntry)] htb (fun z hz => absurd hz List.not_mem_nil) (by decide) (by decide) f_0 (va_Nw.use rfl (hE.1.2.2.1 (.castable xE_I xE_I) (by decide +kernel))) hce hcv hcl ?_
      refine lv_astore (lv' := [(5, .ref q9), (0, .ref (a 0)), (1, .int x0), (2, .int x1), (3, .int x2), (4, .ref q)]) hx hb dL_practise_15 hl (by decide) rfl (fun ls hl => ?_)
      refine lv_iconst (v := nI 1) hx hb dL_practise_17 (by decide) ?_
      have ew : (cb_w a k S ++ [(q, .inl (kq, (1, .inr (.inl (f)))))]) = (cb_w a k (kS (k_practise S x0 x1 x2) (S_practise S x0 x1 x2) S) ++ [(q, .inl (kq, (1, .inr (.inl (f)))))]) := by rw [hk9]; rfl
      have hP : va_P (dC, dI) vwCl (cb_w a k (kS (k_practise S x0 x1 x2) (S_practise S x0 x1 x2) S) ++ [(q, .inl (kq, (1, .inr (.inl (f)))))]) H1 := by rw [← ew]; exact hP
      have hD : va_D A (cb_w a k (kS (k_practise S x0 x1 x2) (S_practise S x0 x1 x2) S) ++ [(q, .inl (kq, (1, .inr (.inl (f)))))]) := by rw [← ew]; exact hD
      rw [hQ]
      exact W.iret (v := nI 1) hx hb hr (fun t9 ht9 hW9 => ⟨⟨nI 1, f, rfl, ⟨by rw [hk9], fun h9 => absurd (hk9.symm.trans h9) (by decide)⟩, cB_of hP hK hD ht9 hW9⟩, hS.F ht9⟩) hS.2.2 dL_practise_18
    · refine vx_catch (own := RL) (name := xE_A) (E := xE_A) hown [(⟨0, 12, 15, 19⟩ : ExceptionTableEntry)] (⟨0, 12, 19, 21⟩ : ExceptionTableEntry) [] htb (fun z hz => by cases List.mem_singleton.mp hz; exact Or.inr ⟨by decide, xE_I, f_0, hE.2 (xE_A, xE_I) (by decide +kernel)⟩) (by decide) (by decide) f_1 (va_Nw.use rfl (hE.1.2.2.1 (.castable xE_A xE_A) (by decide +kernel))) hce hcv hcl ?_
      refine lv_astore (lv' := [(5, .ref q9), (0, .ref (a 0)), (1, .int x0), (2, .int x1), (3, .int x2), (4, .ref q)]) hx hb dL_practise_19 hl (by decide) rfl (fun ls hl => ?_)
      refine lv_iconst (v := nI 2) hx hb dL_practise_21 (by decide) ?_
      have ew : (cb_w a k S ++ [(q, .inl (kq, (1, .inr (.inl (f)))))]) = (cb_w a k (kS (k_practise S x0 x1 x2) (S_practise S x0 x1 x2) S) ++ [(q, .inl (kq, (1, .inr (.inl (f)))))]) := by rw [hk9]; rfl
      have hP : va_P (dC, dI) vwCl (cb_w a k (kS (k_practise S x0 x1 x2) (S_practise S x0 x1 x2) S) ++ [(q, .inl (kq, (1, .inr (.inl (f)))))]) H1 := by rw [← ew]; exact hP
      have hD : va_D A (cb_w a k (kS (k_practise S x0 x1 x2) (S_practise S x0 x1 x2) S) ++ [(q, .inl (kq, (1, .inr (.inl (f)))))]) := by rw [← ew]; exact hD
      rw [hQ]
      exact W.iret (v := nI 2) hx hb hr (fun t9 ht9 hW9 => ⟨⟨nI 2, f, rfl, ⟨by rw [hk9], fun h9 => absurd (hk9.symm.trans h9) (by decide)⟩, cB_of hP hK hD ht9 hW9⟩, hS.F ht9⟩) hS.2.2 dL_practise_22
  · skip
    obtain ⟨hP9, -, hD9⟩ := hB
    rw [ht] at hP9
    obtain ⟨hP8, hD8⟩ := va_join (wc := (cb_w a k S)) (wr := [(q, .inl (kq, (1, .inr (.inl (f)))))]) hP hD [0, 1, 2, 3, 4, 5, 6, 7, 8, 9, 10, 11, 12, 13, 14, 15, 16, 17, 18, 19] [20] rfl rfl (by decide) (by decide) hk1 hF hP9 hD9
    have hP : va_P (dC, dI) vwCl (cb_w a k (S_practise S x0 x1 x2) ++ [(q, .inl (kq, (1, .inr (.inl (f)))))]) H1 := hP8.sub [1, 2, 3, 4, 5, 6, 7, 8, 9, 10, 11, 12, 13, 14, 15, 16, 17, 18, 19, 20, 0] rfl
    have hD : va_D A (cb_w a k (S_practise S x0 x1 x2) ++ [(q, .inl (kq, (1, .inr (.inl (f)))))]) := hD8.sub [1, 2, 3, 4, 5, 6, 7, 8, 9, 10, 11, 12, 13, 14, 15, 16, 17, 18, 19, 20, 0] (by decide) rfl
    obtain ⟨hk9, hr9⟩ := hw
    subst hr9
    have hP : va_P (dC, dI) vwCl ((cb_W a k (S_practise S x0 x1 x2) (c_sl (S_practise S x0 x1 x2)) (c_pt (S_practise S x0 x1 x2)) (c_at (S_practise S x0 x1 x2))) ++ [(q, .inl (kq, (1, .inr (.inl (f)))))]) H1 := hP
    have hD : va_D A ((cb_W a k (S_practise S x0 x1 x2) (c_sl (S_practise S x0 x1 x2)) (c_pt (S_practise S x0 x1 x2)) (c_at (S_practise S x0 x1 x2))) ++ [(q, .inl (kq, (1, .inr (.inl (f)))))]) := hD
    refine lv_i2l hx hb dL_practise_10 rfl ?_
    refine cb_last hx hb hK hP hD hS 20 14 (f := f) rfl rfl (j := 0) (by omega) (Nat.le_of_ble_eq_true rfl) dL_practise_11 (fun H locs hP hD hS => ?_)
    have hP : va_P (dC, dI) vwCl ((cb_W a k (S_practise S x0 x1 x2) (c_sl (S_practise S x0 x1 x2)) (c_pt (S_practise S x0 x1 x2)) (c_at (S_practise S x0 x1 x2))) ++ [(q, .inl (kq, (1, .inr (.inl (vp_updL f 0 ((r_practise S x0).toInt64))))))]) H := hP
    have hD : va_D A ((cb_W a k (S_practise S x0 x1 x2) (c_sl (S_practise S x0 x1 x2)) (c_pt (S_practise S x0 x1 x2)) (c_at (S_practise S x0 x1 x2))) ++ [(q, .inl (kq, (1, .inr (.inl (vp_updL f 0 ((r_practise S x0).toInt64))))))]) := hD
    refine lv_goto (tgt := 23) hx hb dL_practise_12 (by decide) ?_
    refine lv_iconst (v := nI 0) hx hb dL_practise_23 (by decide) ?_
    have ew : ((cb_W a k (S_practise S x0 x1 x2) (c_sl (S_practise S x0 x1 x2)) (c_pt (S_practise S x0 x1 x2)) (c_at (S_practise S x0 x1 x2))) ++ [(q, .inl (kq, (1, .inr (.inl (vp_updL f 0 ((r_practise S x0).toInt64))))))]) = (cb_w a k (kS (k_practise S x0 x1 x2) (S_practise S x0 x1 x2) S) ++ [(q, .inl (kq, (1, .inr (.inl (vp_updL f 0 ((r_practise S x0).toInt64))))))]) := by rw [hk9]; rfl
    have hP : va_P (dC, dI) vwCl (cb_w a k (kS (k_practise S x0 x1 x2) (S_practise S x0 x1 x2) S) ++ [(q, .inl (kq, (1, .inr (.inl (vp_updL f 0 ((r_practise S x0).toInt64))))))]) H := by rw [← ew]; exact hP
    have hD : va_D A (cb_w a k (kS (k_practise S x0 x1 x2) (S_practise S x0 x1 x2) S) ++ [(q, .inl (kq, (1, .inr (.inl (vp_updL f 0 ((r_practise S x0).toInt64))))))]) := by rw [← ew]; exact hD
    rw [hQ]
    exact W.iret (v := nI 0) hx hb hr (fun t9 ht9 hW9 => ⟨⟨nI 0, (vp_updL f 0 ((r_practise S x0).toInt64)), rfl, ⟨by rw [hk9], fun _ => pk_uLs⟩, cB_of hP hK hD ht9 hW9⟩, hS.F ht9⟩) hS.2.2 dL_practise_24
abbrev rm_L_away : Room := { frames := 8, cells := 8, slots := 48, locals := 133 }
set_option maxHeartbeats 4000000 in
set_option maxRecDepth 100000 in
theorem c_L_away (l : Launch) (hl9 : l.stackTraces = false) (dC : Nat → ClassId) (dI : Nat → Nat → Nat) (a : Nat → Nat) (k : Nat → ClassId) (S : cs_S) (q : Nat) (kq : ClassId) (f : Nat → Int64) (sz : Nat) (x0 : Int32) (x1 : Int32) (hI : Inv S) : Met l yL_away wsL_away rm_L_away (va_Pc [.ref (a 0), .int x0, .int x1, .ref q] (cV dC dI sz (cb_w a k S ++ [(q, .inl (kq, (1, .inr (.inl (f)))))]) (cb_ty k ++ [(kq, .long)]))) (va_Qi (fun (r : Int32) (f2 : Nat → Int64) => r = nI (k_away S x0 x1) ∧ (k_away S x0 x1 = 0 → f2 0 = (r_away S x0 x1).toInt64)) (fun f2 t => cB dC dI (va_A (cb_w a k S ++ [(q, .inl (kq, (1, .inr (.inl (f)))))]) sz) (cb_w a k S ++ [(q, .inl (kq, (1, .inr (.inl (f2)))))]) (cb_ty k ++ [(kq, .long)]) t) (va_A (cb_w a k S ++ [(q, .inl (kq, (1, .inr (.inl (f)))))]) sz)) 8 48 (va_A (cb_w a k S ++ [(q, .inl (kq, (1, .inr (.inl (f)))))]) sz) := by
  refine va_MetW (cc := cL_away) (maxL := 5) (ret := (some .int)) (hh := [(0, 10, 13, 19)]) (by decide) rfl ?_
  intro p e s m args below meth c s₁ B hml hv
  obtain ⟨rfl, ⟨hsz, hP, hK, hD0⟩, hE⟩ := hv
  have hx := B.exec
  have hb := B.bytes
  have hr := B.returns
  have hts := atoms_spec (ws := wsL_away) B.pre
  have hown : s.vm.findClass RL = some m.cls := findClass_of_methodNamed B.named
  have htb : c.exceptionTable.toList = tableOf [(0, 10, 13, 19)] := vx_table (x := yL_away) B (hts (.codeWith yL_away cL_away 5 (some .int) [(0, 10, 13, 19)]) List.mem_cons_self)
  subst hsz
  have hD := hD0.self (sz := s.heap.size)
  generalize hAe : va_A (cb_w a k S ++ [(q, .inl (kq, (1, .inr (.inl (f)))))]) s.heap.size = A at hD hE ⊢
  have hA : ∀ q : Nat, s.heap.size ≤ q → A q := fun q h => by rw [← hAe]; exact Or.inr h
  have hS : va_S A s.heap s.heap [] := va_S.rf
  obtain ⟨Q, hQ⟩ : ∃ Q, Q = MQ below (va_Qi (fun (r : Int32) (f2 : Nat → Int64) => r = nI (k_away S x0 x1) ∧ (k_away S x0 x1 = 0 → f2 0 = (r_away S x0 x1).toInt64)) (fun f2 t => cB dC dI A (cb_w a k S ++ [(q, .inl (kq, (1, .inr (.inl (f2)))))]) (cb_ty k ++ [(kq, .long)]) t) A) ([.ref (a 0), .int x0, .int x1, .ref q] : List Value).toArray s 8 48 A := ⟨_, rfl⟩
  show W p l e rm_L_away s m _ below meth c s.heap [] 0 0 (MQ below _ _ _ _ _ _) _
  rw [← hQ]
  have f_0 := hts (.classLink RL 19 xE_I) (by decide +kernel)
  have hl := lv_entry ([.ref (a 0), .int x0, .int x1, .ref q]) (n := 5) (Nat.le_of_ble_eq_true rfl)
  rw [lg_entry_eq]
  generalize (lg_sl ([.ref (a 0), .int x0, .int x1, .ref q]) ++ List.replicate (5 - (lg_sl ([.ref (a 0), .int x0, .int x1, .ref q])).length) Slot.unset).toArray = ls at hl ⊢
  have hl : lv_has ls 5 [(0, .ref (a 0)), (1, .int x0), (2, .int x1), (3, .ref q)] := hl
  refine lv_aload_n hx hb dL_away_0 rfl (lv_at hl 3 rfl) ?_
  refine lv_iconst (v := nI 0) hx hb dL_away_1 (by decide) ?_
  refine lv_aload_n hx hb dL_away_2 rfl (lv_at hl 0 rfl) ?_
  refine lv_iload_n hx hb dL_away_3 rfl (lv_at hl 1 rfl) ?_
  refine lv_iload_n hx hb dL_away_4 rfl (lv_at hl 2 rfl) ?_
  have hPc := hP.sub (ws' := (cb_w a k S)) [0, 1, 2, 3, 4, 5, 6, 7, 8, 9, 10, 11, 12, 13, 14, 15, 16, 17, 18, 19] rfl
  have hDc := hD.sub (ws' := (cb_w a k S)) [0, 1, 2, 3, 4, 5, 6, 7, 8, 9, 10, 11, 12, 13, 14, 15, 16, 17, 18, 19] (by decide) rfl
  have hKc := hK.sub (tys' := (cb_ty k)) [0, 1, 2, 3, 4, 5, 6, 7, 8, 9, 10, 11, 12, 13] rfl
  have hF : ∀ q9, va_A (cb_w a k S) s.heap.size q9 → A q9 := va_free hD hS hA [0, 1, 2, 3, 4, 5, 6, 7, 8, 9, 10, 11, 12, 13, 14, 15, 16, 17, 18, 19] rfl
  refine vx_calli (vx_runV (As := [.int x0, .int x1]) (rest := [.int (nI 0), .ref q]) ⟨hx, hb, hml, hown, hts⟩ (c_X5_away l hl9 dC dI a k S s.heap.size x0 x1 hI) (cwV 2 hts gL_away_X5_away rfl rfl rfl (by decide +kernel) ⟨(Nat.le_of_ble_eq_true rfl), (Nat.le_of_ble_eq_true rfl)⟩) ⟨cU_blind, va_recv hKc hPc (ci := 5) (q0 := 0) rfl rfl, fun U hU hW => ⟨rfl, cU_of hKc hPc hDc hE.1 hS hU hW hF⟩⟩ rfl rfl hl.1 rfl (lv_room (Nat.le_of_ble_eq_true rfl)) dL_away_5 ⟨(Nat.le_of_ble_eq_true rfl), (Nat.le_of_ble_eq_true rfl)⟩) hS (fun q9 _ h => hF q9 h) hF (fun q9 _ h => hF q9 h) (fun E ce q9 u8 t8 H1 L1 ht hvm _ hB hz1 hk1 hS hce hcv hcl => ?_) (fun r9 u8 t8 H1 L1 ht hvm hw hB hz1 hk1 hS => ?_)
  · obtain ⟨hpx9, hB⟩ := hB
    obtain ⟨hP9, -, hD9⟩ := hB
    rw [ht] at hP9
    obtain ⟨hP8, hD8⟩ := va_join (wc := (cb_w a k S)) (wr := [(q, .inl (kq, (1, .inr (.inl (f)))))]) hP hD [0, 1, 2, 3, 4, 5, 6, 7, 8, 9, 10, 11, 12, 13, 14, 15, 16, 17, 18, 19] [20] rfl rfl (by decide) (by decide) hk1 hF hP9 hD9
    have hP : va_P (dC, dI) vwCl (cb_w a k S ++ [(q, .inl (kq, (1, .inr (.inl (f)))))]) H1 := hP8.sub [1, 2, 3, 4, 5, 6, 7, 8, 9, 10, 11, 12, 13, 14, 15, 16, 17, 18, 19, 20, 0] rfl
    have hD : va_D A (cb_w a k S ++ [(q, .inl (kq, (1, .inr (.inl (f)))))]) := hD8.sub [1, 2, 3, 4, 5, 6, 7, 8, 9, 10, 11, 12, 13, 14, 15, 16, 17, 18, 19, 20, 0] (by decide) rfl
    obtain ⟨hk9, rfl⟩ := px_1 hpx9
    refine vx_catch (own := RL) (name := xE_I) (E := xE_I) hown [] (⟨0, 10, 13, 19⟩ : ExceptionTableEntry) [] htb (fun z hz => absurd hz List.not_mem_nil) (by decide) (by decide) f_0 (va_Nw.use rfl (hE.1.2.2.1 (.castable xE_I xE_I) (by decide +kernel))) hce hcv hcl ?_
    refine lv_astore (lv' := [(4, .ref q9), (0, .ref (a 0)), (1, .int x0), (2, .int x1), (3, .ref q)]) hx hb dL_away_13 hl (by decide) rfl (fun ls hl => ?_)
    refine lv_iconst (v := nI 1) hx hb dL_away_15 (by decide) ?_
    skip
    rw [hQ]
    exact W.iret (v := nI 1) hx hb hr (fun t9 ht9 hW9 => ⟨⟨nI 1, f, rfl, ⟨by rw [hk9], fun h9 => absurd (hk9.symm.trans h9) (by decide)⟩, cB_of hP hK hD ht9 hW9⟩, hS.F ht9⟩) hS.2.2 dL_away_16
  · skip
    obtain ⟨hP9, -, hD9⟩ := hB
    rw [ht] at hP9
    obtain ⟨hP8, hD8⟩ := va_join (wc := (cb_w a k S)) (wr := [(q, .inl (kq, (1, .inr (.inl (f)))))]) hP hD [0, 1, 2, 3, 4, 5, 6, 7, 8, 9, 10, 11, 12, 13, 14, 15, 16, 17, 18, 19] [20] rfl rfl (by decide) (by decide) hk1 hF hP9 hD9
    have hP : va_P (dC, dI) vwCl (cb_w a k S ++ [(q, .inl (kq, (1, .inr (.inl (f)))))]) H1 := hP8.sub [1, 2, 3, 4, 5, 6, 7, 8, 9, 10, 11, 12, 13, 14, 15, 16, 17, 18, 19, 20, 0] rfl
    have hD : va_D A (cb_w a k S ++ [(q, .inl (kq, (1, .inr (.inl (f)))))]) := hD8.sub [1, 2, 3, 4, 5, 6, 7, 8, 9, 10, 11, 12, 13, 14, 15, 16, 17, 18, 19, 20, 0] (by decide) rfl
    obtain ⟨hk9, hr9⟩ := hw
    subst hr9
    have hP : va_P (dC, dI) vwCl ((cb_W a k S (c_sl S) (c_pt S) (c_at S)) ++ [(q, .inl (kq, (1, .inr (.inl (f)))))]) H1 := hP
    have hD : va_D A ((cb_W a k S (c_sl S) (c_pt S) (c_at S)) ++ [(q, .inl (kq, (1, .inr (.inl (f)))))]) := hD
    refine lv_i2l hx hb dL_away_8 rfl ?_
    refine cb_last hx hb hK hP hD hS 20 14 (f := f) rfl rfl (j := 0) (by omega) (Nat.le_of_ble_eq_true rfl) dL_away_9 (fun H locs hP hD hS => ?_)
    have hP : va_P (dC, dI) vwCl ((cb_W a k S (c_sl S) (c_pt S) (c_at S)) ++ [(q, .inl (kq, (1, .inr (.inl (vp_updL f 0 ((r_away S x0 x1).toInt64))))))]) H := hP
    have hD : va_D A ((cb_W a k S (c_sl S) (c_pt S) (c_at S)) ++ [(q, .inl (kq, (1, .inr (.inl (vp_updL f 0 ((r_away S x0 x1).toInt64))))))]) := hD
    refine lv_goto (tgt := 17) hx hb dL_away_10 (by decide) ?_
    refine lv_iconst (v := nI 0) hx hb dL_away_17 (by decide) ?_
    have ew : ((cb_W a k S (c_sl S) (c_pt S) (c_at S)) ++ [(q, .inl (kq, (1, .inr (.inl (vp_updL f 0 ((r_away S x0 x1).toInt64))))))]) = (cb_w a k S ++ [(q, .inl (kq, (1, .inr (.inl (vp_updL f 0 ((r_away S x0 x1).toInt64))))))]) := rfl
    have hP : va_P (dC, dI) vwCl (cb_w a k S ++ [(q, .inl (kq, (1, .inr (.inl (vp_updL f 0 ((r_away S x0 x1).toInt64))))))]) H := by rw [← ew]; exact hP
    have hD : va_D A (cb_w a k S ++ [(q, .inl (kq, (1, .inr (.inl (vp_updL f 0 ((r_away S x0 x1).toInt64))))))]) := by rw [← ew]; exact hD
    rw [hQ]
    exact W.iret (v := nI 0) hx hb hr (fun t9 ht9 hW9 => ⟨⟨nI 0, (vp_updL f 0 ((r_away S x0 x1).toInt64)), rfl, ⟨by rw [hk9], fun _ => pk_uLs⟩, cB_of hP hK hD ht9 hW9⟩, hS.F ht9⟩) hS.2.2 dL_away_18
abbrev rm_L_earn : Room := { frames := 8, cells := 8, slots := 48, locals := 133 }
set_option maxHeartbeats 4000000 in
set_option maxRecDepth 100000 in
theorem c_L_earn (l : Launch) (hl9 : l.stackTraces = false) (dC : Nat → ClassId) (dI : Nat → Nat → Nat) (a : Nat → Nat) (k : Nat → ClassId) (S : cs_S) (q : Nat) (kq : ClassId) (f : Nat → Int64) (sz : Nat) (x0 : Int32) (x1 : Int32) (hI : Inv S) : Met l yL_earn wsL_earn rm_L_earn (va_Pc [.ref (a 0), .int x0, .int x1, .ref q] (cV dC dI sz (cb_w a k S ++ [(q, .inl (kq, (1, .inr (.inl (f)))))]) (cb_ty k ++ [(kq, .long)]))) (va_Qi (fun (r : Int32) (f2 : Nat → Int64) => r = nI (k_earn S x0 x1) ∧ (k_earn S x0 x1 = 0 → f2 0 = (r_earn S x0 x1).toInt64)) (fun f2 t => cB dC dI (va_A (cb_w a k S ++ [(q, .inl (kq, (1, .inr (.inl (f)))))]) sz) (cb_w a k (kS (k_earn S x0 x1) (S_earn S x0 x1) S) ++ [(q, .inl (kq, (1, .inr (.inl (f2)))))]) (cb_ty k ++ [(kq, .long)]) t) (va_A (cb_w a k S ++ [(q, .inl (kq, (1, .inr (.inl (f)))))]) sz)) 8 48 (va_A (cb_w a k S ++ [(q, .inl (kq, (1, .inr (.inl (f)))))]) sz) := by
  refine va_MetW (cc := cL_earn) (maxL := 5) (ret := (some .int)) (hh := [(0, 10, 13, 19), (0, 10, 17, 13)]) (by decide) rfl ?_
  intro p e s m args below meth c s₁ B hml hv
  obtain ⟨rfl, ⟨hsz, hP, hK, hD0⟩, hE⟩ := hv
  have hx := B.exec
  have hb := B.bytes
  have hr := B.returns
  have hts := atoms_spec (ws := wsL_earn) B.pre
  have hown : s.vm.findClass RL = some m.cls := findClass_of_methodNamed B.named
  have htb : c.exceptionTable.toList = tableOf [(0, 10, 13, 19), (0, 10, 17, 13)] := vx_table (x := yL_earn) B (hts (.codeWith yL_earn cL_earn 5 (some .int) [(0, 10, 13, 19), (0, 10, 17, 13)]) List.mem_cons_self)
  subst hsz
  have hD := hD0.self (sz := s.heap.size)
  generalize hAe : va_A (cb_w a k S ++ [(q, .inl (kq, (1, .inr (.inl (f)))))]) s.heap.size = A at hD hE ⊢
  have hA : ∀ q : Nat, s.heap.size ≤ q → A q := fun q h => by rw [← hAe]; exact Or.inr h
  have hS : va_S A s.heap s.heap [] := va_S.rf
  obtain ⟨Q, hQ⟩ : ∃ Q, Q = MQ below (va_Qi (fun (r : Int32) (f2 : Nat → Int64) => r = nI (k_earn S x0 x1) ∧ (k_earn S x0 x1 = 0 → f2 0 = (r_earn S x0 x1).toInt64)) (fun f2 t => cB dC dI A (cb_w a k (kS (k_earn S x0 x1) (S_earn S x0 x1) S) ++ [(q, .inl (kq, (1, .inr (.inl (f2)))))]) (cb_ty k ++ [(kq, .long)]) t) A) ([.ref (a 0), .int x0, .int x1, .ref q] : List Value).toArray s 8 48 A := ⟨_, rfl⟩
  show W p l e rm_L_earn s m _ below meth c s.heap [] 0 0 (MQ below _ _ _ _ _ _) _
  rw [← hQ]
  have f_0 := hts (.classLink RL 19 xE_I) (by decide +kernel)
  have f_1 := hts (.classLink RL 13 xE_S) (by decide +kernel)
  have hl := lv_entry ([.ref (a 0), .int x0, .int x1, .ref q]) (n := 5) (Nat.le_of_ble_eq_true rfl)
  rw [lg_entry_eq]
  generalize (lg_sl ([.ref (a 0), .int x0, .int x1, .ref q]) ++ List.replicate (5 - (lg_sl ([.ref (a 0), .int x0, .int x1, .ref q])).length) Slot.unset).toArray = ls at hl ⊢
  have hl : lv_has ls 5 [(0, .ref (a 0)), (1, .int x0), (2, .int x1), (3, .ref q)] := hl
  refine lv_aload_n hx hb dL_earn_0 rfl (lv_at hl 3 rfl) ?_
  refine lv_iconst (v := nI 0) hx hb dL_earn_1 (by decide) ?_
  refine lv_aload_n hx hb dL_earn_2 rfl (lv_at hl 0 rfl) ?_
  refine lv_iload_n hx hb dL_earn_3 rfl (lv_at hl 1 rfl) ?_
  refine lv_iload_n hx hb dL_earn_4 rfl (lv_at hl 2 rfl) ?_
  have hPc := hP.sub (ws' := (cb_w a k S)) [0, 1, 2, 3, 4, 5, 6, 7, 8, 9, 10, 11, 12, 13, 14, 15, 16, 17, 18, 19] rfl
  have hDc := hD.sub (ws' := (cb_w a k S)) [0, 1, 2, 3, 4, 5, 6, 7, 8, 9, 10, 11, 12, 13, 14, 15, 16, 17, 18, 19] (by decide) rfl
  have hKc := hK.sub (tys' := (cb_ty k)) [0, 1, 2, 3, 4, 5, 6, 7, 8, 9, 10, 11, 12, 13] rfl
  have hF : ∀ q9, va_A (cb_w a k S) s.heap.size q9 → A q9 := va_free hD hS hA [0, 1, 2, 3, 4, 5, 6, 7, 8, 9, 10, 11, 12, 13, 14, 15, 16, 17, 18, 19] rfl
  refine vx_calli (vx_runV (As := [.int x0, .int x1]) (rest := [.int (nI 0), .ref q]) ⟨hx, hb, hml, hown, hts⟩ (c_X5_earn l hl9 dC dI a k S s.heap.size x0 x1 hI) (cwV 2 hts gL_earn_X5_earn rfl rfl rfl (by decide +kernel) ⟨(Nat.le_of_ble_eq_true rfl), (Nat.le_of_ble_eq_true rfl)⟩) ⟨cU_blind, va_recv hKc hPc (ci := 5) (q0 := 0) rfl rfl, fun U hU hW => ⟨rfl, cU_of hKc hPc hDc hE.1 hS hU hW hF⟩⟩ rfl rfl hl.1 rfl (lv_room (Nat.le_of_ble_eq_true rfl)) dL_earn_5 ⟨(Nat.le_of_ble_eq_true rfl), (Nat.le_of_ble_eq_true rfl)⟩) hS (fun q9 _ h => hF q9 h) hF (fun q9 _ h => hF q9 h) (fun E ce q9 u8 t8 H1 L1 ht hvm _ hB hz1 hk1 hS hce hcv hcl => ?_) (fun r9 u8 t8 H1 L1 ht hvm hw hB hz1 hk1 hS => ?_)
  · obtain ⟨hpx9, hB⟩ := hB
    obtain ⟨hP9, -, hD9⟩ := hB
    rw [ht] at hP9
    obtain ⟨hP8, hD8⟩ := va_join (wc := (cb_w a k S)) (wr := [(q, .inl (kq, (1, .inr (.inl (f)))))]) hP hD [0, 1, 2, 3, 4, 5, 6, 7, 8, 9, 10, 11, 12, 13, 14, 15, 16, 17, 18, 19] [20] rfl rfl (by decide) (by decide) hk1 hF hP9 hD9
    have hP : va_P (dC, dI) vwCl (cb_w a k S ++ [(q, .inl (kq, (1, .inr (.inl (f)))))]) H1 := hP8.sub [1, 2, 3, 4, 5, 6, 7, 8, 9, 10, 11, 12, 13, 14, 15, 16, 17, 18, 19, 20, 0] rfl
    have hD : va_D A (cb_w a k S ++ [(q, .inl (kq, (1, .inr (.inl (f)))))]) := hD8.sub [1, 2, 3, 4, 5, 6, 7, 8, 9, 10, 11, 12, 13, 14, 15, 16, 17, 18, 19, 20, 0] (by decide) rfl
    rcases px_2 hpx9 with ⟨hk9, rfl⟩ | ⟨hk9, rfl⟩
    · refine vx_catch (own := RL) (name := xE_I) (E := xE_I) hown [] (⟨0, 10, 13, 19⟩ : ExceptionTableEntry) [(⟨0, 10, 17, 13⟩ : ExceptionTableEntry)] htb (fun z hz => absurd hz List.not_mem_nil) (by decide) (by decide) f_0 (va_Nw.use rfl (hE.1.2.2.1 (.castable xE_I xE_I) (by decide +kernel))) hce hcv hcl ?_
      refine lv_astore (lv' := [(4, .ref q9), (0, .ref (a 0)), (1, .int x0), (2, .int x1), (3, .ref q)]) hx hb dL_earn_13 hl (by decide) rfl (fun ls hl => ?_)
      refine lv_iconst (v := nI 1) hx hb dL_earn_15 (by decide) ?_
      have ew : (cb_w a k S ++ [(q, .inl (kq, (1, .inr (.inl (f)))))]) = (cb_w a k (kS (k_earn S x0 x1) (S_earn S x0 x1) S) ++ [(q, .inl (kq, (1, .inr (.inl (f)))))]) := by rw [hk9]; rfl
      have hP : va_P (dC, dI) vwCl (cb_w a k (kS (k_earn S x0 x1) (S_earn S x0 x1) S) ++ [(q, .inl (kq, (1, .inr (.inl (f)))))]) H1 := by rw [← ew]; exact hP
      have hD : va_D A (cb_w a k (kS (k_earn S x0 x1) (S_earn S x0 x1) S) ++ [(q, .inl (kq, (1, .inr (.inl (f)))))]) := by rw [← ew]; exact hD
      rw [hQ]
      exact W.iret (v := nI 1) hx hb hr (fun t9 ht9 hW9 => ⟨⟨nI 1, f, rfl, ⟨by rw [hk9], fun h9 => absurd (hk9.symm.trans h9) (by decide)⟩, cB_of hP hK hD ht9 hW9⟩, hS.F ht9⟩) hS.2.2 dL_earn_16
    · refine vx_catch (own := RL) (name := xE_S) (E := xE_S) hown [(⟨0, 10, 13, 19⟩ : ExceptionTableEntry)] (⟨0, 10, 17, 13⟩ : ExceptionTableEntry) [] htb (fun z hz => by cases List.mem_singleton.mp hz; exact Or.inr ⟨by decide, xE_I, f_0, hE.2 (xE_S, xE_I) (by decide +kernel)⟩) (by decide) (by decide) f_1 (va_Nw.use rfl (hE.1.2.2.1 (.castable xE_S xE_S) (by decide +kernel))) hce hcv hcl ?_
      refine lv_astore (lv' := [(4, .ref q9), (0, .ref (a 0)), (1, .int x0), (2, .int x1), (3, .ref q)]) hx hb dL_earn_17 hl (by decide) rfl (fun ls hl => ?_)
      refine lv_iconst (v := nI 2) hx hb dL_earn_19 (by decide) ?_
      have ew : (cb_w a k S ++ [(q, .inl (kq, (1, .inr (.inl (f)))))]) = (cb_w a k (kS (k_earn S x0 x1) (S_earn S x0 x1) S) ++ [(q, .inl (kq, (1, .inr (.inl (f)))))]) := by rw [hk9]; rfl
      have hP : va_P (dC, dI) vwCl (cb_w a k (kS (k_earn S x0 x1) (S_earn S x0 x1) S) ++ [(q, .inl (kq, (1, .inr (.inl (f)))))]) H1 := by rw [← ew]; exact hP
      have hD : va_D A (cb_w a k (kS (k_earn S x0 x1) (S_earn S x0 x1) S) ++ [(q, .inl (kq, (1, .inr (.inl (f)))))]) := by rw [← ew]; exact hD
      rw [hQ]
      exact W.iret (v := nI 2) hx hb hr (fun t9 ht9 hW9 => ⟨⟨nI 2, f, rfl, ⟨by rw [hk9], fun h9 => absurd (hk9.symm.trans h9) (by decide)⟩, cB_of hP hK hD ht9 hW9⟩, hS.F ht9⟩) hS.2.2 dL_earn_20
  · skip
    obtain ⟨hP9, -, hD9⟩ := hB
    rw [ht] at hP9
    obtain ⟨hP8, hD8⟩ := va_join (wc := (cb_w a k S)) (wr := [(q, .inl (kq, (1, .inr (.inl (f)))))]) hP hD [0, 1, 2, 3, 4, 5, 6, 7, 8, 9, 10, 11, 12, 13, 14, 15, 16, 17, 18, 19] [20] rfl rfl (by decide) (by decide) hk1 hF hP9 hD9
    have hP : va_P (dC, dI) vwCl (cb_w a k (S_earn S x0 x1) ++ [(q, .inl (kq, (1, .inr (.inl (f)))))]) H1 := hP8.sub [1, 2, 3, 4, 5, 6, 7, 8, 9, 10, 11, 12, 13, 14, 15, 16, 17, 18, 19, 20, 0] rfl
    have hD : va_D A (cb_w a k (S_earn S x0 x1) ++ [(q, .inl (kq, (1, .inr (.inl (f)))))]) := hD8.sub [1, 2, 3, 4, 5, 6, 7, 8, 9, 10, 11, 12, 13, 14, 15, 16, 17, 18, 19, 20, 0] (by decide) rfl
    obtain ⟨hk9, hr9⟩ := hw
    subst hr9
    have hP : va_P (dC, dI) vwCl ((cb_W a k (S_earn S x0 x1) (c_sl (S_earn S x0 x1)) (c_pt (S_earn S x0 x1)) (c_at (S_earn S x0 x1))) ++ [(q, .inl (kq, (1, .inr (.inl (f)))))]) H1 := hP
    have hD : va_D A ((cb_W a k (S_earn S x0 x1) (c_sl (S_earn S x0 x1)) (c_pt (S_earn S x0 x1)) (c_at (S_earn S x0 x1))) ++ [(q, .inl (kq, (1, .inr (.inl (f)))))]) := hD
    refine lv_i2l hx hb dL_earn_8 rfl ?_
    refine cb_last hx hb hK hP hD hS 20 14 (f := f) rfl rfl (j := 0) (by omega) (Nat.le_of_ble_eq_true rfl) dL_earn_9 (fun H locs hP hD hS => ?_)
    have hP : va_P (dC, dI) vwCl ((cb_W a k (S_earn S x0 x1) (c_sl (S_earn S x0 x1)) (c_pt (S_earn S x0 x1)) (c_at (S_earn S x0 x1))) ++ [(q, .inl (kq, (1, .inr (.inl (vp_updL f 0 ((r_earn S x0 x1).toInt64))))))]) H := hP
    have hD : va_D A ((cb_W a k (S_earn S x0 x1) (c_sl (S_earn S x0 x1)) (c_pt (S_earn S x0 x1)) (c_at (S_earn S x0 x1))) ++ [(q, .inl (kq, (1, .inr (.inl (vp_updL f 0 ((r_earn S x0 x1).toInt64))))))]) := hD
    refine lv_goto (tgt := 21) hx hb dL_earn_10 (by decide) ?_
    refine lv_iconst (v := nI 0) hx hb dL_earn_21 (by decide) ?_
    have ew : ((cb_W a k (S_earn S x0 x1) (c_sl (S_earn S x0 x1)) (c_pt (S_earn S x0 x1)) (c_at (S_earn S x0 x1))) ++ [(q, .inl (kq, (1, .inr (.inl (vp_updL f 0 ((r_earn S x0 x1).toInt64))))))]) = (cb_w a k (kS (k_earn S x0 x1) (S_earn S x0 x1) S) ++ [(q, .inl (kq, (1, .inr (.inl (vp_updL f 0 ((r_earn S x0 x1).toInt64))))))]) := by rw [hk9]; rfl
    have hP : va_P (dC, dI) vwCl (cb_w a k (kS (k_earn S x0 x1) (S_earn S x0 x1) S) ++ [(q, .inl (kq, (1, .inr (.inl (vp_updL f 0 ((r_earn S x0 x1).toInt64))))))]) H := by rw [← ew]; exact hP
    have hD : va_D A (cb_w a k (kS (k_earn S x0 x1) (S_earn S x0 x1) S) ++ [(q, .inl (kq, (1, .inr (.inl (vp_updL f 0 ((r_earn S x0 x1).toInt64))))))]) := by rw [← ew]; exact hD
    rw [hQ]
    exact W.iret (v := nI 0) hx hb hr (fun t9 ht9 hW9 => ⟨⟨nI 0, (vp_updL f 0 ((r_earn S x0 x1).toInt64)), rfl, ⟨by rw [hk9], fun _ => pk_uLs⟩, cB_of hP hK hD ht9 hW9⟩, hS.F ht9⟩) hS.2.2 dL_earn_22
abbrev rm_L_hike : Room := { frames := 8, cells := 8, slots := 48, locals := 137 }
set_option maxHeartbeats 4000000 in
set_option maxRecDepth 100000 in
theorem c_L_hike (l : Launch) (hl9 : l.stackTraces = false) (dC : Nat → ClassId) (dI : Nat → Nat → Nat) (a : Nat → Nat) (k : Nat → ClassId) (S : cs_S) (q : Nat) (kq : ClassId) (f : Nat → Int64) (sz : Nat) (y : Int64) (x1 : Int32) (x2 : Int32) (hI : Inv S) : Met l yL_hike wsL_hike rm_L_hike (va_Pc [.ref (a 0), .long y, .int x1, .int x2, .ref q] (cV dC dI sz (cb_w a k S ++ [(q, .inl (kq, (1, .inr (.inl (f)))))]) (cb_ty k ++ [(kq, .long)]))) (va_Qi (fun (r : Int32) (f2 : Nat → Int64) => r = nI (k_hike S y x1 x2) ∧ (k_hike S y x1 x2 = 0 → f2 0 = (r_hike S y x1 x2).toInt64)) (fun f2 t => cB dC dI (va_A (cb_w a k S ++ [(q, .inl (kq, (1, .inr (.inl (f)))))]) sz) (cb_w a k S ++ [(q, .inl (kq, (1, .inr (.inl (f2)))))]) (cb_ty k ++ [(kq, .long)]) t) (va_A (cb_w a k S ++ [(q, .inl (kq, (1, .inr (.inl (f)))))]) sz)) 8 48 (va_A (cb_w a k S ++ [(q, .inl (kq, (1, .inr (.inl (f)))))]) sz) := by
  refine va_MetW (cc := cL_hike) (maxL := 7) (ret := (some .int)) (hh := [(0, 13, 16, 21), (0, 13, 20, 13)]) (by decide) rfl ?_
  intro p e s m args below meth c s₁ B hml hv
  obtain ⟨rfl, ⟨hsz, hP, hK, hD0⟩, hE⟩ := hv
  have hx := B.exec
  have hb := B.bytes
  have hr := B.returns
  have hts := atoms_spec (ws := wsL_hike) B.pre
  have hown : s.vm.findClass RL = some m.cls := findClass_of_methodNamed B.named
  have htb : c.exceptionTable.toList = tableOf [(0, 13, 16, 21), (0, 13, 20, 13)] := vx_table (x := yL_hike) B (hts (.codeWith yL_hike cL_hike 7 (some .int) [(0, 13, 16, 21), (0, 13, 20, 13)]) List.mem_cons_self)
  subst hsz
  have hD := hD0.self (sz := s.heap.size)
  generalize hAe : va_A (cb_w a k S ++ [(q, .inl (kq, (1, .inr (.inl (f)))))]) s.heap.size = A at hD hE ⊢
  have hA : ∀ q : Nat, s.heap.size ≤ q → A q := fun q h => by rw [← hAe]; exact Or.inr h
  have hS : va_S A s.heap s.heap [] := va_S.rf
  obtain ⟨Q, hQ⟩ : ∃ Q, Q = MQ below (va_Qi (fun (r : Int32) (f2 : Nat → Int64) => r = nI (k_hike S y x1 x2) ∧ (k_hike S y x1 x2 = 0 → f2 0 = (r_hike S y x1 x2).toInt64)) (fun f2 t => cB dC dI A (cb_w a k S ++ [(q, .inl (kq, (1, .inr (.inl (f2)))))]) (cb_ty k ++ [(kq, .long)]) t) A) ([.ref (a 0), .long y, .int x1, .int x2, .ref q] : List Value).toArray s 8 48 A := ⟨_, rfl⟩
  show W p l e rm_L_hike s m _ below meth c s.heap [] 0 0 (MQ below _ _ _ _ _ _) _
  rw [← hQ]
  have f_0 := hts (.classLink RL 21 xE_A) (by decide +kernel)
  have f_1 := hts (.classLink RL 13 xE_S) (by decide +kernel)
  have hl := lv_entry ([.ref (a 0), .long y, .int x1, .int x2, .ref q]) (n := 7) (Nat.le_of_ble_eq_true rfl)
  rw [lg_entry_eq]
  generalize (lg_sl ([.ref (a 0), .long y, .int x1, .int x2, .ref q]) ++ List.replicate (7 - (lg_sl ([.ref (a 0), .long y, .int x1, .int x2, .ref q])).length) Slot.unset).toArray = ls at hl ⊢
  have hl : lv_has ls 7 [(0, .ref (a 0)), (1, .long y), (3, .int x1), (4, .int x2), (5, .ref q)] := hl
  refine lv_aload hx hb dL_hike_0 (lv_at hl 4 rfl) ?_
  refine lv_iconst (v := nI 0) hx hb dL_hike_2 (by decide) ?_
  refine lv_aload_n hx hb dL_hike_3 rfl (lv_at hl 0 rfl) ?_
  refine lv_lload_n hx hb dL_hike_4 rfl (lv_at hl 1 rfl) ?_
  refine lv_iload_n hx hb dL_hike_5 rfl (lv_at hl 2 rfl) ?_
  refine lv_iload hx hb dL_hike_6 (lv_at hl 3 rfl) ?_
  have hPc := hP.sub (ws' := (cb_w a k S)) [0, 1, 2, 3, 4, 5, 6, 7, 8, 9, 10, 11, 12, 13, 14, 15, 16, 17, 18, 19] rfl
  have hDc := hD.sub (ws' := (cb_w a k S)) [0, 1, 2, 3, 4, 5, 6, 7, 8, 9, 10, 11, 12, 13, 14, 15, 16, 17, 18, 19] (by decide) rfl
  have hKc := hK.sub (tys' := (cb_ty k)) [0, 1, 2, 3, 4, 5, 6, 7, 8, 9, 10, 11, 12, 13] rfl
  have hF : ∀ q9, va_A (cb_w a k S) s.heap.size q9 → A q9 := va_free hD hS hA [0, 1, 2, 3, 4, 5, 6, 7, 8, 9, 10, 11, 12, 13, 14, 15, 16, 17, 18, 19] rfl
  refine vx_calli (vx_runV (As := [.long y, .int x1, .int x2]) (rest := [.int (nI 0), .ref q]) ⟨hx, hb, hml, hown, hts⟩ (c_X5_hike l hl9 dC dI a k S s.heap.size y x1 x2 hI) (cwV 3 hts gL_hike_X5_hike rfl rfl rfl (by decide +kernel) ⟨(Nat.le_of_ble_eq_true rfl), (Nat.le_of_ble_eq_true rfl)⟩) ⟨cU_blind, va_recv hKc hPc (ci := 5) (q0 := 0) rfl rfl, fun U hU hW => ⟨rfl, cU_of hKc hPc hDc hE.1 hS hU hW hF⟩⟩ rfl rfl hl.1 rfl (lv_room (Nat.le_of_ble_eq_true rfl)) dL_hike_8 ⟨(Nat.le_of_ble_eq_true rfl), (Nat.le_of_ble_eq_true rfl)⟩) hS (fun q9 _ h => hF q9 h) hF (fun q9 _ h => hF q9 h) (fun E ce q9 u8 t8 H1 L1 ht hvm _ hB hz1 hk1 hS hce hcv hcl => ?_) (fun r9 u8 t8 H1 L1 ht hvm hw hB hz1 hk1 hS => ?_)
  · obtain ⟨hpx9, hB⟩ := hB
    obtain ⟨hP9, -, hD9⟩ := hB
    rw [ht] at hP9
    obtain ⟨hP8, hD8⟩ := va_join (wc := (cb_w a k S)) (wr := [(q, .inl (kq, (1, .inr (.inl (f)))))]) hP hD [0, 1, 2, 3, 4, 5, 6, 7, 8, 9, 10, 11, 12, 13, 14, 15, 16, 17, 18, 19] [20] rfl rfl (by decide) (by decide) hk1 hF hP9 hD9
    have hP : va_P (dC, dI) vwCl (cb_w a k S ++ [(q, .inl (kq, (1, .inr (.inl (f)))))]) H1 := hP8.sub [1, 2, 3, 4, 5, 6, 7, 8, 9, 10, 11, 12, 13, 14, 15, 16, 17, 18, 19, 20, 0] rfl
    have hD : va_D A (cb_w a k S ++ [(q, .inl (kq, (1, .inr (.inl (f)))))]) := hD8.sub [1, 2, 3, 4, 5, 6, 7, 8, 9, 10, 11, 12, 13, 14, 15, 16, 17, 18, 19, 20, 0] (by decide) rfl
    rcases px_2 hpx9 with ⟨hk9, rfl⟩ | ⟨hk9, rfl⟩
    · refine vx_catch (own := RL) (name := xE_A) (E := xE_A) hown [] (⟨0, 13, 16, 21⟩ : ExceptionTableEntry) [(⟨0, 13, 20, 13⟩ : ExceptionTableEntry)] htb (fun z hz => absurd hz List.not_mem_nil) (by decide) (by decide) f_0 (va_Nw.use rfl (hE.1.2.2.1 (.castable xE_A xE_A) (by decide +kernel))) hce hcv hcl ?_
      refine lv_astore (lv' := [(6, .ref q9), (0, .ref (a 0)), (1, .long y), (3, .int x1), (4, .int x2), (5, .ref q)]) hx hb dL_hike_16 hl (by decide) rfl (fun ls hl => ?_)
      refine lv_iconst (v := nI 1) hx hb dL_hike_18 (by decide) ?_
      skip
      rw [hQ]
      exact W.iret (v := nI 1) hx hb hr (fun t9 ht9 hW9 => ⟨⟨nI 1, f, rfl, ⟨by rw [hk9], fun h9 => absurd (hk9.symm.trans h9) (by decide)⟩, cB_of hP hK hD ht9 hW9⟩, hS.F ht9⟩) hS.2.2 dL_hike_19
    · refine vx_catch (own := RL) (name := xE_S) (E := xE_S) hown [(⟨0, 13, 16, 21⟩ : ExceptionTableEntry)] (⟨0, 13, 20, 13⟩ : ExceptionTableEntry) [] htb (fun z hz => by cases List.mem_singleton.mp hz; exact Or.inr ⟨by decide, xE_A, f_0, hE.2 (xE_S, xE_A) (by decide +kernel)⟩) (by decide) (by decide) f_1 (va_Nw.use rfl (hE.1.2.2.1 (.castable xE_S xE_S) (by decide +kernel))) hce hcv hcl ?_
      refine lv_astore (lv' := [(6, .ref q9), (0, .ref (a 0)), (1, .long y), (3, .int x1), (4, .int x2), (5, .ref q)]) hx hb dL_hike_20 hl (by decide) rfl (fun ls hl => ?_)
      refine lv_iconst (v := nI 2) hx hb dL_hike_22 (by decide) ?_
      skip
      rw [hQ]
      exact W.iret (v := nI 2) hx hb hr (fun t9 ht9 hW9 => ⟨⟨nI 2, f, rfl, ⟨by rw [hk9], fun h9 => absurd (hk9.symm.trans h9) (by decide)⟩, cB_of hP hK hD ht9 hW9⟩, hS.F ht9⟩) hS.2.2 dL_hike_23
  · skip
    obtain ⟨hP9, -, hD9⟩ := hB
    rw [ht] at hP9
    obtain ⟨hP8, hD8⟩ := va_join (wc := (cb_w a k S)) (wr := [(q, .inl (kq, (1, .inr (.inl (f)))))]) hP hD [0, 1, 2, 3, 4, 5, 6, 7, 8, 9, 10, 11, 12, 13, 14, 15, 16, 17, 18, 19] [20] rfl rfl (by decide) (by decide) hk1 hF hP9 hD9
    have hP : va_P (dC, dI) vwCl (cb_w a k S ++ [(q, .inl (kq, (1, .inr (.inl (f)))))]) H1 := hP8.sub [1, 2, 3, 4, 5, 6, 7, 8, 9, 10, 11, 12, 13, 14, 15, 16, 17, 18, 19, 20, 0] rfl
    have hD : va_D A (cb_w a k S ++ [(q, .inl (kq, (1, .inr (.inl (f)))))]) := hD8.sub [1, 2, 3, 4, 5, 6, 7, 8, 9, 10, 11, 12, 13, 14, 15, 16, 17, 18, 19, 20, 0] (by decide) rfl
    obtain ⟨hk9, hr9⟩ := hw
    subst hr9
    have hP : va_P (dC, dI) vwCl ((cb_W a k S (c_sl S) (c_pt S) (c_at S)) ++ [(q, .inl (kq, (1, .inr (.inl (f)))))]) H1 := hP
    have hD : va_D A ((cb_W a k S (c_sl S) (c_pt S) (c_at S)) ++ [(q, .inl (kq, (1, .inr (.inl (f)))))]) := hD
    refine lv_i2l hx hb dL_hike_11 rfl ?_
    refine cb_last hx hb hK hP hD hS 20 14 (f := f) rfl rfl (j := 0) (by omega) (Nat.le_of_ble_eq_true rfl) dL_hike_12 (fun H locs hP hD hS => ?_)
    have hP : va_P (dC, dI) vwCl ((cb_W a k S (c_sl S) (c_pt S) (c_at S)) ++ [(q, .inl (kq, (1, .inr (.inl (vp_updL f 0 ((r_hike S y x1 x2).toInt64))))))]) H := hP
    have hD : va_D A ((cb_W a k S (c_sl S) (c_pt S) (c_at S)) ++ [(q, .inl (kq, (1, .inr (.inl (vp_updL f 0 ((r_hike S y x1 x2).toInt64))))))]) := hD
    refine lv_goto (tgt := 24) hx hb dL_hike_13 (by decide) ?_
    refine lv_iconst (v := nI 0) hx hb dL_hike_24 (by decide) ?_
    have ew : ((cb_W a k S (c_sl S) (c_pt S) (c_at S)) ++ [(q, .inl (kq, (1, .inr (.inl (vp_updL f 0 ((r_hike S y x1 x2).toInt64))))))]) = (cb_w a k S ++ [(q, .inl (kq, (1, .inr (.inl (vp_updL f 0 ((r_hike S y x1 x2).toInt64))))))]) := rfl
    have hP : va_P (dC, dI) vwCl (cb_w a k S ++ [(q, .inl (kq, (1, .inr (.inl (vp_updL f 0 ((r_hike S y x1 x2).toInt64))))))]) H := by rw [← ew]; exact hP
    have hD : va_D A (cb_w a k S ++ [(q, .inl (kq, (1, .inr (.inl (vp_updL f 0 ((r_hike S y x1 x2).toInt64))))))]) := by rw [← ew]; exact hD
    rw [hQ]
    exact W.iret (v := nI 0) hx hb hr (fun t9 ht9 hW9 => ⟨⟨nI 0, (vp_updL f 0 ((r_hike S y x1 x2).toInt64)), rfl, ⟨by rw [hk9], fun _ => pk_uLs⟩, cB_of hP hK hD ht9 hW9⟩, hS.F ht9⟩) hS.2.2 dL_hike_25
abbrev rm_L_end : Room := { frames := 7, cells := 8, slots := 48, locals := 110 }
set_option maxHeartbeats 4000000 in
set_option maxRecDepth 100000 in
theorem c_L_end (l : Launch) (hl9 : l.stackTraces = false) (dC : Nat → ClassId) (dI : Nat → Nat → Nat) (a : Nat → Nat) (k : Nat → ClassId) (S : cs_S) (q : Nat) (kq : ClassId) (f : Nat → Int64) (sz : Nat)  (hI : Inv S) : Met l yL_end wsL_end rm_L_end (va_Pc [.ref (a 0), .ref q] (cV dC dI sz (cb_w a k S ++ [(q, .inl (kq, (1, .inr (.inl (f)))))]) (cb_ty k ++ [(kq, .long)]))) (va_Qi (fun (r : Int32) (f2 : Nat → Int64) => r = nI (k_end S) ∧ (k_end S = 0 → f2 0 = (nI (c_day S + 1)).toInt64)) (fun f2 t => cB dC dI (va_A (cb_w a k S ++ [(q, .inl (kq, (1, .inr (.inl (f)))))]) sz) (cb_w a k (kS (k_end S) (S_end S) S) ++ [(q, .inl (kq, (1, .inr (.inl (f2)))))]) (cb_ty k ++ [(kq, .long)]) t) (va_A (cb_w a k S ++ [(q, .inl (kq, (1, .inr (.inl (f)))))]) sz)) 8 48 (va_A (cb_w a k S ++ [(q, .inl (kq, (1, .inr (.inl (f)))))]) sz) := by
  refine va_MetW (cc := cL_end) (maxL := 3) (ret := (some .int)) (hh := [(0, 8, 11, 13)]) (by decide) rfl ?_
  intro p e s m args below meth c s₁ B hml hv
  obtain ⟨rfl, ⟨hsz, hP, hK, hD0⟩, hE⟩ := hv
  have hx := B.exec
  have hb := B.bytes
  have hr := B.returns
  have hts := atoms_spec (ws := wsL_end) B.pre
  have hown : s.vm.findClass RL = some m.cls := findClass_of_methodNamed B.named
  have htb : c.exceptionTable.toList = tableOf [(0, 8, 11, 13)] := vx_table (x := yL_end) B (hts (.codeWith yL_end cL_end 3 (some .int) [(0, 8, 11, 13)]) List.mem_cons_self)
  subst hsz
  have hD := hD0.self (sz := s.heap.size)
  generalize hAe : va_A (cb_w a k S ++ [(q, .inl (kq, (1, .inr (.inl (f)))))]) s.heap.size = A at hD hE ⊢
  have hA : ∀ q : Nat, s.heap.size ≤ q → A q := fun q h => by rw [← hAe]; exact Or.inr h
  have hS : va_S A s.heap s.heap [] := va_S.rf
  obtain ⟨Q, hQ⟩ : ∃ Q, Q = MQ below (va_Qi (fun (r : Int32) (f2 : Nat → Int64) => r = nI (k_end S) ∧ (k_end S = 0 → f2 0 = (nI (c_day S + 1)).toInt64)) (fun f2 t => cB dC dI A (cb_w a k (kS (k_end S) (S_end S) S) ++ [(q, .inl (kq, (1, .inr (.inl (f2)))))]) (cb_ty k ++ [(kq, .long)]) t) A) ([.ref (a 0), .ref q] : List Value).toArray s 8 48 A := ⟨_, rfl⟩
  show W p l e rm_L_end s m _ below meth c s.heap [] 0 0 (MQ below _ _ _ _ _ _) _
  rw [← hQ]
  have f_0 := hts (.classLink RL 13 xE_S) (by decide +kernel)
  have hl := lv_entry ([.ref (a 0), .ref q]) (n := 3) (Nat.le_of_ble_eq_true rfl)
  rw [lg_entry_eq]
  generalize (lg_sl ([.ref (a 0), .ref q]) ++ List.replicate (3 - (lg_sl ([.ref (a 0), .ref q])).length) Slot.unset).toArray = ls at hl ⊢
  have hl : lv_has ls 3 [(0, .ref (a 0)), (1, .ref q)] := hl
  refine lv_aload_n hx hb dL_end_0 rfl (lv_at hl 1 rfl) ?_
  refine lv_iconst (v := nI 0) hx hb dL_end_1 (by decide) ?_
  refine lv_aload_n hx hb dL_end_2 rfl (lv_at hl 0 rfl) ?_
  have hPc := hP.sub (ws' := (cb_w a k S)) [0, 1, 2, 3, 4, 5, 6, 7, 8, 9, 10, 11, 12, 13, 14, 15, 16, 17, 18, 19] rfl
  have hDc := hD.sub (ws' := (cb_w a k S)) [0, 1, 2, 3, 4, 5, 6, 7, 8, 9, 10, 11, 12, 13, 14, 15, 16, 17, 18, 19] (by decide) rfl
  have hKc := hK.sub (tys' := (cb_ty k)) [0, 1, 2, 3, 4, 5, 6, 7, 8, 9, 10, 11, 12, 13] rfl
  have hF : ∀ q9, va_A (cb_w a k S) s.heap.size q9 → A q9 := va_free hD hS hA [0, 1, 2, 3, 4, 5, 6, 7, 8, 9, 10, 11, 12, 13, 14, 15, 16, 17, 18, 19] rfl
  refine vx_calli (vx_runV (As := []) (rest := [.int (nI 0), .ref q]) ⟨hx, hb, hml, hown, hts⟩ (c_X5_end l hl9 dC dI a k S s.heap.size hI) (cwV 0 hts gL_end_X5_end rfl rfl rfl (by decide +kernel) ⟨(Nat.le_of_ble_eq_true rfl), (Nat.le_of_ble_eq_true rfl)⟩) ⟨cU_blind, va_recv hKc hPc (ci := 5) (q0 := 0) rfl rfl, fun U hU hW => ⟨rfl, cU_of hKc hPc hDc hE.1 hS hU hW hF⟩⟩ rfl rfl hl.1 rfl (lv_room (Nat.le_of_ble_eq_true rfl)) dL_end_3 ⟨(Nat.le_of_ble_eq_true rfl), (Nat.le_of_ble_eq_true rfl)⟩) hS (fun q9 _ h => hF q9 h) hF (fun q9 _ h => hF q9 h) (fun E ce q9 u8 t8 H1 L1 ht hvm _ hB hz1 hk1 hS hce hcv hcl => ?_) (fun r9 u8 t8 H1 L1 ht hvm hw hB hz1 hk1 hS => ?_)
  · obtain ⟨hpx9, hB⟩ := hB
    obtain ⟨hP9, -, hD9⟩ := hB
    rw [ht] at hP9
    obtain ⟨hP8, hD8⟩ := va_join (wc := (cb_w a k S)) (wr := [(q, .inl (kq, (1, .inr (.inl (f)))))]) hP hD [0, 1, 2, 3, 4, 5, 6, 7, 8, 9, 10, 11, 12, 13, 14, 15, 16, 17, 18, 19] [20] rfl rfl (by decide) (by decide) hk1 hF hP9 hD9
    have hP : va_P (dC, dI) vwCl (cb_w a k S ++ [(q, .inl (kq, (1, .inr (.inl (f)))))]) H1 := hP8.sub [1, 2, 3, 4, 5, 6, 7, 8, 9, 10, 11, 12, 13, 14, 15, 16, 17, 18, 19, 20, 0] rfl
    have hD : va_D A (cb_w a k S ++ [(q, .inl (kq, (1, .inr (.inl (f)))))]) := hD8.sub [1, 2, 3, 4, 5, 6, 7, 8, 9, 10, 11, 12, 13, 14, 15, 16, 17, 18, 19, 20, 0] (by decide) rfl
    obtain ⟨hk9, rfl⟩ := px_1 hpx9
    refine vx_catch (own := RL) (name := xE_S) (E := xE_S) hown [] (⟨0, 8, 11, 13⟩ : ExceptionTableEntry) [] htb (fun z hz => absurd hz List.not_mem_nil) (by decide) (by decide) f_0 (va_Nw.use rfl (hE.1.2.2.1 (.castable xE_S xE_S) (by decide +kernel))) hce hcv hcl ?_
    refine lv_astore_n (lv' := [(2, .ref q9), (0, .ref (a 0)), (1, .ref q)]) hx hb dL_end_11 rfl hl (by decide) rfl (fun ls hl => ?_)
    refine lv_iconst (v := nI 1) hx hb dL_end_12 (by decide) ?_
    have ew : (cb_w a k S ++ [(q, .inl (kq, (1, .inr (.inl (f)))))]) = (cb_w a k (kS (k_end S) (S_end S) S) ++ [(q, .inl (kq, (1, .inr (.inl (f)))))]) := by rw [hk9]; rfl
    have hP : va_P (dC, dI) vwCl (cb_w a k (kS (k_end S) (S_end S) S) ++ [(q, .inl (kq, (1, .inr (.inl (f)))))]) H1 := by rw [← ew]; exact hP
    have hD : va_D A (cb_w a k (kS (k_end S) (S_end S) S) ++ [(q, .inl (kq, (1, .inr (.inl (f)))))]) := by rw [← ew]; exact hD
    rw [hQ]
    exact W.iret (v := nI 1) hx hb hr (fun t9 ht9 hW9 => ⟨⟨nI 1, f, rfl, ⟨by rw [hk9], fun h9 => absurd (hk9.symm.trans h9) (by decide)⟩, cB_of hP hK hD ht9 hW9⟩, hS.F ht9⟩) hS.2.2 dL_end_13
  · skip
    obtain ⟨hP9, -, hD9⟩ := hB
    rw [ht] at hP9
    obtain ⟨hP8, hD8⟩ := va_join (wc := (cb_w a k S)) (wr := [(q, .inl (kq, (1, .inr (.inl (f)))))]) hP hD [0, 1, 2, 3, 4, 5, 6, 7, 8, 9, 10, 11, 12, 13, 14, 15, 16, 17, 18, 19] [20] rfl rfl (by decide) (by decide) hk1 hF hP9 hD9
    have hP : va_P (dC, dI) vwCl (cb_w a k (S_end S) ++ [(q, .inl (kq, (1, .inr (.inl (f)))))]) H1 := hP8.sub [1, 2, 3, 4, 5, 6, 7, 8, 9, 10, 11, 12, 13, 14, 15, 16, 17, 18, 19, 20, 0] rfl
    have hD : va_D A (cb_w a k (S_end S) ++ [(q, .inl (kq, (1, .inr (.inl (f)))))]) := hD8.sub [1, 2, 3, 4, 5, 6, 7, 8, 9, 10, 11, 12, 13, 14, 15, 16, 17, 18, 19, 20, 0] (by decide) rfl
    obtain ⟨hk9, hr9⟩ := hw
    subst hr9
    have hP : va_P (dC, dI) vwCl ((cb_W a k (S_end S) (c_sl (S_end S)) (c_pt (S_end S)) (c_at (S_end S))) ++ [(q, .inl (kq, (1, .inr (.inl (f)))))]) H1 := hP
    have hD : va_D A ((cb_W a k (S_end S) (c_sl (S_end S)) (c_pt (S_end S)) (c_at (S_end S))) ++ [(q, .inl (kq, (1, .inr (.inl (f)))))]) := hD
    refine lv_i2l hx hb dL_end_6 rfl ?_
    refine cb_last hx hb hK hP hD hS 20 14 (f := f) rfl rfl (j := 0) (by omega) (Nat.le_of_ble_eq_true rfl) dL_end_7 (fun H locs hP hD hS => ?_)
    have hP : va_P (dC, dI) vwCl ((cb_W a k (S_end S) (c_sl (S_end S)) (c_pt (S_end S)) (c_at (S_end S))) ++ [(q, .inl (kq, (1, .inr (.inl (vp_updL f 0 ((nI (c_day S + 1)).toInt64))))))]) H := hP
    have hD : va_D A ((cb_W a k (S_end S) (c_sl (S_end S)) (c_pt (S_end S)) (c_at (S_end S))) ++ [(q, .inl (kq, (1, .inr (.inl (vp_updL f 0 ((nI (c_day S + 1)).toInt64))))))]) := hD
    refine lv_goto (tgt := 14) hx hb dL_end_8 (by decide) ?_
    refine lv_iconst (v := nI 0) hx hb dL_end_14 (by decide) ?_
    have ew : ((cb_W a k (S_end S) (c_sl (S_end S)) (c_pt (S_end S)) (c_at (S_end S))) ++ [(q, .inl (kq, (1, .inr (.inl (vp_updL f 0 ((nI (c_day S + 1)).toInt64))))))]) = (cb_w a k (kS (k_end S) (S_end S) S) ++ [(q, .inl (kq, (1, .inr (.inl (vp_updL f 0 ((nI (c_day S + 1)).toInt64))))))]) := by rw [hk9]; rfl
    have hP : va_P (dC, dI) vwCl (cb_w a k (kS (k_end S) (S_end S) S) ++ [(q, .inl (kq, (1, .inr (.inl (vp_updL f 0 ((nI (c_day S + 1)).toInt64))))))]) H := by rw [← ew]; exact hP
    have hD : va_D A (cb_w a k (kS (k_end S) (S_end S) S) ++ [(q, .inl (kq, (1, .inr (.inl (vp_updL f 0 ((nI (c_day S + 1)).toInt64))))))]) := by rw [← ew]; exact hD
    rw [hQ]
    exact W.iret (v := nI 0) hx hb hr (fun t9 ht9 hW9 => ⟨⟨nI 0, (vp_updL f 0 ((nI (c_day S + 1)).toInt64)), rfl, ⟨by rw [hk9], fun _ => pk_uLs⟩, cB_of hP hK hD ht9 hW9⟩, hS.F ht9⟩) hS.2.2 dL_end_15
end CBW2
