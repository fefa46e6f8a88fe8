section CBC
abbrev rm_J7_fill : Room := { frames := 0, cells := 0, slots := 0, locals := 0 }
set_option maxHeartbeats 4000000 in
set_option maxRecDepth 100000 in
theorem c_J7_fill (l : Launch) (dC : Nat → ClassId) (dI : Nat → Nat → Nat) (q : Nat) (kq : ClassId) (N : Nat) (f : Nat → Int32) (x : Int32) (sz : Nat) (hN : N < 2 ^ 31) : Met l yJ7_fill_53178 wsJ7_fill_53178 rm_J7_fill (va_Pc [.ref q, .int x] (cT dC dI sz [(q, .inl (kq, (N, .inl f)))] [(kq, .int)])) (va_Qv (fun (_ : Unit) => True) (fun _ t => cB dC dI (va_A [(q, .inl (kq, (N, .inl f)))] sz) [(q, .inl (kq, (N, .inl (fa_fill (fun _ => x) f N))))] [(kq, .int)] t) (va_A [(q, .inl (kq, (N, .inl f)))] sz)) 0 0 (va_A [(q, .inl (kq, (N, .inl f)))] sz) := by
  refine Met.ofW (cc := cJ7_fill_53178) (maxL := 4) (ret := none) (by decide) rfl ?_
  intro p e s m args below meth c s₁ B hml hv
  obtain ⟨rfl, hsz, hP, hK, hD0⟩ := hv
  have hx := B.exec
  have hb := B.bytes
  have hr := B.returns
  have hlocks := B.notSynchronized
  subst hsz
  have hD := hD0.self (sz := s.heap.size)
  generalize hAe : va_A [(q, .inl (kq, (N, .inl f)))] s.heap.size = A at hD ⊢
  have hS : va_S A s.heap s.heap [] := va_S.rf
  obtain ⟨Q, hQ⟩ : ∃ Q, Q = MQ below (va_Qv (fun (_ : Unit) => True) (fun _ t => cB dC dI A [(q, .inl (kq, (N, .inl (fa_fill (fun _ => x) f N))))] [(kq, .int)] t) A) ([.ref q, .int x] : List Value).toArray s 0 0 A := ⟨_, rfl⟩
  show W p l e rm_J7_fill s m _ below meth c s.heap [] 0 0 (MQ below _ _ _ _ _ _) _
  rw [← hQ]
  have hl := lv_entry ([.ref q, .int x]) (n := 4) (Nat.le_of_ble_eq_true rfl)
  rw [lg_entry_eq]
  generalize (lg_sl ([.ref q, .int x]) ++ List.replicate (4 - (lg_sl ([.ref q, .int x])).length) Slot.unset).toArray = ls at hl ⊢
  have hl : lv_has ls 4 [(0, .ref q), (1, .int x)] := hl
  refine lv_iconst (v := nI 0) hx hb dJ7_fill_53178_0 (by decide) ?_
  refine lv_istore_n (lv' := [(2, .int (nI 0)), (0, .ref q), (1, .int x)]) hx hb dJ7_fill_53178_1 rfl hl (by decide) rfl (fun ls hl => ?_)
  refine lv_aload_n hx hb dJ7_fill_53178_2 rfl (lv_at hl 1 rfl) ?_
  refine va_alen hx hb hK hP 0 0 rfl rfl (v := nI N) rfl dJ7_fill_53178_3 ?_
  refine lv_istore_n (lv' := [(3, .int (nI N)), (2, .int (nI 0)), (0, .ref q), (1, .int x)]) hx hb dJ7_fill_53178_4 rfl hl (by decide) rfl (fun ls hl => ?_)
  have L_5 : ∀ (n i : Nat), i ≤ N → N + 1 ≤ i + n → ∀ (H : Heap) (locs : List Loc), va_P (dC, dI) vwCl [(q, .inl (kq, (N, .inl (fa_fill (fun _ => x) f i))))] H → va_D A [(q, .inl (kq, (N, .inl (fa_fill (fun _ => x) f i))))] → va_S A s.heap H locs → ∀ (ls : Array Slot), lv_has ls 4 [(0, .ref q), (1, .int x), (2, .int (nI i)), (3, .int (nI N))] → W p l e rm_J7_fill s m ([.ref q, .int x] : List Value).toArray below meth c H locs 0 0 Q (F0 m 5 ls []) := by
    intro n
    induction n with
    | zero => intro i h1 h2; exact absurd h2 (by omega)
    | succ n ih =>
      intro i hle hfu H locs hP hD hS ls hl
      refine lv_iload_n hx hb dJ7_fill_53178_5 rfl (lv_at hl 2 rfl) ?_
      refine lv_iload_n hx hb dJ7_fill_53178_6 rfl (lv_at hl 3 rfl) ?_
      refine lv_icmp_ge (tgt := 20) hx hb dJ7_fill_53178_7 (by decide) (fun c_7 => ?_) (fun c_7 => ?_)
      · have c_7 := cb_ge (by omega) (by omega) c_7
        have e9 : i = N := by omega
        subst e9
        rw [hQ]
        exact W.vret hx hb hr (fun t9 ht9 hW9 => ⟨⟨(), rfl, trivial, cB_of hP hK hD ht9 hW9⟩, hS.F ht9⟩) hS.2.2 dJ7_fill_53178_20
      · have c_7 := cb_nge (by omega) (by omega) c_7
        refine lv_aload_n hx hb dJ7_fill_53178_10 rfl (lv_at hl 0 rfl) ?_
        refine lv_iload_n hx hb dJ7_fill_53178_11 rfl (lv_at hl 2 rfl) ?_
        refine lv_iload_n hx hb dJ7_fill_53178_12 rfl (lv_at hl 1 rfl) ?_
        refine cb_iast hx hb hK hP hD hS 0 0 (f := fa_fill (fun _ => x) f i) rfl rfl (j := i) (by omega) hN dJ7_fill_53178_13 (fun H locs hP hD hS => ?_)
        rw [show upd (fa_fill (fun _ => x) f i) i x = fa_fill (fun _ => x) f (i + 1) from fa_fill_succ _ _ _] at hP hD
        refine lv_iinc (v := nI (i + 1)) (lv' := [(2, .int (nI (i + 1))), (0, .ref q), (1, .int x), (3, .int (nI N))]) hx hb dJ7_fill_53178_14 hl (k := 2) rfl (nI_1 _) (by decide) rfl (fun ls hl => ?_)
        refine lv_goto (tgt := 5) hx hb dJ7_fill_53178_17 (by decide) ?_
        exact ih (i + 1) (by omega) (by omega) H locs hP hD hS ls (lv_sub hl [1, 2, 0, 3] rfl)
  have e0 : fa_fill (fun _ => x) f 0 = f := fa_fill_0 _ _
  have hP : va_P (dC, dI) vwCl [(q, .inl (kq, (N, .inl (fa_fill (fun _ => x) f 0))))] s.heap := by rw [e0]; exact hP
  have hD : va_D A [(q, .inl (kq, (N, .inl (fa_fill (fun _ => x) f 0))))] := by rw [e0]; exact hD
  exact L_5 (N + 1) 0 (by omega) (by omega) s.heap [] hP hD hS ls (lv_sub hl [2, 3, 1, 0] rfl)
abbrev rm_X0_init : Room := { frames := 1, cells := 2, slots := 88, locals := 12 }
set_option maxHeartbeats 4000000 in
set_option maxRecDepth 100000 in
theorem c_X0_init (l : Launch) (dC : Nat → ClassId) (dI : Nat → Nat → Nat) (h0 : Nat) (sz : Nat) : Met l yX0_init wsX0_init rm_X0_init (va_Pc [.ref (h0)] (cT dC dI sz [(h0, .inr (0, [.int 0, .null, .null]))] [])) (va_Qv (fun (_ : Unit) => True) (fun _ t => ∃ (q_7 q_15 : Nat) (k_7 k_15 : ClassId), cB dC dI (va_A [(h0, .inr (0, [.int 0, .null, .null]))] sz) [(h0, .inr (0, [.int 0, .ref q_7, .ref q_15])), (q_7, .inl (k_7, (8, .inl (fun _ => 0)))), (q_15, .inl (k_15, (80, .inl (fun _ => 0))))] [(k_7, .int), (k_15, .int)] t) (va_A [(h0, .inr (0, [.int 0, .null, .null]))] sz)) 2 88 (va_A [(h0, .inr (0, [.int 0, .null, .null]))] sz) := by
  refine Met.ofW (cc := cX0_init) (maxL := 1) (ret := none) (by decide) rfl ?_
  intro p e s m args below meth c s₁ B hml hv
  obtain ⟨rfl, hsz, hP, hK, hD0⟩ := hv
  have hx := B.exec
  have hb := B.bytes
  have hr := B.returns
  have hts := atoms_spec (ws := wsX0_init) B.pre
  have hown : s.vm.findClass RX0 = some m.cls := findClass_of_methodNamed B.named
  have hlocks := B.notSynchronized
  have hin : meth.name = "<init>" := (name_of_methodNamed B.named B.method).1
  subst hsz
  have hD := hD0.self (sz := s.heap.size)
  generalize hAe : va_A [(h0, .inr (0, [.int 0, .null, .null]))] s.heap.size = A at hD ⊢
  have hA : ∀ q : Nat, s.heap.size ≤ q → A q := fun q h => by rw [← hAe]; exact Or.inr h
  have hS : va_S A s.heap s.heap [] := va_S.rf
  obtain ⟨Q, hQ⟩ : ∃ Q, Q = MQ below (va_Qv (fun (_ : Unit) => True) (fun _ t => ∃ (q_7 q_15 : Nat) (k_7 k_15 : ClassId), cB dC dI A [(h0, .inr (0, [.int 0, .ref q_7, .ref q_15])), (q_7, .inl (k_7, (8, .inl (fun _ => 0)))), (q_15, .inl (k_15, (80, .inl (fun _ => 0))))] [(k_7, .int), (k_15, .int)] t) A) ([.ref (h0)] : List Value).toArray s 2 88 A := ⟨_, rfl⟩
  show W p l e rm_X0_init s m _ below meth c s.heap [] 0 0 (MQ below _ _ _ _ _ _) _
  rw [← hQ]
  have i_X0 : ∀ w ∈ wsX00, w ∈ wsX0_init := fun w h => List.mem_cons_of_mem _ (List.mem_append_right _ h)
  have f_0 := hts (.methodLink RX0 3 objectInit) (by decide +kernel)
  have f_1 := hts (.instanceMethod objectInit) (by decide +kernel)
  have f_2 := hts (.code objectInit ⟨#[0xb1]⟩ 1 none) (by decide +kernel)
  have f_3 := hts (.arrayClass .int) (by decide +kernel)
  have f_4 := hts (.fieldLink RX0 9 "CampBook$Badges" "leastAge" "[I") (by decide +kernel)
  have f_5 := hts (.fieldLink RX0 15 "CampBook$Badges" "wants" "[I") (by decide +kernel)
  have hl := lv_entry ([.ref (h0)]) (n := 1) (Nat.le_of_ble_eq_true rfl)
  rw [lg_entry_eq]
  generalize (lg_sl ([.ref (h0)]) ++ List.replicate (1 - (lg_sl ([.ref (h0)])).length) Slot.unset).toArray = ls at hl ⊢
  have hl : lv_has ls 1 [(0, .ref (h0))] := hl
  have hP : va_P (dC, dI) vwCl [(h0, .inr (0, [.int 0, .null, .null]))] s.heap := hP
  refine lv_aload_n hx hb dX0_init_0 rfl (lv_at hl 0 rfl) ?_
  refine W.objInit hx hb hown f_0 f_1 f_2 rfl (by rw [hml]; exact hl.1) rfl dX0_init_1 (Nat.le_of_ble_eq_true rfl) (Nat.le_of_ble_eq_true rfl) ?_
  refine W.eq (g2 := F0 m 4 ls []) rfl ?_
  refine lv_aload_n hx hb dX0_init_4 rfl (lv_at hl 0 rfl) ?_
  refine lv_bipush (v := nI 8) hx hb dX0_init_5 (by decide) ?_
  refine va_newa (atype := .int) hx hb f_3 rfl hK hP hD hS hA (a0 := (8, .inl (fun _ => 0))) (fun _ => rfl) (by decide) (N' := 8) rfl (by decide) (Nat.le_of_ble_eq_true rfl) (Nat.le_of_ble_eq_true rfl) dX0_init_7 (fun q_7 k_7 H hK hP hD hS => ?_)
  have hP : va_P (dC, dI) vwCl [(h0, .inr (0, [.int 0, .null, .null])), (q_7, .inl (k_7, (8, .inl (fun _ => 0))))] H := hP
  have hD : va_D A [(h0, .inr (0, [.int 0, .null, .null])), (q_7, .inl (k_7, (8, .inl (fun _ => 0))))] := hD
  have hK : va_K (dC, dI) vwCl [(k_7, .int)] s := hK
  refine W.widen (k := 1) (n := 8) (by omega) (by omega) ?_
  refine va_putF (D := (dC, dI)) (ci := 0) (v := .ref q_7) (ty := .array .int) (C := RX0) (T := TX0) (N := 3) hx hb hts i_X0 tyX0 tyX0_ok nmX0 hown hK hP hD hS 0 rfl rfl 1 (by decide) f_4 (fun _ h9 => h9) rfl hin rfl (by decide +kernel) rfl rfl (Nat.le_of_ble_eq_true rfl) dX0_init_9 (fun H locs hP hD hS => ?_)
  have hP : va_P (dC, dI) vwCl [(h0, .inr (0, [.int 0, .ref q_7, .null])), (q_7, .inl (k_7, (8, .inl (fun _ => 0))))] H := hP
  have hD : va_D A [(h0, .inr (0, [.int 0, .ref q_7, .null])), (q_7, .inl (k_7, (8, .inl (fun _ => 0))))] := hD
  refine lv_aload_n hx hb dX0_init_12 rfl (lv_at hl 0 rfl) ?_
  refine lv_bipush (v := nI 80) hx hb dX0_init_13 (by decide) ?_
  refine va_newa (atype := .int) hx hb f_3 rfl hK hP hD hS hA (a0 := (80, .inl (fun _ => 0))) (fun _ => rfl) (by decide) (N' := 80) rfl (by decide) (Nat.le_of_ble_eq_true rfl) (Nat.le_of_ble_eq_true rfl) dX0_init_15 (fun q_15 k_15 H hK hP hD hS => ?_)
  have hP : va_P (dC, dI) vwCl [(h0, .inr (0, [.int 0, .ref q_7, .null])), (q_7, .inl (k_7, (8, .inl (fun _ => 0)))), (q_15, .inl (k_15, (80, .inl (fun _ => 0))))] H := hP
  have hD : va_D A [(h0, .inr (0, [.int 0, .ref q_7, .null])), (q_7, .inl (k_7, (8, .inl (fun _ => 0)))), (q_15, .inl (k_15, (80, .inl (fun _ => 0))))] := hD
  have hK : va_K (dC, dI) vwCl [(k_7, .int), (k_15, .int)] s := hK
  refine W.widen (k := 2) (n := 88) (by omega) (by omega) ?_
  refine va_putF (D := (dC, dI)) (ci := 0) (v := .ref q_15) (ty := .array .int) (C := RX0) (T := TX0) (N := 3) hx hb hts i_X0 tyX0 tyX0_ok nmX0 hown hK hP hD hS 0 rfl rfl 2 (by decide) f_5 (fun _ h9 => h9) rfl hin rfl (by decide +kernel) rfl rfl (Nat.le_of_ble_eq_true rfl) dX0_init_17 (fun H locs hP hD hS => ?_)
  have hP : va_P (dC, dI) vwCl [(h0, .inr (0, [.int 0, .ref q_7, .ref q_15])), (q_7, .inl (k_7, (8, .inl (fun _ => 0)))), (q_15, .inl (k_15, (80, .inl (fun _ => 0))))] H := hP
  have hD : va_D A [(h0, .inr (0, [.int 0, .ref q_7, .ref q_15])), (q_7, .inl (k_7, (8, .inl (fun _ => 0)))), (q_15, .inl (k_15, (80, .inl (fun _ => 0))))] := hD
  rw [hQ]
  exact W.vret hx hb hr (fun t9 ht9 hW9 => ⟨⟨(), rfl, trivial, q_7, q_15, k_7, k_15, cB_of hP hK hD ht9 hW9⟩, hS.F ht9⟩) hS.2.2 dX0_init_20
abbrev rm_X2_init : Room := { frames := 1, cells := 2, slots := 132, locals := 12 }
set_option maxHeartbeats 4000000 in
set_option maxRecDepth 100000 in
theorem c_X2_init (l : Launch) (dC : Nat → ClassId) (dI : Nat → Nat → Nat) (h0 : Nat) (sz : Nat) : Met l yX2_init wsX2_init rm_X2_init (va_Pc [.ref (h0)] (cT dC dI sz [(h0, .inr (2, [.int 0, .int 0, .int 0, .long 0, .null, .null]))] [])) (va_Qv (fun (_ : Unit) => True) (fun _ t => ∃ (q_7 q_15 : Nat) (k_7 k_15 : ClassId), cB dC dI (va_A [(h0, .inr (2, [.int 0, .int 0, .int 0, .long 0, .null, .null]))] sz) [(h0, .inr (2, [.int 0, .int 0, .int 0, .long 0, .ref q_7, .ref q_15])), (q_7, .inl (k_7, (12, .inl (fun _ => 0)))), (q_15, .inl (k_15, (120, .inl (fun _ => 0))))] [(k_7, .int), (k_15, .int)] t) (va_A [(h0, .inr (2, [.int 0, .int 0, .int 0, .long 0, .null, .null]))] sz)) 2 132 (va_A [(h0, .inr (2, [.int 0, .int 0, .int 0, .long 0, .null, .null]))] sz) := by
  refine Met.ofW (cc := cX2_init) (maxL := 1) (ret := none) (by decide) rfl ?_
  intro p e s m args below meth c s₁ B hml hv
  obtain ⟨rfl, hsz, hP, hK, hD0⟩ := hv
  have hx := B.exec
  have hb := B.bytes
  have hr := B.returns
  have hts := atoms_spec (ws := wsX2_init) B.pre
  have hown : s.vm.findClass RX2 = some m.cls := findClass_of_methodNamed B.named
  have hlocks := B.notSynchronized
  have hin : meth.name = "<init>" := (name_of_methodNamed B.named B.method).1
  subst hsz
  have hD := hD0.self (sz := s.heap.size)
  generalize hAe : va_A [(h0, .inr (2, [.int 0, .int 0, .int 0, .long 0, .null, .null]))] s.heap.size = A at hD ⊢
  have hA : ∀ q : Nat, s.heap.size ≤ q → A q := fun q h => by rw [← hAe]; exact Or.inr h
  have hS : va_S A s.heap s.heap [] := va_S.rf
  obtain ⟨Q, hQ⟩ : ∃ Q, Q = MQ below (va_Qv (fun (_ : Unit) => True) (fun _ t => ∃ (q_7 q_15 : Nat) (k_7 k_15 : ClassId), cB dC dI A [(h0, .inr (2, [.int 0, .int 0, .int 0, .long 0, .ref q_7, .ref q_15])), (q_7, .inl (k_7, (12, .inl (fun _ => 0)))), (q_15, .inl (k_15, (120, .inl (fun _ => 0))))] [(k_7, .int), (k_15, .int)] t) A) ([.ref (h0)] : List Value).toArray s 2 132 A := ⟨_, rfl⟩
  show W p l e rm_X2_init s m _ below meth c s.heap [] 0 0 (MQ below _ _ _ _ _ _) _
  rw [← hQ]
  have i_X2 : ∀ w ∈ wsX20, w ∈ wsX2_init := fun w h => List.mem_cons_of_mem _ (List.mem_append_right _ h)
  have f_0 := hts (.methodLink RX2 3 objectInit) (by decide +kernel)
  have f_1 := hts (.instanceMethod objectInit) (by decide +kernel)
  have f_2 := hts (.code objectInit ⟨#[0xb1]⟩ 1 none) (by decide +kernel)
  have f_3 := hts (.arrayClass .int) (by decide +kernel)
  have f_4 := hts (.fieldLink RX2 9 "CampBook$Kitchen" "stores" "[I") (by decide +kernel)
  have f_5 := hts (.fieldLink RX2 15 "CampBook$Kitchen" "needs" "[I") (by decide +kernel)
  have hl := lv_entry ([.ref (h0)]) (n := 1) (Nat.le_of_ble_eq_true rfl)
  rw [lg_entry_eq]
  generalize (lg_sl ([.ref (h0)]) ++ List.replicate (1 - (lg_sl ([.ref (h0)])).length) Slot.unset).toArray = ls at hl ⊢
  have hl : lv_has ls 1 [(0, .ref (h0))] := hl
  have hP : va_P (dC, dI) vwCl [(h0, .inr (2, [.int 0, .int 0, .int 0, .long 0, .null, .null]))] s.heap := hP
  refine lv_aload_n hx hb dX2_init_0 rfl (lv_at hl 0 rfl) ?_
  refine W.objInit hx hb hown f_0 f_1 f_2 rfl (by rw [hml]; exact hl.1) rfl dX2_init_1 (Nat.le_of_ble_eq_true rfl) (Nat.le_of_ble_eq_true rfl) ?_
  refine W.eq (g2 := F0 m 4 ls []) rfl ?_
  refine lv_aload_n hx hb dX2_init_4 rfl (lv_at hl 0 rfl) ?_
  refine lv_bipush (v := nI 12) hx hb dX2_init_5 (by decide) ?_
  refine va_newa (atype := .int) hx hb f_3 rfl hK hP hD hS hA (a0 := (12, .inl (fun _ => 0))) (fun _ => rfl) (by decide) (N' := 12) rfl (by decide) (Nat.le_of_ble_eq_true rfl) (Nat.le_of_ble_eq_true rfl) dX2_init_7 (fun q_7 k_7 H hK hP hD hS => ?_)
  have hP : va_P (dC, dI) vwCl [(h0, .inr (2, [.int 0, .int 0, .int 0, .long 0, .null, .null])), (q_7, .inl (k_7, (12, .inl (fun _ => 0))))] H := hP
  have hD : va_D A [(h0, .inr (2, [.int 0, .int 0, .int 0, .long 0, .null, .null])), (q_7, .inl (k_7, (12, .inl (fun _ => 0))))] := hD
  have hK : va_K (dC, dI) vwCl [(k_7, .int)] s := hK
  refine W.widen (k := 1) (n := 12) (by omega) (by omega) ?_
  refine va_putF (D := (dC, dI)) (ci := 2) (v := .ref q_7) (ty := .array .int) (C := RX2) (T := TX2) (N := 6) hx hb hts i_X2 tyX2 tyX2_ok nmX2 hown hK hP hD hS 0 rfl rfl 4 (by decide) f_4 (fun _ h9 => h9) rfl hin rfl (by decide +kernel) rfl rfl (Nat.le_of_ble_eq_true rfl) dX2_init_9 (fun H locs hP hD hS => ?_)
  have hP : va_P (dC, dI) vwCl [(h0, .inr (2, [.int 0, .int 0, .int 0, .long 0, .ref q_7, .null])), (q_7, .inl (k_7, (12, .inl (fun _ => 0))))] H := hP
  have hD : va_D A [(h0, .inr (2, [.int 0, .int 0, .int 0, .long 0, .ref q_7, .null])), (q_7, .inl (k_7, (12, .inl (fun _ => 0))))] := hD
  refine lv_aload_n hx hb dX2_init_12 rfl (lv_at hl 0 rfl) ?_
  refine lv_bipush (v := nI 120) hx hb dX2_init_13 (by decide) ?_
  refine va_newa (atype := .int) hx hb f_3 rfl hK hP hD hS hA (a0 := (120, .inl (fun _ => 0))) (fun _ => rfl) (by decide) (N' := 120) rfl (by decide) (Nat.le_of_ble_eq_true rfl) (Nat.le_of_ble_eq_true rfl) dX2_init_15 (fun q_15 k_15 H hK hP hD hS => ?_)
  have hP : va_P (dC, dI) vwCl [(h0, .inr (2, [.int 0, .int 0, .int 0, .long 0, .ref q_7, .null])), (q_7, .inl (k_7, (12, .inl (fun _ => 0)))), (q_15, .inl (k_15, (120, .inl (fun _ => 0))))] H := hP
  have hD : va_D A [(h0, .inr (2, [.int 0, .int 0, .int 0, .long 0, .ref q_7, .null])), (q_7, .inl (k_7, (12, .inl (fun _ => 0)))), (q_15, .inl (k_15, (120, .inl (fun _ => 0))))] := hD
  have hK : va_K (dC, dI) vwCl [(k_7, .int), (k_15, .int)] s := hK
  refine W.widen (k := 2) (n := 132) (by omega) (by omega) ?_
  refine va_putF (D := (dC, dI)) (ci := 2) (v := .ref q_15) (ty := .array .int) (C := RX2) (T := TX2) (N := 6) hx hb hts i_X2 tyX2 tyX2_ok nmX2 hown hK hP hD hS 0 rfl rfl 5 (by decide) f_5 (fun _ h9 => h9) rfl hin rfl (by decide +kernel) rfl rfl (Nat.le_of_ble_eq_true rfl) dX2_init_17 (fun H locs hP hD hS => ?_)
  have hP : va_P (dC, dI) vwCl [(h0, .inr (2, [.int 0, .int 0, .int 0, .long 0, .ref q_7, .ref q_15])), (q_7, .inl (k_7, (12, .inl (fun _ => 0)))), (q_15, .inl (k_15, (120, .inl (fun _ => 0))))] H := hP
  have hD : va_D A [(h0, .inr (2, [.int 0, .int 0, .int 0, .long 0, .ref q_7, .ref q_15])), (q_7, .inl (k_7, (12, .inl (fun _ => 0)))), (q_15, .inl (k_15, (120, .inl (fun _ => 0))))] := hD
  rw [hQ]
  exact W.vret hx hb hr (fun t9 ht9 hW9 => ⟨⟨(), rfl, trivial, q_7, q_15, k_7, k_15, cB_of hP hK hD ht9 hW9⟩, hS.F ht9⟩) hS.2.2 dX2_init_20
abbrev rm_X3_init : Room := { frames := 1, cells := 6, slots := 450, locals := 12 }
set_option maxHeartbeats 4000000 in
set_option maxRecDepth 100000 in
theorem c_X3_init (l : Launch) (dC : Nat → ClassId) (dI : Nat → Nat → Nat) (h0 : Nat) (sz : Nat) : Met l yX3_init wsX3_init rm_X3_init (va_Pc [.ref (h0)] (cT dC dI sz [(h0, .inr (3, [.int 0, .int 0, .null, .null, .null, .null, .null, .null]))] [])) (va_Qv (fun (_ : Unit) => True) (fun _ t => ∃ (q_7 q_15 q_23 q_31 q_39 q_48 : Nat) (k_7 k_15 k_23 k_31 k_39 k_48 : ClassId), cB dC dI (va_A [(h0, .inr (3, [.int 0, .int 0, .null, .null, .null, .null, .null, .null]))] sz) [(h0, .inr (3, [.int 0, .int 0, .ref q_7, .ref q_15, .ref q_23, .ref q_31, .ref q_39, .ref q_48])), (q_7, .inl (k_7, (30, .inl (fun _ => 0)))), (q_15, .inl (k_15, (30, .inl (fun _ => 0)))), (q_23, .inl (k_23, (30, .inl (fun _ => 0)))), (q_31, .inl (k_31, (30, .inl (fun _ => 0)))), (q_39, .inl (k_39, (30, .inl (fun _ => 0)))), (q_48, .inl (k_48, (300, .inl (fun _ => 0))))] [(k_7, .int), (k_15, .int), (k_23, .int), (k_31, .int), (k_39, .int), (k_48, .int)] t) (va_A [(h0, .inr (3, [.int 0, .int 0, .null, .null, .null, .null, .null, .null]))] sz)) 6 450 (va_A [(h0, .inr (3, [.int 0, .int 0, .null, .null, .null, .null, .null, .null]))] sz) := by
  refine Met.ofW (cc := cX3_init) (maxL := 1) (ret := none) (by decide) rfl ?_
  intro p e s m args below meth c s₁ B hml hv
  obtain ⟨rfl, hsz, hP, hK, hD0⟩ := hv
  have hx := B.exec
  have hb := B.bytes
  have hr := B.returns
  have hts := atoms_spec (ws := wsX3_init) B.pre
  have hown : s.vm.findClass RX3 = some m.cls := findClass_of_methodNamed B.named
  have hlocks := B.notSynchronized
  have hin : meth.name = "<init>" := (name_of_methodNamed B.named B.method).1
  subst hsz
  have hD := hD0.self (sz := s.heap.size)
  generalize hAe : va_A [(h0, .inr (3, [.int 0, .int 0, .null, .null, .null, .null, .null, .null]))] s.heap.size = A at hD ⊢
  have hA : ∀ q : Nat, s.heap.size ≤ q → A q := fun q h => by rw [← hAe]; exact Or.inr h
  have hS : va_S A s.heap s.heap [] := va_S.rf
  obtain ⟨Q, hQ⟩ : ∃ Q, Q = MQ below (va_Qv (fun (_ : Unit) => True) (fun _ t => ∃ (q_7 q_15 q_23 q_31 q_39 q_48 : Nat) (k_7 k_15 k_23 k_31 k_39 k_48 : ClassId), cB dC dI A [(h0, .inr (3, [.int 0, .int 0, .ref q_7, .ref q_15, .ref q_23, .ref q_31, .ref q_39, .ref q_48])), (q_7, .inl (k_7, (30, .inl (fun _ => 0)))), (q_15, .inl (k_15, (30, .inl (fun _ => 0)))), (q_23, .inl (k_23, (30, .inl (fun _ => 0)))), (q_31, .inl (k_31, (30, .inl (fun _ => 0)))), (q_39, .inl (k_39, (30, .inl (fun _ => 0)))), (q_48, .inl (k_48, (300, .inl (fun _ => 0))))] [(k_7, .int), (k_15, .int), (k_23, .int), (k_31, .int), (k_39, .int), (k_48, .int)] t) A) ([.ref (h0)] : List Value).toArray s 6 450 A := ⟨_, rfl⟩
  show W p l e rm_X3_init s m _ below meth c s.heap [] 0 0 (MQ below _ _ _ _ _ _) _
  rw [← hQ]
  have i_X3 : ∀ w ∈ wsX30, w ∈ wsX3_init := fun w h => List.mem_cons_of_mem _ (List.mem_append_right _ h)
  have f_0 := hts (.methodLink RX3 3 objectInit) (by decide +kernel)
  have f_1 := hts (.instanceMethod objectInit) (by decide +kernel)
  have f_2 := hts (.code objectInit ⟨#[0xb1]⟩ 1 none) (by decide +kernel)
  have f_3 := hts (.arrayClass .int) (by decide +kernel)
  have f_4 := hts (.fieldLink RX3 9 "CampBook$People" "patrol" "[I") (by decide +kernel)
  have f_5 := hts (.fieldLink RX3 15 "CampBook$People" "age" "[I") (by decide +kernel)
  have f_6 := hts (.fieldLink RX3 18 "CampBook$People" "skills" "[I") (by decide +kernel)
  have f_7 := hts (.fieldLink RX3 21 "CampBook$People" "refused" "[I") (by decide +kernel)
  have f_8 := hts (.fieldLink RX3 24 "CampBook$People" "badges" "[I") (by decide +kernel)
  have f_9 := hts (.fieldLink RX3 27 "CampBook$People" "hours" "[I") (by decide +kernel)
  have hl := lv_entry ([.ref (h0)]) (n := 1) (Nat.le_of_ble_eq_true rfl)
  rw [lg_entry_eq]
  generalize (lg_sl ([.ref (h0)]) ++ List.replicate (1 - (lg_sl ([.ref (h0)])).length) Slot.unset).toArray = ls at hl ⊢
  have hl : lv_has ls 1 [(0, .ref (h0))] := hl
  have hP : va_P (dC, dI) vwCl [(h0, .inr (3, [.int 0, .int 0, .null, .null, .null, .null, .null, .null]))] s.heap := hP
  refine lv_aload_n hx hb dX3_init_0 rfl (lv_at hl 0 rfl) ?_
  refine W.objInit hx hb hown f_0 f_1 f_2 rfl (by rw [hml]; exact hl.1) rfl dX3_init_1 (Nat.le_of_ble_eq_true rfl) (Nat.le_of_ble_eq_true rfl) ?_
  refine W.eq (g2 := F0 m 4 ls []) rfl ?_
  refine lv_aload_n hx hb dX3_init_4 rfl (lv_at hl 0 rfl) ?_
  refine lv_bipush (v := nI 30) hx hb dX3_init_5 (by decide) ?_
  refine va_newa (atype := .int) hx hb f_3 rfl hK hP hD hS hA (a0 := (30, .inl (fun _ => 0))) (fun _ => rfl) (by decide) (N' := 30) rfl (by decide) (Nat.le_of_ble_eq_true rfl) (Nat.le_of_ble_eq_true rfl) dX3_init_7 (fun q_7 k_7 H hK hP hD hS => ?_)
  have hP : va_P (dC, dI) vwCl [(h0, .inr (3, [.int 0, .int 0, .null, .null, .null, .null, .null, .null])), (q_7, .inl (k_7, (30, .inl (fun _ => 0))))] H := hP
  have hD : va_D A [(h0, .inr (3, [.int 0, .int 0, .null, .null, .null, .null, .null, .null])), (q_7, .inl (k_7, (30, .inl (fun _ => 0))))] := hD
  have hK : va_K (dC, dI) vwCl [(k_7, .int)] s := hK
  refine W.widen (k := 1) (n := 30) (by omega) (by omega) ?_
  refine va_putF (D := (dC, dI)) (ci := 3) (v := .ref q_7) (ty := .array .int) (C := RX3) (T := TX3) (N := 8) hx hb hts i_X3 tyX3 tyX3_ok nmX3 hown hK hP hD hS 0 rfl rfl 2 (by decide) f_4 (fun _ h9 => h9) rfl hin rfl (by decide +kernel) rfl rfl (Nat.le_of_ble_eq_true rfl) dX3_init_9 (fun H locs hP hD hS => ?_)
  have hP : va_P (dC, dI) vwCl [(h0, .inr (3, [.int 0, .int 0, .ref q_7, .null, .null, .null, .null, .null])), (q_7, .inl (k_7, (30, .inl (fun _ => 0))))] H := hP
  have hD : va_D A [(h0, .inr (3, [.int 0, .int 0, .ref q_7, .null, .null, .null, .null, .null])), (q_7, .inl (k_7, (30, .inl (fun _ => 0))))] := hD
  refine lv_aload_n hx hb dX3_init_12 rfl (lv_at hl 0 rfl) ?_
  refine lv_bipush (v := nI 30) hx hb dX3_init_13 (by decide) ?_
  refine va_newa (atype := .int) hx hb f_3 rfl hK hP hD hS hA (a0 := (30, .inl (fun _ => 0))) (fun _ => rfl) (by decide) (N' := 30) rfl (by decide) (Nat.le_of_ble_eq_true rfl) (Nat.le_of_ble_eq_true rfl) dX3_init_15 (fun q_15 k_15 H hK hP hD hS => ?_)
  have hP : va_P (dC, dI) vwCl [(h0, .inr (3, [.int 0, .int 0, .ref q_7, .null, .null, .null, .null, .null])), (q_7, .inl (k_7, (30, .inl (fun _ => 0)))), (q_15, .inl (k_15, (30, .inl (fun _ => 0))))] H := hP
  have hD : va_D A [(h0, .inr (3, [.int 0, .int 0, .ref q_7, .null, .null, .null, .null, .null])), (q_7, .inl (k_7, (30, .inl (fun _ => 0)))), (q_15, .inl (k_15, (30, .inl (fun _ => 0))))] := hD
  have hK : va_K (dC, dI) vwCl [(k_7, .int), (k_15, .int)] s := hK
  refine W.widen (k := 2) (n := 60) (by omega) (by omega) ?_
  refine va_putF (D := (dC, dI)) (ci := 3) (v := .ref q_15) (ty := .array .int) (C := RX3) (T := TX3) (N := 8) hx hb hts i_X3 tyX3 tyX3_ok nmX3 hown hK hP hD hS 0 rfl rfl 3 (by decide) f_5 (fun _ h9 => h9) rfl hin rfl (by decide +kernel) rfl rfl (Nat.le_of_ble_eq_true rfl) dX3_init_17 (fun H locs hP hD hS => ?_)
  have hP : va_P (dC, dI) vwCl [(h0, .inr (3, [.int 0, .int 0, .ref q_7, .ref q_15, .null, .null, .null, .null])), (q_7, .inl (k_7, (30, .inl (fun _ => 0)))), (q_15, .inl (k_15, (30, .inl (fun _ => 0))))] H := hP
  have hD : va_D A [(h0, .inr (3, [.int 0, .int 0, .ref q_7, .ref q_15, .null, .null, .null, .null])), (q_7, .inl (k_7, (30, .inl (fun _ => 0)))), (q_15, .inl (k_15, (30, .inl (fun _ => 0))))] := hD
  refine lv_aload_n hx hb dX3_init_20 rfl (lv_at hl 0 rfl) ?_
  refine lv_bipush (v := nI 30) hx hb dX3_init_21 (by decide) ?_
  refine va_newa (atype := .int) hx hb f_3 rfl hK hP hD hS hA (a0 := (30, .inl (fun _ => 0))) (fun _ => rfl) (by decide) (N' := 30) rfl (by decide) (Nat.le_of_ble_eq_true rfl) (Nat.le_of_ble_eq_true rfl) dX3_init_23 (fun q_23 k_23 H hK hP hD hS => ?_)
  have hP : va_P (dC, dI) vwCl [(h0, .inr (3, [.int 0, .int 0, .ref q_7, .ref q_15, .null, .null, .null, .null])), (q_7, .inl (k_7, (30, .inl (fun _ => 0)))), (q_15, .inl (k_15, (30, .inl (fun _ => 0)))), (q_23, .inl (k_23, (30, .inl (fun _ => 0))))] H := hP
  have hD : va_D A [(h0, .inr (3, [.int 0, .int 0, .ref q_7, .ref q_15, .null, .null, .null, .null])), (q_7, .inl (k_7, (30, .inl (fun _ => 0)))), (q_15, .inl (k_15, (30, .inl (fun _ => 0)))), (q_23, .inl (k_23, (30, .inl (fun _ => 0))))] := hD
  have hK : va_K (dC, dI) vwCl [(k_7, .int), (k_15, .int), (k_23, .int)] s := hK
  refine W.widen (k := 3) (n := 90) (by omega) (by omega) ?_
  refine va_putF (D := (dC, dI)) (ci := 3) (v := .ref q_23) (ty := .array .int) (C := RX3) (T := TX3) (N := 8) hx hb hts i_X3 tyX3 tyX3_ok nmX3 hown hK hP hD hS 0 rfl rfl 4 (by decide) f_6 (fun _ h9 => h9) rfl hin rfl (by decide +kernel) rfl rfl (Nat.le_of_ble_eq_true rfl) dX3_init_25 (fun H locs hP hD hS => ?_)
  have hP : va_P (dC, dI) vwCl [(h0, .inr (3, [.int 0, .int 0, .ref q_7, .ref q_15, .ref q_23, .null, .null, .null])), (q_7, .inl (k_7, (30, .inl (fun _ => 0)))), (q_15, .inl (k_15, (30, .inl (fun _ => 0)))), (q_23, .inl (k_23, (30, .inl (fun _ => 0))))] H := hP
  have hD : va_D A [(h0, .inr (3, [.int 0, .int 0, .ref q_7, .ref q_15, .ref q_23, .null, .null, .null])), (q_7, .inl (k_7, (30, .inl (fun _ => 0)))), (q_15, .inl (k_15, (30, .inl (fun _ => 0)))), (q_23, .inl (k_23, (30, .inl (fun _ => 0))))] := hD
  refine lv_aload_n hx hb dX3_init_28 rfl (lv_at hl 0 rfl) ?_
  refine lv_bipush (v := nI 30) hx hb dX3_init_29 (by decide) ?_
  refine va_newa (atype := .int) hx hb f_3 rfl hK hP hD hS hA (a0 := (30, .inl (fun _ => 0))) (fun _ => rfl) (by decide) (N' := 30) rfl (by decide) (Nat.le_of_ble_eq_true rfl) (Nat.le_of_ble_eq_true rfl) dX3_init_31 (fun q_31 k_31 H hK hP hD hS => ?_)
  have hP : va_P (dC, dI) vwCl [(h0, .inr (3, [.int 0, .int 0, .ref q_7, .ref q_15, .ref q_23, .null, .null, .null])), (q_7, .inl (k_7, (30, .inl (fun _ => 0)))), (q_15, .inl (k_15, (30, .inl (fun _ => 0)))), (q_23, .inl (k_23, (30, .inl (fun _ => 0)))), (q_31, .inl (k_31, (30, .inl (fun _ => 0))))] H := hP
  have hD : va_D A [(h0, .inr (3, [.int 0, .int 0, .ref q_7, .ref q_15, .ref q_23, .null, .null, .null])), (q_7, .inl (k_7, (30, .inl (fun _ => 0)))), (q_15, .inl (k_15, (30, .inl (fun _ => 0)))), (q_23, .inl (k_23, (30, .inl (fun _ => 0)))), (q_31, .inl (k_31, (30, .inl (fun _ => 0))))] := hD
  have hK : va_K (dC, dI) vwCl [(k_7, .int), (k_15, .int), (k_23, .int), (k_31, .int)] s := hK
  refine W.widen (k := 4) (n := 120) (by omega) (by omega) ?_
  refine va_putF (D := (dC, dI)) (ci := 3) (v := .ref q_31) (ty := .array .int) (C := RX3) (T := TX3) (N := 8) hx hb hts i_X3 tyX3 tyX3_ok nmX3 hown hK hP hD hS 0 rfl rfl 5 (by decide) f_7 (fun _ h9 => h9) rfl hin rfl (by decide +kernel) rfl rfl (Nat.le_of_ble_eq_true rfl) dX3_init_33 (fun H locs hP hD hS => ?_)
  have hP : va_P (dC, dI) vwCl [(h0, .inr (3, [.int 0, .int 0, .ref q_7, .ref q_15, .ref q_23, .ref q_31, .null, .null])), (q_7, .inl (k_7, (30, .inl (fun _ => 0)))), (q_15, .inl (k_15, (30, .inl (fun _ => 0)))), (q_23, .inl (k_23, (30, .inl (fun _ => 0)))), (q_31, .inl (k_31, (30, .inl (fun _ => 0))))] H := hP
  have hD : va_D A [(h0, .inr (3, [.int 0, .int 0, .ref q_7, .ref q_15, .ref q_23, .ref q_31, .null, .null])), (q_7, .inl (k_7, (30, .inl (fun _ => 0)))), (q_15, .inl (k_15, (30, .inl (fun _ => 0)))), (q_23, .inl (k_23, (30, .inl (fun _ => 0)))), (q_31, .inl (k_31, (30, .inl (fun _ => 0))))] := hD
  refine lv_aload_n hx hb dX3_init_36 rfl (lv_at hl 0 rfl) ?_
  refine lv_bipush (v := nI 30) hx hb dX3_init_37 (by decide) ?_
  refine va_newa (atype := .int) hx hb f_3 rfl hK hP hD hS hA (a0 := (30, .inl (fun _ => 0))) (fun _ => rfl) (by decide) (N' := 30) rfl (by decide) (Nat.le_of_ble_eq_true rfl) (Nat.le_of_ble_eq_true rfl) dX3_init_39 (fun q_39 k_39 H hK hP hD hS => ?_)
  have hP : va_P (dC, dI) vwCl [(h0, .inr (3, [.int 0, .int 0, .ref q_7, .ref q_15, .ref q_23, .ref q_31, .null, .null])), (q_7, .inl (k_7, (30, .inl (fun _ => 0)))), (q_15, .inl (k_15, (30, .inl (fun _ => 0)))), (q_23, .inl (k_23, (30, .inl (fun _ => 0)))), (q_31, .inl (k_31, (30, .inl (fun _ => 0)))), (q_39, .inl (k_39, (30, .inl (fun _ => 0))))] H := hP
  have hD : va_D A [(h0, .inr (3, [.int 0, .int 0, .ref q_7, .ref q_15, .ref q_23, .ref q_31, .null, .null])), (q_7, .inl (k_7, (30, .inl (fun _ => 0)))), (q_15, .inl (k_15, (30, .inl (fun _ => 0)))), (q_23, .inl (k_23, (30, .inl (fun _ => 0)))), (q_31, .inl (k_31, (30, .inl (fun _ => 0)))), (q_39, .inl (k_39, (30, .inl (fun _ => 0))))] := hD
  have hK : va_K (dC, dI) vwCl [(k_7, .int), (k_15, .int), (k_23, .int), (k_31, .int), (k_39, .int)] s := hK
  refine W.widen (k := 5) (n := 150) (by omega) (by omega) ?_
  refine va_putF (D := (dC, dI)) (ci := 3) (v := .ref q_39) (ty := .array .int) (C := RX3) (T := TX3) (N := 8) hx hb hts i_X3 tyX3 tyX3_ok nmX3 hown hK hP hD hS 0 rfl rfl 6 (by decide) f_8 (fun _ h9 => h9) rfl hin rfl (by decide +kernel) rfl rfl (Nat.le_of_ble_eq_true rfl) dX3_init_41 (fun H locs hP hD hS => ?_)
  have hP : va_P (dC, dI) vwCl [(h0, .inr (3, [.int 0, .int 0, .ref q_7, .ref q_15, .ref q_23, .ref q_31, .ref q_39, .null])), (q_7, .inl (k_7, (30, .inl (fun _ => 0)))), (q_15, .inl (k_15, (30, .inl (fun _ => 0)))), (q_23, .inl (k_23, (30, .inl (fun _ => 0)))), (q_31, .inl (k_31, (30, .inl (fun _ => 0)))), (q_39, .inl (k_39, (30, .inl (fun _ => 0))))] H := hP
  have hD : va_D A [(h0, .inr (3, [.int 0, .int 0, .ref q_7, .ref q_15, .ref q_23, .ref q_31, .ref q_39, .null])), (q_7, .inl (k_7, (30, .inl (fun _ => 0)))), (q_15, .inl (k_15, (30, .inl (fun _ => 0)))), (q_23, .inl (k_23, (30, .inl (fun _ => 0)))), (q_31, .inl (k_31, (30, .inl (fun _ => 0)))), (q_39, .inl (k_39, (30, .inl (fun _ => 0))))] := hD
  refine lv_aload_n hx hb dX3_init_44 rfl (lv_at hl 0 rfl) ?_
  refine lv_sipush (v := nI 300) hx hb dX3_init_45 (by decide) ?_
  refine va_newa (atype := .int) hx hb f_3 rfl hK hP hD hS hA (a0 := (300, .inl (fun _ => 0))) (fun _ => rfl) (by decide) (N' := 300) rfl (by decide) (Nat.le_of_ble_eq_true rfl) (Nat.le_of_ble_eq_true rfl) dX3_init_48 (fun q_48 k_48 H hK hP hD hS => ?_)
  have hP : va_P (dC, dI) vwCl [(h0, .inr (3, [.int 0, .int 0, .ref q_7, .ref q_15, .ref q_23, .ref q_31, .ref q_39, .null])), (q_7, .inl (k_7, (30, .inl (fun _ => 0)))), (q_15, .inl (k_15, (30, .inl (fun _ => 0)))), (q_23, .inl (k_23, (30, .inl (fun _ => 0)))), (q_31, .inl (k_31, (30, .inl (fun _ => 0)))), (q_39, .inl (k_39, (30, .inl (fun _ => 0)))), (q_48, .inl (k_48, (300, .inl (fun _ => 0))))] H := hP
  have hD : va_D A [(h0, .inr (3, [.int 0, .int 0, .ref q_7, .ref q_15, .ref q_23, .ref q_31, .ref q_39, .null])), (q_7, .inl (k_7, (30, .inl (fun _ => 0)))), (q_15, .inl (k_15, (30, .inl (fun _ => 0)))), (q_23, .inl (k_23, (30, .inl (fun _ => 0)))), (q_31, .inl (k_31, (30, .inl (fun _ => 0)))), (q_39, .inl (k_39, (30, .inl (fun _ => 0)))), (q_48, .inl (k_48, (300, .inl (fun _ => 0))))] := hD
  have hK : va_K (dC, dI) vwCl [(k_7, .int), (k_15, .int), (k_23, .int), (k_31, .int), (k_39, .int), (k_48, .int)] s := hK
  refine W.widen (k := 6) (n := 450) (by omega) (by omega) ?_
  refine va_putF (D := (dC, dI)) (ci := 3) (v := .ref q_48) (ty := .array .int) (C := RX3) (T := TX3) (N := 8) hx hb hts i_X3 tyX3 tyX3_ok nmX3 hown hK hP hD hS 0 rfl rfl 7 (by decide) f_9 (fun _ h9 => h9) rfl hin rfl (by decide +kernel) rfl rfl (Nat.le_of_ble_eq_true rfl) dX3_init_50 (fun H locs hP hD hS => ?_)
  have hP : va_P (dC, dI) vwCl [(h0, .inr (3, [.int 0, .int 0, .ref q_7, .ref q_15, .ref q_23, .ref q_31, .ref q_39, .ref q_48])), (q_7, .inl (k_7, (30, .inl (fun _ => 0)))), (q_15, .inl (k_15, (30, .inl (fun _ => 0)))), (q_23, .inl (k_23, (30, .inl (fun _ => 0)))), (q_31, .inl (k_31, (30, .inl (fun _ => 0)))), (q_39, .inl (k_39, (30, .inl (fun _ => 0)))), (q_48, .inl (k_48, (300, .inl (fun _ => 0))))] H := hP
  have hD : va_D A [(h0, .inr (3, [.int 0, .int 0, .ref q_7, .ref q_15, .ref q_23, .ref q_31, .ref q_39, .ref q_48])), (q_7, .inl (k_7, (30, .inl (fun _ => 0)))), (q_15, .inl (k_15, (30, .inl (fun _ => 0)))), (q_23, .inl (k_23, (30, .inl (fun _ => 0)))), (q_31, .inl (k_31, (30, .inl (fun _ => 0)))), (q_39, .inl (k_39, (30, .inl (fun _ => 0)))), (q_48, .inl (k_48, (300, .inl (fun _ => 0))))] := hD
  rw [hQ]
  exact W.vret hx hb hr (fun t9 ht9 hW9 => ⟨⟨(), rfl, trivial, q_7, q_15, q_23, q_31, q_39, q_48, k_7, k_15, k_23, k_31, k_39, k_48, cB_of hP hK hD ht9 hW9⟩, hS.F ht9⟩) hS.2.2 dX3_init_53
abbrev rm_X4_init : Room := { frames := 1, cells := 2, slots := 20, locals := 12 }
set_option maxHeartbeats 4000000 in
set_option maxRecDepth 100000 in
theorem c_X4_init (l : Launch) (dC : Nat → ClassId) (dI : Nat → Nat → Nat) (h0 : Nat) (sz : Nat) : Met l yX4_init wsX4_init rm_X4_init (va_Pc [.ref (h0)] (cT dC dI sz [(h0, .inr (4, [.int 0, .null, .null]))] [])) (va_Qv (fun (_ : Unit) => True) (fun _ t => ∃ (q_7 q_15 : Nat) (k_7 k_15 : ClassId), cB dC dI (va_A [(h0, .inr (4, [.int 0, .null, .null]))] sz) [(h0, .inr (4, [.int 0, .ref q_7, .ref q_15])), (q_7, .inl (k_7, (10, .inl (fun _ => 0)))), (q_15, .inl (k_15, (10, .inr (.inl (fun _ => 0)))))] [(k_7, .int), (k_15, .long)] t) (va_A [(h0, .inr (4, [.int 0, .null, .null]))] sz)) 2 20 (va_A [(h0, .inr (4, [.int 0, .null, .null]))] sz) := by
  refine Met.ofW (cc := cX4_init) (maxL := 1) (ret := none) (by decide) rfl ?_
  intro p e s m args below meth c s₁ B hml hv
  obtain ⟨rfl, hsz, hP, hK, hD0⟩ := hv
  have hx := B.exec
  have hb := B.bytes
  have hr := B.returns
  have hts := atoms_spec (ws := wsX4_init) B.pre
  have hown : s.vm.findClass RX4 = some m.cls := findClass_of_methodNamed B.named
  have hlocks := B.notSynchronized
  have hin : meth.name = "<init>" := (name_of_methodNamed B.named B.method).1
  subst hsz
  have hD := hD0.self (sz := s.heap.size)
  generalize hAe : va_A [(h0, .inr (4, [.int 0, .null, .null]))] s.heap.size = A at hD ⊢
  have hA : ∀ q : Nat, s.heap.size ≤ q → A q := fun q h => by rw [← hAe]; exact Or.inr h
  have hS : va_S A s.heap s.heap [] := va_S.rf
  obtain ⟨Q, hQ⟩ : ∃ Q, Q = MQ below (va_Qv (fun (_ : Unit) => True) (fun _ t => ∃ (q_7 q_15 : Nat) (k_7 k_15 : ClassId), cB dC dI A [(h0, .inr (4, [.int 0, .ref q_7, .ref q_15])), (q_7, .inl (k_7, (10, .inl (fun _ => 0)))), (q_15, .inl (k_15, (10, .inr (.inl (fun _ => 0)))))] [(k_7, .int), (k_15, .long)] t) A) ([.ref (h0)] : List Value).toArray s 2 20 A := ⟨_, rfl⟩
  show W p l e rm_X4_init s m _ below meth c s.heap [] 0 0 (MQ below _ _ _ _ _ _) _
  rw [← hQ]
  have i_X4 : ∀ w ∈ wsX40, w ∈ wsX4_init := fun w h => List.mem_cons_of_mem _ (List.mem_append_right _ h)
  have f_0 := hts (.methodLink RX4 3 objectInit) (by decide +kernel)
  have f_1 := hts (.instanceMethod objectInit) (by decide +kernel)
  have f_2 := hts (.code objectInit ⟨#[0xb1]⟩ 1 none) (by decide +kernel)
  have f_3 := hts (.arrayClass .int) (by decide +kernel)
  have f_4 := hts (.fieldLink RX4 9 "CampBook$Tents" "places" "[I") (by decide +kernel)
  have f_5 := hts (.arrayClass .long) (by decide +kernel)
  have f_6 := hts (.fieldLink RX4 15 "CampBook$Tents" "sleepers" "[J") (by decide +kernel)
  have hl := lv_entry ([.ref (h0)]) (n := 1) (Nat.le_of_ble_eq_true rfl)
  rw [lg_entry_eq]
  generalize (lg_sl ([.ref (h0)]) ++ List.replicate (1 - (lg_sl ([.ref (h0)])).length) Slot.unset).toArray = ls at hl ⊢
  have hl : lv_has ls 1 [(0, .ref (h0))] := hl
  have hP : va_P (dC, dI) vwCl [(h0, .inr (4, [.int 0, .null, .null]))] s.heap := hP
  refine lv_aload_n hx hb dX4_init_0 rfl (lv_at hl 0 rfl) ?_
  refine W.objInit hx hb hown f_0 f_1 f_2 rfl (by rw [hml]; exact hl.1) rfl dX4_init_1 (Nat.le_of_ble_eq_true rfl) (Nat.le_of_ble_eq_true rfl) ?_
  refine W.eq (g2 := F0 m 4 ls []) rfl ?_
  refine lv_aload_n hx hb dX4_init_4 rfl (lv_at hl 0 rfl) ?_
  refine lv_bipush (v := nI 10) hx hb dX4_init_5 (by decide) ?_
  refine va_newa (atype := .int) hx hb f_3 rfl hK hP hD hS hA (a0 := (10, .inl (fun _ => 0))) (fun _ => rfl) (by decide) (N' := 10) rfl (by decide) (Nat.le_of_ble_eq_true rfl) (Nat.le_of_ble_eq_true rfl) dX4_init_7 (fun q_7 k_7 H hK hP hD hS => ?_)
  have hP : va_P (dC, dI) vwCl [(h0, .inr (4, [.int 0, .null, .null])), (q_7, .inl (k_7, (10, .inl (fun _ => 0))))] H := hP
  have hD : va_D A [(h0, .inr (4, [.int 0, .null, .null])), (q_7, .inl (k_7, (10, .inl (fun _ => 0))))] := hD
  have hK : va_K (dC, dI) vwCl [(k_7, .int)] s := hK
  refine W.widen (k := 1) (n := 10) (by omega) (by omega) ?_
  refine va_putF (D := (dC, dI)) (ci := 4) (v := .ref q_7) (ty := .array .int) (C := RX4) (T := TX4) (N := 3) hx hb hts i_X4 tyX4 tyX4_ok nmX4 hown hK hP hD hS 0 rfl rfl 1 (by decide) f_4 (fun _ h9 => h9) rfl hin rfl (by decide +kernel) rfl rfl (Nat.le_of_ble_eq_true rfl) dX4_init_9 (fun H locs hP hD hS => ?_)
  have hP : va_P (dC, dI) vwCl [(h0, .inr (4, [.int 0, .ref q_7, .null])), (q_7, .inl (k_7, (10, .inl (fun _ => 0))))] H := hP
  have hD : va_D A [(h0, .inr (4, [.int 0, .ref q_7, .null])), (q_7, .inl (k_7, (10, .inl (fun _ => 0))))] := hD
  refine lv_aload_n hx hb dX4_init_12 rfl (lv_at hl 0 rfl) ?_
  refine lv_bipush (v := nI 10) hx hb dX4_init_13 (by decide) ?_
  refine va_newa (atype := .long) hx hb f_5 rfl hK hP hD hS hA (a0 := (10, .inr (.inl (fun _ => 0)))) (fun _ => rfl) (by decide) (N' := 10) rfl (by decide) (Nat.le_of_ble_eq_true rfl) (Nat.le_of_ble_eq_true rfl) dX4_init_15 (fun q_15 k_15 H hK hP hD hS => ?_)
  have hP : va_P (dC, dI) vwCl [(h0, .inr (4, [.int 0, .ref q_7, .null])), (q_7, .inl (k_7, (10, .inl (fun _ => 0)))), (q_15, .inl (k_15, (10, .inr (.inl (fun _ => 0)))))] H := hP
  have hD : va_D A [(h0, .inr (4, [.int 0, .ref q_7, .null])), (q_7, .inl (k_7, (10, .inl (fun _ => 0)))), (q_15, .inl (k_15, (10, .inr (.inl (fun _ => 0)))))] := hD
  have hK : va_K (dC, dI) vwCl [(k_7, .int), (k_15, .long)] s := hK
  refine W.widen (k := 2) (n := 20) (by omega) (by omega) ?_
  refine va_putF (D := (dC, dI)) (ci := 4) (v := .ref q_15) (ty := .array .long) (C := RX4) (T := TX4) (N := 3) hx hb hts i_X4 tyX4 tyX4_ok nmX4 hown hK hP hD hS 0 rfl rfl 2 (by decide) f_6 (fun _ h9 => h9) rfl hin rfl (by decide +kernel) rfl rfl (Nat.le_of_ble_eq_true rfl) dX4_init_17 (fun H locs hP hD hS => ?_)
  have hP : va_P (dC, dI) vwCl [(h0, .inr (4, [.int 0, .ref q_7, .ref q_15])), (q_7, .inl (k_7, (10, .inl (fun _ => 0)))), (q_15, .inl (k_15, (10, .inr (.inl (fun _ => 0)))))] H := hP
  have hD : va_D A [(h0, .inr (4, [.int 0, .ref q_7, .ref q_15])), (q_7, .inl (k_7, (10, .inl (fun _ => 0)))), (q_15, .inl (k_15, (10, .inr (.inl (fun _ => 0)))))] := hD
  rw [hQ]
  exact W.vret hx hb hr (fun t9 ht9 hW9 => ⟨⟨(), rfl, trivial, q_7, q_15, k_7, k_15, cB_of hP hK hD ht9 hW9⟩, hS.F ht9⟩) hS.2.2 dX4_init_20
abbrev rm_X1_init : Room := { frames := 1, cells := 2, slots := 311, locals := 23 }
set_option maxHeartbeats 4000000 in
set_option maxRecDepth 100000 in
theorem c_X1_init (l : Launch) (dC : Nat → ClassId) (dI : Nat → Nat → Nat) (h0 : Nat) (sz : Nat) : Met l yX1_init wsX1_init rm_X1_init (va_Pc [.ref (h0)] (cT dC dI sz [(h0, .inr (1, [.null, .null]))] [])) (va_Qv (fun (_ : Unit) => True) (fun _ t => ∃ (q_8 q_16 : Nat) (k_8 k_16 : ClassId), cB dC dI (va_A [(h0, .inr (1, [.null, .null]))] sz) [(h0, .inr (1, [.ref q_8, .ref q_16])), (q_8, .inl (k_8, (305, .inl (fa_fill (fun _ => -1) (fun _ => 0) 305)))), (q_16, .inl (k_16, (6, .inl (fun _ => 0))))] [(k_8, .int), (k_16, .int)] t) (va_A [(h0, .inr (1, [.null, .null]))] sz)) 2 311 (va_A [(h0, .inr (1, [.null, .null]))] sz) := by
  refine Met.ofW (cc := cX1_init) (maxL := 1) (ret := none) (by decide) rfl ?_
  intro p e s m args below meth c s₁ B hml hv
  obtain ⟨rfl, hsz, hP, hK, hD0⟩ := hv
  have hx := B.exec
  have hb := B.bytes
  have hr := B.returns
  have hts := atoms_spec (ws := wsX1_init) B.pre
  have hown : s.vm.findClass RX1 = some m.cls := findClass_of_methodNamed B.named
  have hlocks := B.notSynchronized
  have hin : meth.name = "<init>" := (name_of_methodNamed B.named B.method).1
  subst hsz
  have hD := hD0.self (sz := s.heap.size)
  generalize hAe : va_A [(h0, .inr (1, [.null, .null]))] s.heap.size = A at hD ⊢
  have hA : ∀ q : Nat, s.heap.size ≤ q → A q := fun q h => by rw [← hAe]; exact Or.inr h
  have hS : va_S A s.heap s.heap [] := va_S.rf
  obtain ⟨Q, hQ⟩ : ∃ Q, Q = MQ below (va_Qv (fun (_ : Unit) => True) (fun _ t => ∃ (q_8 q_16 : Nat) (k_8 k_16 : ClassId), cB dC dI A [(h0, .inr (1, [.ref q_8, .ref q_16])), (q_8, .inl (k_8, (305, .inl (fa_fill (fun _ => -1) (fun _ => 0) 305)))), (q_16, .inl (k_16, (6, .inl (fun _ => 0))))] [(k_8, .int), (k_16, .int)] t) A) ([.ref (h0)] : List Value).toArray s 2 311 A := ⟨_, rfl⟩
  show W p l e rm_X1_init s m _ below meth c s.heap [] 0 0 (MQ below _ _ _ _ _ _) _
  rw [← hQ]
  have i_X1 : ∀ w ∈ wsX10, w ∈ wsX1_init := fun w h => List.mem_cons_of_mem _ (List.mem_append_right _ h)
  have f_0 := hts (.methodLink RX1 3 objectInit) (by decide +kernel)
  have f_1 := hts (.instanceMethod objectInit) (by decide +kernel)
  have f_2 := hts (.code objectInit ⟨#[0xb1]⟩ 1 none) (by decide +kernel)
  have f_3 := hts (.arrayClass .int) (by decide +kernel)
  have f_4 := hts (.fieldLink RX1 11 "CampBook$Duties" "holders" "[I") (by decide +kernel)
  have f_5 := hts (.fieldLink RX1 15 "CampBook$Duties" "points" "[I") (by decide +kernel)
  have hl := lv_entry ([.ref (h0)]) (n := 1) (Nat.le_of_ble_eq_true rfl)
  rw [lg_entry_eq]
  generalize (lg_sl ([.ref (h0)]) ++ List.replicate (1 - (lg_sl ([.ref (h0)])).length) Slot.unset).toArray = ls at hl ⊢
  have hl : lv_has ls 1 [(0, .ref (h0))] := hl
  have hP : va_P (dC, dI) vwCl [(h0, .inr (1, [.null, .null]))] s.heap := hP
  refine lv_aload_n hx hb dX1_init_0 rfl (lv_at hl 0 rfl) ?_
  refine W.objInit hx hb hown f_0 f_1 f_2 rfl (by rw [hml]; exact hl.1) rfl dX1_init_1 (Nat.le_of_ble_eq_true rfl) (Nat.le_of_ble_eq_true rfl) ?_
  refine W.eq (g2 := F0 m 4 ls []) rfl ?_
  refine lv_aload_n hx hb dX1_init_4 rfl (lv_at hl 0 rfl) ?_
  refine lv_sipush (v := nI 305) hx hb dX1_init_5 (by decide) ?_
  refine va_newa (atype := .int) hx hb f_3 rfl hK hP hD hS hA (a0 := (305, .inl (fun _ => 0))) (fun _ => rfl) (by decide) (N' := 305) rfl (by decide) (Nat.le_of_ble_eq_true rfl) (Nat.le_of_ble_eq_true rfl) dX1_init_8 (fun q_8 k_8 H hK hP hD hS => ?_)
  have hP : va_P (dC, dI) vwCl [(h0, .inr (1, [.null, .null])), (q_8, .inl (k_8, (305, .inl (fun _ => 0))))] H := hP
  have hD : va_D A [(h0, .inr (1, [.null, .null])), (q_8, .inl (k_8, (305, .inl (fun _ => 0))))] := hD
  have hK : va_K (dC, dI) vwCl [(k_8, .int)] s := hK
  refine W.widen (k := 1) (n := 305) (by omega) (by omega) ?_
  refine va_putF (D := (dC, dI)) (ci := 1) (v := .ref q_8) (ty := .array .int) (C := RX1) (T := TX1) (N := 2) hx hb hts i_X1 tyX1 tyX1_ok nmX1 hown hK hP hD hS 0 rfl rfl 0 (by decide) f_4 (fun _ h9 => h9) rfl hin rfl (by decide +kernel) rfl rfl (Nat.le_of_ble_eq_true rfl) dX1_init_10 (fun H locs hP hD hS => ?_)
  have hP : va_P (dC, dI) vwCl [(h0, .inr (1, [.ref q_8, .null])), (q_8, .inl (k_8, (305, .inl (fun _ => 0))))] H := hP
  have hD : va_D A [(h0, .inr (1, [.ref q_8, .null])), (q_8, .inl (k_8, (305, .inl (fun _ => 0))))] := hD
  refine lv_aload_n hx hb dX1_init_13 rfl (lv_at hl 0 rfl) ?_
  refine lv_bipush (v := nI 6) hx hb dX1_init_14 (by decide) ?_
  refine va_newa (atype := .int) hx hb f_3 rfl hK hP hD hS hA (a0 := (6, .inl (fun _ => 0))) (fun _ => rfl) (by decide) (N' := 6) rfl (by decide) (Nat.le_of_ble_eq_true rfl) (Nat.le_of_ble_eq_true rfl) dX1_init_16 (fun q_16 k_16 H hK hP hD hS => ?_)
  have hP : va_P (dC, dI) vwCl [(h0, .inr (1, [.ref q_8, .null])), (q_8, .inl (k_8, (305, .inl (fun _ => 0)))), (q_16, .inl (k_16, (6, .inl (fun _ => 0))))] H := hP
  have hD : va_D A [(h0, .inr (1, [.ref q_8, .null])), (q_8, .inl (k_8, (305, .inl (fun _ => 0)))), (q_16, .inl (k_16, (6, .inl (fun _ => 0))))] := hD
  have hK : va_K (dC, dI) vwCl [(k_8, .int), (k_16, .int)] s := hK
  refine W.widen (k := 2) (n := 311) (by omega) (by omega) ?_
  refine va_putF (D := (dC, dI)) (ci := 1) (v := .ref q_16) (ty := .array .int) (C := RX1) (T := TX1) (N := 2) hx hb hts i_X1 tyX1 tyX1_ok nmX1 hown hK hP hD hS 0 rfl rfl 1 (by decide) f_5 (fun _ h9 => h9) rfl hin rfl (by decide +kernel) rfl rfl (Nat.le_of_ble_eq_true rfl) dX1_init_18 (fun H locs hP hD hS => ?_)
  have hP : va_P (dC, dI) vwCl [(h0, .inr (1, [.ref q_8, .ref q_16])), (q_8, .inl (k_8, (305, .inl (fun _ => 0)))), (q_16, .inl (k_16, (6, .inl (fun _ => 0))))] H := hP
  have hD : va_D A [(h0, .inr (1, [.ref q_8, .ref q_16])), (q_8, .inl (k_8, (305, .inl (fun _ => 0)))), (q_16, .inl (k_16, (6, .inl (fun _ => 0))))] := hD
  refine lv_aload_n hx hb dX1_init_21 rfl (lv_at hl 0 rfl) ?_
  refine va_get (D := (dC, dI)) (ci := 1) (v := .ref q_8) (C := RX1) (T := TX1) (N := 2) hx hb hts i_X1 hown hK hP 0 rfl rfl 0 (by decide) f_4 (fun _ h9 => h9) rfl dX1_init_22 ?_
  refine lv_iconst (v := (-1)) hx hb dX1_init_25 (by decide) ?_
  have hPc := hP.sub (ws' := [(q_8, .inl (k_8, (305, .inl (fun _ => 0))))]) [1] rfl
  have hDc := hD.sub (ws' := [(q_8, .inl (k_8, (305, .inl (fun _ => 0))))]) [1] (by decide) rfl
  have hKc := hK.sub (tys' := [(k_8, .int)]) [0] rfl
  have hFc := va_free (wc := [(q_8, .inl (k_8, (305, .inl (fun _ => 0))))]) hD hS hA [1] rfl
  refine va_callv (va_runS (As := [.ref q_8, .int (-1)]) (rest := []) ⟨hx, hb, hml, hown, hts⟩ (c_J7_fill l dC dI q_8 k_8 305 (fun _ => 0) (-1) H.size (by decide)) (va_cwS 2 hts gX1_init_J7_fill_53178 rfl rfl rfl (by decide +kernel) ⟨Nat.le_of_ble_eq_true rfl, Nat.le_of_ble_eq_true rfl⟩) ⟨cT_blind, fun U hU hW => ⟨rfl, cT_of hKc hPc hDc hU hW⟩⟩ rfl rfl hl.1 rfl (lv_room (Nat.le_of_ble_eq_true rfl)) dX1_init_26 ⟨Nat.le_of_ble_eq_true rfl, Nat.le_of_ble_eq_true rfl⟩) hS (fun q _ h => hFc q h) hFc (fun u8 t8 H1 locs ht hvm hw hB hz1 hk1 hS => ?_)
  obtain ⟨hP1, hK1, hD1⟩ := hB
  rw [ht] at hP1
  obtain ⟨hP, hD⟩ := va_join (wc := [(q_8, .inl (k_8, (305, .inl (fun _ => 0))))]) (wr := [(h0, .inr (1, [.ref q_8, .ref q_16])), (q_16, .inl (k_16, (6, .inl (fun _ => 0))))]) (w1 := [(q_8, .inl (k_8, (305, .inl (fa_fill (fun _ => -1) (fun _ => 0) 305))))]) hP hD [1] [0, 2] rfl rfl (by decide) (by decide) hk1 hFc hP1 hD1
  have hP := hP.sub (ws' := [(h0, .inr (1, [.ref q_8, .ref q_16])), (q_8, .inl (k_8, (305, .inl (fa_fill (fun _ => -1) (fun _ => 0) 305)))), (q_16, .inl (k_16, (6, .inl (fun _ => 0))))]) [0, 2, 1] rfl
  have hD := hD.sub (ws' := [(h0, .inr (1, [.ref q_8, .ref q_16])), (q_8, .inl (k_8, (305, .inl (fa_fill (fun _ => -1) (fun _ => 0) 305)))), (q_16, .inl (k_16, (6, .inl (fun _ => 0))))]) [0, 2, 1] (by decide) rfl
  generalize H1 = H at hP hS ⊢
  have hP : va_P (dC, dI) vwCl [(h0, .inr (1, [.ref q_8, .ref q_16])), (q_8, .inl (k_8, (305, .inl (fa_fill (fun _ => -1) (fun _ => 0) 305)))), (q_16, .inl (k_16, (6, .inl (fun _ => 0))))] H := hP
  have hD : va_D A [(h0, .inr (1, [.ref q_8, .ref q_16])), (q_8, .inl (k_8, (305, .inl (fa_fill (fun _ => -1) (fun _ => 0) 305)))), (q_16, .inl (k_16, (6, .inl (fun _ => 0))))] := hD
  refine W.widen (k := 2) (n := 311) (by omega) (by omega) ?_
  rw [hQ]
  exact W.vret hx hb hr (fun t9 ht9 hW9 => ⟨⟨(), rfl, trivial, q_8, q_16, k_8, k_16, cB_of hP hK hD ht9 hW9⟩, hS.F ht9⟩) hS.2.2 dX1_init_29
abbrev rm_X5_init : Room := { frames := 2, cells := 19, slots := 1023, locals := 43 }
set_option maxHeartbeats 4000000 in
set_option maxRecDepth 100000 in
theorem c_X5_init (l : Launch) (dC : Nat → ClassId) (dI : Nat → Nat → Nat) (h0 : Nat) (sz : Nat) : Met l yX5_init wsX5_init rm_X5_init (va_Pc [.ref (h0)] (cTn dC dI sz [(h0, .inr (5, [.null, .null, .null, .null, .null, .int 0]))] [])) (va_Qv (fun (_ : Unit) => True) (fun _ t => ∃ (a : Nat → Nat) (k : Nat → ClassId), a 0 = h0 ∧ cB dC dI (va_A [(h0, .inr (5, [.null, .null, .null, .null, .null, .int 0]))] sz) (cb_w a k c_S1) (cb_ty k) t) (va_A [(h0, .inr (5, [.null, .null, .null, .null, .null, .int 0]))] sz)) 19 1023 (va_A [(h0, .inr (5, [.null, .null, .null, .null, .null, .int 0]))] sz) := by
  refine Met.ofW (cc := cX5_init) (maxL := 1) (ret := none) (by decide) rfl ?_
  intro p e s m args below meth c s₁ B hml hv
  obtain ⟨rfl, ⟨hsz, hP, hK, hD0⟩, hN⟩ := hv
  have hx := B.exec
  have hb := B.bytes
  have hr := B.returns
  have hts := atoms_spec (ws := wsX5_init) B.pre
  have hown : s.vm.findClass RX5 = some m.cls := findClass_of_methodNamed B.named
  have hlocks := B.notSynchronized
  have hin : meth.name = "<init>" := (name_of_methodNamed B.named B.method).1
  subst hsz
  have hD := hD0.self (sz := s.heap.size)
  generalize hAe : va_A [(h0, .inr (5, [.null, .null, .null, .null, .null, .int 0]))] s.heap.size = A at hD ⊢
  have hA : ∀ q : Nat, s.heap.size ≤ q → A q := fun q h => by rw [← hAe]; exact Or.inr h
  have hS : va_S A s.heap s.heap [] := va_S.rf
  obtain ⟨Q, hQ⟩ : ∃ Q, Q = MQ below (va_Qv (fun (_ : Unit) => True) (fun _ t => ∃ (a : Nat → Nat) (k : Nat → ClassId), a 0 = h0 ∧ cB dC dI A (cb_w a k c_S1) (cb_ty k) t) A) ([.ref (h0)] : List Value).toArray s 19 1023 A := ⟨_, rfl⟩
  show W p l e rm_X5_init s m _ below meth c s.heap [] 0 0 (MQ below _ _ _ _ _ _) _
  rw [← hQ]
  have i_X0 : ∀ w ∈ wsX00, w ∈ wsX5_init := fun w h => List.mem_cons_of_mem _ (List.mem_append_right _ h)
  have i_X1 : ∀ w ∈ wsX10, w ∈ wsX5_init := fun w h => List.mem_cons_of_mem _ (List.mem_append_left _ (List.mem_append_left _ (List.mem_append_right _ h)))
  have i_X2 : ∀ w ∈ wsX20, w ∈ wsX5_init := fun w h => List.mem_cons_of_mem _ (List.mem_append_left _ (List.mem_append_right _ h))
  have i_X3 : ∀ w ∈ wsX30, w ∈ wsX5_init := fun w h => List.mem_cons_of_mem _ (List.mem_append_left _ (List.mem_append_left _ (List.mem_append_left _ (List.mem_append_left _ (List.mem_append_left _ (List.mem_append_right _ h))))))
  have i_X4 : ∀ w ∈ wsX40, w ∈ wsX5_init := fun w h => List.mem_cons_of_mem _ (List.mem_append_left _ (List.mem_append_left _ (List.mem_append_left _ (List.mem_append_right _ h))))
  have i_X5 : ∀ w ∈ wsX50, w ∈ wsX5_init := fun w h => List.mem_cons_of_mem _ (List.mem_append_left _ (List.mem_append_left _ (List.mem_append_left _ (List.mem_append_left _ (List.mem_append_right _ h)))))
  have f_0 := hts (.methodLink RX5 1 objectInit) (by decide +kernel)
  have f_1 := hts (.instanceMethod objectInit) (by decide +kernel)
  have f_2 := hts (.code objectInit ⟨#[0xb1]⟩ 1 none) (by decide +kernel)
  have f_3 := hts (.classLink RX5 7 RX3) (by decide +kernel)
  have f_4 := hts (.instantiable RX3 8) (by decide +kernel)
  have f_5 := hts (.initialized RX3) (by decide +kernel)
  have f_6 := hts (.instanceMethod yX3_init) (by decide +kernel)
  have f_7 := hts (.fieldLink RX5 10 "CampBook" "people" "LCampBook$People;") (by decide +kernel)
  have f_8 := hts (.classLink RX5 16 RX4) (by decide +kernel)
  have f_9 := hts (.instantiable RX4 3) (by decide +kernel)
  have f_10 := hts (.initialized RX4) (by decide +kernel)
  have f_11 := hts (.instanceMethod yX4_init) (by decide +kernel)
  have f_12 := hts (.fieldLink RX5 19 "CampBook" "tents" "LCampBook$Tents;") (by decide +kernel)
  have f_13 := hts (.classLink RX5 23 RX1) (by decide +kernel)
  have f_14 := hts (.instantiable RX1 2) (by decide +kernel)
  have f_15 := hts (.initialized RX1) (by decide +kernel)
  have f_16 := hts (.methodLink RX5 25 yX1_init) (by decide +kernel)
  have f_17 := hts (.instanceMethod yX1_init) (by decide +kernel)
  have f_18 := hts (.fieldLink RX5 26 "CampBook" "duties" "LCampBook$Duties;") (by decide +kernel)
  have f_19 := hts (.classLink RX5 30 RX2) (by decide +kernel)
  have f_20 := hts (.instantiable RX2 6) (by decide +kernel)
  have f_21 := hts (.initialized RX2) (by decide +kernel)
  have f_22 := hts (.instanceMethod yX2_init) (by decide +kernel)
  have f_23 := hts (.fieldLink RX5 33 "CampBook" "kitchen" "LCampBook$Kitchen;") (by decide +kernel)
  have f_24 := hts (.classLink RX5 37 RX0) (by decide +kernel)
  have f_25 := hts (.instantiable RX0 3) (by decide +kernel)
  have f_26 := hts (.initialized RX0) (by decide +kernel)
  have f_27 := hts (.instanceMethod yX0_init) (by decide +kernel)
  have f_28 := hts (.fieldLink RX5 40 "CampBook" "badges" "LCampBook$Badges;") (by decide +kernel)
  have f_29 := hts (.fieldLink RX5 44 "CampBook" "today" "I") (by decide +kernel)
  have hl := lv_entry ([.ref (h0)]) (n := 1) (Nat.le_of_ble_eq_true rfl)
  rw [lg_entry_eq]
  generalize (lg_sl ([.ref (h0)]) ++ List.replicate (1 - (lg_sl ([.ref (h0)])).length) Slot.unset).toArray = ls at hl ⊢
  have hl : lv_has ls 1 [(0, .ref (h0))] := hl
  have hP : va_P (dC, dI) vwCl [(h0, .inr (5, [.null, .null, .null, .null, .null, .int 0]))] s.heap := hP
  refine lv_aload_n hx hb dX5_init_0 rfl (lv_at hl 0 rfl) ?_
  refine W.objInit hx hb hown f_0 f_1 f_2 rfl (by rw [hml]; exact hl.1) rfl dX5_init_1 (Nat.le_of_ble_eq_true rfl) (Nat.le_of_ble_eq_true rfl) ?_
  refine W.eq (g2 := F0 m 4 ls []) rfl ?_
  refine lv_aload_n hx hb dX5_init_4 rfl (lv_at hl 0 rfl) ?_
  refine va_new (ci := 3) (fs := [.int 0, .int 0, .null, .null, .null, .null, .null, .null]) (C := RX3) (T := TX3) (N := 8) hx hb hts i_X3 tyX3 tyX3_ok hown f_3 f_4 f_5 hK hP hD hS hA rfl (fun j hj => by rcases (show j = 0 ∨ j = 1 ∨ j = 2 ∨ j = 3 ∨ j = 4 ∨ j = 5 ∨ j = 6 ∨ j = 7 by omega) with rfl | rfl | rfl | rfl | rfl | rfl | rfl | rfl <;> rfl) (Nat.le_of_ble_eq_true rfl) (Nat.le_of_ble_eq_true rfl) dX5_init_5 (fun q_5 H hP hD hS => ?_)
  have hP : va_P (dC, dI) vwCl [(h0, .inr (5, [.null, .null, .null, .null, .null, .int 0])), (q_5, .inr (3, [.int 0, .int 0, .null, .null, .null, .null, .null, .null]))] H := hP
  have hD : va_D A [(h0, .inr (5, [.null, .null, .null, .null, .null, .int 0])), (q_5, .inr (3, [.int 0, .int 0, .null, .null, .null, .null, .null, .null]))] := hD
  refine W.widen (k := 1) (n := 8) (by omega) (by omega) ?_
  refine lv_dup hx hb dX5_init_8 rfl ?_
  have hPc := hP.sub (ws' := [(q_5, .inr (3, [.int 0, .int 0, .null, .null, .null, .null, .null, .null]))]) [1] rfl
  have hDc := hD.sub (ws' := [(q_5, .inr (3, [.int 0, .int 0, .null, .null, .null, .null, .null, .null]))]) [1] (by decide) rfl
  have hKc := hK.sub (tys' := []) [] rfl
  have hFc := va_free (wc := [(q_5, .inr (3, [.int 0, .int 0, .null, .null, .null, .null, .null, .null]))]) hD hS hA [1] rfl
  refine va_callv (va_runIN (As := []) (rest := [.ref q_5, .ref h0]) ⟨hx, hb, hml, hown, hts⟩ (c_X3_init l dC dI q_5 H.size) ⟨va_cnB 0 hts gX5_init_X3_init_n9 rfl rfl rfl (hN (.methodLinkNest RX5 9 yX3_init "CampBook") (by decide +kernel)) f_5 (by decide +kernel) ⟨Nat.le_of_ble_eq_true rfl, Nat.le_of_ble_eq_true rfl⟩, rfl, f_6⟩ ⟨cT_blind, fun U hU hW => ⟨rfl, cT_of hKc hPc hDc hU hW⟩⟩ rfl rfl hl.1 rfl (lv_room (Nat.le_of_ble_eq_true rfl)) dX5_init_9 ⟨Nat.le_of_ble_eq_true rfl, Nat.le_of_ble_eq_true rfl⟩) hS (fun q _ h => hFc q h) hFc (fun u8 t8 H1 locs ht hvm hw hB hz1 hk1 hS => ?_)
  obtain ⟨q_9_0, q_9_1, q_9_2, q_9_3, q_9_4, q_9_5, k_9_0, k_9_1, k_9_2, k_9_3, k_9_4, k_9_5, hP1, hK1, hD1⟩ := hB
  rw [ht] at hP1
  have hK1 := va_K.moved hvm.symm hK1
  obtain ⟨hP, hD⟩ := va_join (wc := [(q_5, .inr (3, [.int 0, .int 0, .null, .null, .null, .null, .null, .null]))]) (wr := [(h0, .inr (5, [.null, .null, .null, .null, .null, .int 0]))]) (w1 := [(q_5, .inr (3, [.int 0, .int 0, .ref q_9_0, .ref q_9_1, .ref q_9_2, .ref q_9_3, .ref q_9_4, .ref q_9_5])), (q_9_0, .inl (k_9_0, (30, .inl (fun _ => 0)))), (q_9_1, .inl (k_9_1, (30, .inl (fun _ => 0)))), (q_9_2, .inl (k_9_2, (30, .inl (fun _ => 0)))), (q_9_3, .inl (k_9_3, (30, .inl (fun _ => 0)))), (q_9_4, .inl (k_9_4, (30, .inl (fun _ => 0)))), (q_9_5, .inl (k_9_5, (300, .inl (fun _ => 0))))]) hP hD [1] [0] rfl rfl (by decide) (by decide) hk1 hFc hP1 hD1
  have hK := (hK.sub (tys' := []) [] rfl).app hK1
  generalize H1 = H at hP hS ⊢
  have hP : va_P (dC, dI) vwCl [(h0, .inr (5, [.null, .null, .null, .null, .null, .int 0])), (q_5, .inr (3, [.int 0, .int 0, .ref q_9_0, .ref q_9_1, .ref q_9_2, .ref q_9_3, .ref q_9_4, .ref q_9_5])), (q_9_0, .inl (k_9_0, (30, .inl (fun _ => 0)))), (q_9_1, .inl (k_9_1, (30, .inl (fun _ => 0)))), (q_9_2, .inl (k_9_2, (30, .inl (fun _ => 0)))), (q_9_3, .inl (k_9_3, (30, .inl (fun _ => 0)))), (q_9_4, .inl (k_9_4, (30, .inl (fun _ => 0)))), (q_9_5, .inl (k_9_5, (300, .inl (fun _ => 0))))] H := hP
  have hD : va_D A [(h0, .inr (5, [.null, .null, .null, .null, .null, .int 0])), (q_5, .inr (3, [.int 0, .int 0, .ref q_9_0, .ref q_9_1, .ref q_9_2, .ref q_9_3, .ref q_9_4, .ref q_9_5])), (q_9_0, .inl (k_9_0, (30, .inl (fun _ => 0)))), (q_9_1, .inl (k_9_1, (30, .inl (fun _ => 0)))), (q_9_2, .inl (k_9_2, (30, .inl (fun _ => 0)))), (q_9_3, .inl (k_9_3, (30, .inl (fun _ => 0)))), (q_9_4, .inl (k_9_4, (30, .inl (fun _ => 0)))), (q_9_5, .inl (k_9_5, (300, .inl (fun _ => 0))))] := hD
  have hK : va_K (dC, dI) vwCl [(k_9_0, .int), (k_9_1, .int), (k_9_2, .int), (k_9_3, .int), (k_9_4, .int), (k_9_5, .int)] s := hK
  refine W.widen (k := 7) (n := 458) (by omega) (by omega) ?_
  refine va_putF (D := (dC, dI)) (ci := 5) (v := .ref q_5) (ty := .object "CampBook$People") (C := RX5) (T := TX5) (N := 6) hx hb hts i_X5 tyX5 tyX5_ok nmX5 hown hK hP hD hS 0 rfl rfl 0 (by decide) f_7 (fun _ h9 => h9) rfl hin rfl (by decide +kernel) rfl rfl (Nat.le_of_ble_eq_true rfl) dX5_init_12 (fun H locs hP hD hS => ?_)
  have hP : va_P (dC, dI) vwCl [(h0, .inr (5, [.ref q_5, .null, .null, .null, .null, .int 0])), (q_5, .inr (3, [.int 0, .int 0, .ref q_9_0, .ref q_9_1, .ref q_9_2, .ref q_9_3, .ref q_9_4, .ref q_9_5])), (q_9_0, .inl (k_9_0, (30, .inl (fun _ => 0)))), (q_9_1, .inl (k_9_1, (30, .inl (fun _ => 0)))), (q_9_2, .inl (k_9_2, (30, .inl (fun _ => 0)))), (q_9_3, .inl (k_9_3, (30, .inl (fun _ => 0)))), (q_9_4, .inl (k_9_4, (30, .inl (fun _ => 0)))), (q_9_5, .inl (k_9_5, (300, .inl (fun _ => 0))))] H := hP
  have hD : va_D A [(h0, .inr (5, [.ref q_5, .null, .null, .null, .null, .int 0])), (q_5, .inr (3, [.int 0, .int 0, .ref q_9_0, .ref q_9_1, .ref q_9_2, .ref q_9_3, .ref q_9_4, .ref q_9_5])), (q_9_0, .inl (k_9_0, (30, .inl (fun _ => 0)))), (q_9_1, .inl (k_9_1, (30, .inl (fun _ => 0)))), (q_9_2, .inl (k_9_2, (30, .inl (fun _ => 0)))), (q_9_3, .inl (k_9_3, (30, .inl (fun _ => 0)))), (q_9_4, .inl (k_9_4, (30, .inl (fun _ => 0)))), (q_9_5, .inl (k_9_5, (300, .inl (fun _ => 0))))] := hD
  refine lv_aload_n hx hb dX5_init_15 rfl (lv_at hl 0 rfl) ?_
  refine va_new (ci := 4) (fs := [.int 0, .null, .null]) (C := RX4) (T := TX4) (N := 3) hx hb hts i_X4 tyX4 tyX4_ok hown f_8 f_9 f_10 hK hP hD hS hA rfl (fun j hj => by rcases (show j = 0 ∨ j = 1 ∨ j = 2 by omega) with rfl | rfl | rfl <;> rfl) (Nat.le_of_ble_eq_true rfl) (Nat.le_of_ble_eq_true rfl) dX5_init_16 (fun q_16 H hP hD hS => ?_)
  have hP : va_P (dC, dI) vwCl [(h0, .inr (5, [.ref q_5, .null, .null, .null, .null, .int 0])), (q_5, .inr (3, [.int 0, .int 0, .ref q_9_0, .ref q_9_1, .ref q_9_2, .ref q_9_3, .ref q_9_4, .ref q_9_5])), (q_9_0, .inl (k_9_0, (30, .inl (fun _ => 0)))), (q_9_1, .inl (k_9_1, (30, .inl (fun _ => 0)))), (q_9_2, .inl (k_9_2, (30, .inl (fun _ => 0)))), (q_9_3, .inl (k_9_3, (30, .inl (fun _ => 0)))), (q_9_4, .inl (k_9_4, (30, .inl (fun _ => 0)))), (q_9_5, .inl (k_9_5, (300, .inl (fun _ => 0)))), (q_16, .inr (4, [.int 0, .null, .null]))] H := hP
  have hD : va_D A [(h0, .inr (5, [.ref q_5, .null, .null, .null, .null, .int 0])), (q_5, .inr (3, [.int 0, .int 0, .ref q_9_0, .ref q_9_1, .ref q_9_2, .ref q_9_3, .ref q_9_4, .ref q_9_5])), (q_9_0, .inl (k_9_0, (30, .inl (fun _ => 0)))), (q_9_1, .inl (k_9_1, (30, .inl (fun _ => 0)))), (q_9_2, .inl (k_9_2, (30, .inl (fun _ => 0)))), (q_9_3, .inl (k_9_3, (30, .inl (fun _ => 0)))), (q_9_4, .inl (k_9_4, (30, .inl (fun _ => 0)))), (q_9_5, .inl (k_9_5, (300, .inl (fun _ => 0)))), (q_16, .inr (4, [.int 0, .null, .null]))] := hD
  refine W.widen (k := 8) (n := 461) (by omega) (by omega) ?_
  refine lv_dup hx hb dX5_init_19 rfl ?_
  have hPc := hP.sub (ws' := [(q_16, .inr (4, [.int 0, .null, .null]))]) [8] rfl
  have hDc := hD.sub (ws' := [(q_16, .inr (4, [.int 0, .null, .null]))]) [8] (by decide) rfl
  have hKc := hK.sub (tys' := []) [] rfl
  have hFc := va_free (wc := [(q_16, .inr (4, [.int 0, .null, .null]))]) hD hS hA [8] rfl
  refine va_callv (va_runIN (As := []) (rest := [.ref q_16, .ref h0]) ⟨hx, hb, hml, hown, hts⟩ (c_X4_init l dC dI q_16 H.size) ⟨va_cnB 0 hts gX5_init_X4_init_n18 rfl rfl rfl (hN (.methodLinkNest RX5 18 yX4_init "CampBook") (by decide +kernel)) f_10 (by decide +kernel) ⟨Nat.le_of_ble_eq_true rfl, Nat.le_of_ble_eq_true rfl⟩, rfl, f_11⟩ ⟨cT_blind, fun U hU hW => ⟨rfl, cT_of hKc hPc hDc hU hW⟩⟩ rfl rfl hl.1 rfl (lv_room (Nat.le_of_ble_eq_true rfl)) dX5_init_20 ⟨Nat.le_of_ble_eq_true rfl, Nat.le_of_ble_eq_true rfl⟩) hS (fun q _ h => hFc q h) hFc (fun u8 t8 H1 locs ht hvm hw hB hz1 hk1 hS => ?_)
  obtain ⟨q_20_0, q_20_1, k_20_0, k_20_1, hP1, hK1, hD1⟩ := hB
  rw [ht] at hP1
  have hK1 := va_K.moved hvm.symm hK1
  obtain ⟨hP, hD⟩ := va_join (wc := [(q_16, .inr (4, [.int 0, .null, .null]))]) (wr := [(h0, .inr (5, [.ref q_5, .null, .null, .null, .null, .int 0])), (q_5, .inr (3, [.int 0, .int 0, .ref q_9_0, .ref q_9_1, .ref q_9_2, .ref q_9_3, .ref q_9_4, .ref q_9_5])), (q_9_0, .inl (k_9_0, (30, .inl (fun _ => 0)))), (q_9_1, .inl (k_9_1, (30, .inl (fun _ => 0)))), (q_9_2, .inl (k_9_2, (30, .inl (fun _ => 0)))), (q_9_3, .inl (k_9_3, (30, .inl (fun _ => 0)))), (q_9_4, .inl (k_9_4, (30, .inl (fun _ => 0)))), (q_9_5, .inl (k_9_5, (300, .inl (fun _ => 0))))]) (w1 := [(q_16, .inr (4, [.int 0, .ref q_20_0, .ref q_20_1])), (q_20_0, .inl (k_20_0, (10, .inl (fun _ => 0)))), (q_20_1, .inl (k_20_1, (10, .inr (.inl (fun _ => 0)))))]) hP hD [8] [0, 1, 2, 3, 4, 5, 6, 7] rfl rfl (by decide) (by decide) hk1 hFc hP1 hD1
  have hK := (hK.sub (tys' := [(k_9_0, .int), (k_9_1, .int), (k_9_2, .int), (k_9_3, .int), (k_9_4, .int), (k_9_5, .int)]) [0, 1, 2, 3, 4, 5] rfl).app hK1
  generalize H1 = H at hP hS ⊢
  have hP : va_P (dC, dI) vwCl [(h0, .inr (5, [.ref q_5, .null, .null, .null, .null, .int 0])), (q_5, .inr (3, [.int 0, .int 0, .ref q_9_0, .ref q_9_1, .ref q_9_2, .ref q_9_3, .ref q_9_4, .ref q_9_5])), (q_9_0, .inl (k_9_0, (30, .inl (fun _ => 0)))), (q_9_1, .inl (k_9_1, (30, .inl (fun _ => 0)))), (q_9_2, .inl (k_9_2, (30, .inl (fun _ => 0)))), (q_9_3, .inl (k_9_3, (30, .inl (fun _ => 0)))), (q_9_4, .inl (k_9_4, (30, .inl (fun _ => 0)))), (q_9_5, .inl (k_9_5, (300, .inl (fun _ => 0)))), (q_16, .inr (4, [.int 0, .ref q_20_0, .ref q_20_1])), (q_20_0, .inl (k_20_0, (10, .inl (fun _ => 0)))), (q_20_1, .inl (k_20_1, (10, .inr (.inl (fun _ => 0)))))] H := hP
  have hD : va_D A [(h0, .inr (5, [.ref q_5, .null, .null, .null, .null, .int 0])), (q_5, .inr (3, [.int 0, .int 0, .ref q_9_0, .ref q_9_1, .ref q_9_2, .ref q_9_3, .ref q_9_4, .ref q_9_5])), (q_9_0, .inl (k_9_0, (30, .inl (fun _ => 0)))), (q_9_1, .inl (k_9_1, (30, .inl (fun _ => 0)))), (q_9_2, .inl (k_9_2, (30, .inl (fun _ => 0)))), (q_9_3, .inl (k_9_3, (30, .inl (fun _ => 0)))), (q_9_4, .inl (k_9_4, (30, .inl (fun _ => 0)))), (q_9_5, .inl (k_9_5, (300, .inl (fun _ => 0)))), (q_16, .inr (4, [.int 0, .ref q_20_0, .ref q_20_1])), (q_20_0, .inl (k_20_0, (10, .inl (fun _ => 0)))), (q_20_1, .inl (k_20_1, (10, .inr (.inl (fun _ => 0)))))] := hD
  have hK : va_K (dC, dI) vwCl [(k_9_0, .int), (k_9_1, .int), (k_9_2, .int), (k_9_3, .int), (k_9_4, .int), (k_9_5, .int), (k_20_0, .int), (k_20_1, .long)] s := hK
  refine W.widen (k := 10) (n := 481) (by omega) (by omega) ?_
  refine va_putF (D := (dC, dI)) (ci := 5) (v := .ref q_16) (ty := .object "CampBook$Tents") (C := RX5) (T := TX5) (N := 6) hx hb hts i_X5 tyX5 tyX5_ok nmX5 hown hK hP hD hS 0 rfl rfl 1 (by decide) f_12 (fun _ h9 => h9) rfl hin rfl (by decide +kernel) rfl rfl (Nat.le_of_ble_eq_true rfl) dX5_init_23 (fun H locs hP hD hS => ?_)
  have hP : va_P (dC, dI) vwCl [(h0, .inr (5, [.ref q_5, .ref q_16, .null, .null, .null, .int 0])), (q_5, .inr (3, [.int 0, .int 0, .ref q_9_0, .ref q_9_1, .ref q_9_2, .ref q_9_3, .ref q_9_4, .ref q_9_5])), (q_9_0, .inl (k_9_0, (30, .inl (fun _ => 0)))), (q_9_1, .inl (k_9_1, (30, .inl (fun _ => 0)))), (q_9_2, .inl (k_9_2, (30, .inl (fun _ => 0)))), (q_9_3, .inl (k_9_3, (30, .inl (fun _ => 0)))), (q_9_4, .inl (k_9_4, (30, .inl (fun _ => 0)))), (q_9_5, .inl (k_9_5, (300, .inl (fun _ => 0)))), (q_16, .inr (4, [.int 0, .ref q_20_0, .ref q_20_1])), (q_20_0, .inl (k_20_0, (10, .inl (fun _ => 0)))), (q_20_1, .inl (k_20_1, (10, .inr (.inl (fun _ => 0)))))] H := hP
  have hD : va_D A [(h0, .inr (5, [.ref q_5, .ref q_16, .null, .null, .null, .int 0])), (q_5, .inr (3, [.int 0, .int 0, .ref q_9_0, .ref q_9_1, .ref q_9_2, .ref q_9_3, .ref q_9_4, .ref q_9_5])), (q_9_0, .inl (k_9_0, (30, .inl (fun _ => 0)))), (q_9_1, .inl (k_9_1, (30, .inl (fun _ => 0)))), (q_9_2, .inl (k_9_2, (30, .inl (fun _ => 0)))), (q_9_3, .inl (k_9_3, (30, .inl (fun _ => 0)))), (q_9_4, .inl (k_9_4, (30, .inl (fun _ => 0)))), (q_9_5, .inl (k_9_5, (300, .inl (fun _ => 0)))), (q_16, .inr (4, [.int 0, .ref q_20_0, .ref q_20_1])), (q_20_0, .inl (k_20_0, (10, .inl (fun _ => 0)))), (q_20_1, .inl (k_20_1, (10, .inr (.inl (fun _ => 0)))))] := hD
  refine lv_aload_n hx hb dX5_init_26 rfl (lv_at hl 0 rfl) ?_
  refine va_new (ci := 1) (fs := [.null, .null]) (C := RX1) (T := TX1) (N := 2) hx hb hts i_X1 tyX1 tyX1_ok hown f_13 f_14 f_15 hK hP hD hS hA rfl (fun j hj => by rcases (show j = 0 ∨ j = 1 by omega) with rfl | rfl <;> rfl) (Nat.le_of_ble_eq_true rfl) (Nat.le_of_ble_eq_true rfl) dX5_init_27 (fun q_27 H hP hD hS => ?_)
  have hP : va_P (dC, dI) vwCl [(h0, .inr (5, [.ref q_5, .ref q_16, .null, .null, .null, .int 0])), (q_5, .inr (3, [.int 0, .int 0, .ref q_9_0, .ref q_9_1, .ref q_9_2, .ref q_9_3, .ref q_9_4, .ref q_9_5])), (q_9_0, .inl (k_9_0, (30, .inl (fun _ => 0)))), (q_9_1, .inl (k_9_1, (30, .inl (fun _ => 0)))), (q_9_2, .inl (k_9_2, (30, .inl (fun _ => 0)))), (q_9_3, .inl (k_9_3, (30, .inl (fun _ => 0)))), (q_9_4, .inl (k_9_4, (30, .inl (fun _ => 0)))), (q_9_5, .inl (k_9_5, (300, .inl (fun _ => 0)))), (q_16, .inr (4, [.int 0, .ref q_20_0, .ref q_20_1])), (q_20_0, .inl (k_20_0, (10, .inl (fun _ => 0)))), (q_20_1, .inl (k_20_1, (10, .inr (.inl (fun _ => 0))))), (q_27, .inr (1, [.null, .null]))] H := hP
  have hD : va_D A [(h0, .inr (5, [.ref q_5, .ref q_16, .null, .null, .null, .int 0])), (q_5, .inr (3, [.int 0, .int 0, .ref q_9_0, .ref q_9_1, .ref q_9_2, .ref q_9_3, .ref q_9_4, .ref q_9_5])), (q_9_0, .inl (k_9_0, (30, .inl (fun _ => 0)))), (q_9_1, .inl (k_9_1, (30, .inl (fun _ => 0)))), (q_9_2, .inl (k_9_2, (30, .inl (fun _ => 0)))), (q_9_3, .inl (k_9_3, (30, .inl (fun _ => 0)))), (q_9_4, .inl (k_9_4, (30, .inl (fun _ => 0)))), (q_9_5, .inl (k_9_5, (300, .inl (fun _ => 0)))), (q_16, .inr (4, [.int 0, .ref q_20_0, .ref q_20_1])), (q_20_0, .inl (k_20_0, (10, .inl (fun _ => 0)))), (q_20_1, .inl (k_20_1, (10, .inr (.inl (fun _ => 0))))), (q_27, .inr (1, [.null, .null]))] := hD
  refine W.widen (k := 11) (n := 483) (by omega) (by omega) ?_
  refine lv_dup hx hb dX5_init_30 rfl ?_
  have hPc := hP.sub (ws' := [(q_27, .inr (1, [.null, .null]))]) [11] rfl
  have hDc := hD.sub (ws' := [(q_27, .inr (1, [.null, .null]))]) [11] (by decide) rfl
  have hKc := hK.sub (tys' := []) [] rfl
  have hFc := va_free (wc := [(q_27, .inr (1, [.null, .null]))]) hD hS hA [11] rfl
  refine va_callv (va_runI (As := []) (rest := [.ref q_27, .ref h0]) ⟨hx, hb, hml, hown, hts⟩ (c_X1_init l dC dI q_27 H.size) (cwI 0 hts gX5_init_X1_init rfl rfl rfl f_15 f_16 f_17 rfl (by decide +kernel) ⟨Nat.le_of_ble_eq_true rfl, Nat.le_of_ble_eq_true rfl⟩) ⟨cT_blind, fun U hU hW => ⟨rfl, cT_of hKc hPc hDc hU hW⟩⟩ rfl rfl hl.1 rfl (lv_room (Nat.le_of_ble_eq_true rfl)) dX5_init_31 ⟨Nat.le_of_ble_eq_true rfl, Nat.le_of_ble_eq_true rfl⟩) hS (fun q _ h => hFc q h) hFc (fun u8 t8 H1 locs ht hvm hw hB hz1 hk1 hS => ?_)
  obtain ⟨q_31_0, q_31_1, k_31_0, k_31_1, hP1, hK1, hD1⟩ := hB
  rw [ht] at hP1
  have hK1 := va_K.moved hvm.symm hK1
  obtain ⟨hP, hD⟩ := va_join (wc := [(q_27, .inr (1, [.null, .null]))]) (wr := [(h0, .inr (5, [.ref q_5, .ref q_16, .null, .null, .null, .int 0])), (q_5, .inr (3, [.int 0, .int 0, .ref q_9_0, .ref q_9_1, .ref q_9_2, .ref q_9_3, .ref q_9_4, .ref q_9_5])), (q_9_0, .inl (k_9_0, (30, .inl (fun _ => 0)))), (q_9_1, .inl (k_9_1, (30, .inl (fun _ => 0)))), (q_9_2, .inl (k_9_2, (30, .inl (fun _ => 0)))), (q_9_3, .inl (k_9_3, (30, .inl (fun _ => 0)))), (q_9_4, .inl (k_9_4, (30, .inl (fun _ => 0)))), (q_9_5, .inl (k_9_5, (300, .inl (fun _ => 0)))), (q_16, .inr (4, [.int 0, .ref q_20_0, .ref q_20_1])), (q_20_0, .inl (k_20_0, (10, .inl (fun _ => 0)))), (q_20_1, .inl (k_20_1, (10, .inr (.inl (fun _ => 0)))))]) (w1 := [(q_27, .inr (1, [.ref q_31_0, .ref q_31_1])), (q_31_0, .inl (k_31_0, (305, .inl (fa_fill (fun _ => -1) (fun _ => 0) 305)))), (q_31_1, .inl (k_31_1, (6, .inl (fun _ => 0))))]) hP hD [11] [0, 1, 2, 3, 4, 5, 6, 7, 8, 9, 10] rfl rfl (by decide) (by decide) hk1 hFc hP1 hD1
  have hK := (hK.sub (tys' := [(k_9_0, .int), (k_9_1, .int), (k_9_2, .int), (k_9_3, .int), (k_9_4, .int), (k_9_5, .int), (k_20_0, .int), (k_20_1, .long)]) [0, 1, 2, 3, 4, 5, 6, 7] rfl).app hK1
  generalize H1 = H at hP hS ⊢
  have hP : va_P (dC, dI) vwCl [(h0, .inr (5, [.ref q_5, .ref q_16, .null, .null, .null, .int 0])), (q_5, .inr (3, [.int 0, .int 0, .ref q_9_0, .ref q_9_1, .ref q_9_2, .ref q_9_3, .ref q_9_4, .ref q_9_5])), (q_9_0, .inl (k_9_0, (30, .inl (fun _ => 0)))), (q_9_1, .inl (k_9_1, (30, .inl (fun _ => 0)))), (q_9_2, .inl (k_9_2, (30, .inl (fun _ => 0)))), (q_9_3, .inl (k_9_3, (30, .inl (fun _ => 0)))), (q_9_4, .inl (k_9_4, (30, .inl (fun _ => 0)))), (q_9_5, .inl (k_9_5, (300, .inl (fun _ => 0)))), (q_16, .inr (4, [.int 0, .ref q_20_0, .ref q_20_1])), (q_20_0, .inl (k_20_0, (10, .inl (fun _ => 0)))), (q_20_1, .inl (k_20_1, (10, .inr (.inl (fun _ => 0))))), (q_27, .inr (1, [.ref q_31_0, .ref q_31_1])), (q_31_0, .inl (k_31_0, (305, .inl (fa_fill (fun _ => -1) (fun _ => 0) 305)))), (q_31_1, .inl (k_31_1, (6, .inl (fun _ => 0))))] H := hP
  have hD : va_D A [(h0, .inr (5, [.ref q_5, .ref q_16, .null, .null, .null, .int 0])), (q_5, .inr (3, [.int 0, .int 0, .ref q_9_0, .ref q_9_1, .ref q_9_2, .ref q_9_3, .ref q_9_4, .ref q_9_5])), (q_9_0, .inl (k_9_0, (30, .inl (fun _ => 0)))), (q_9_1, .inl (k_9_1, (30, .inl (fun _ => 0)))), (q_9_2, .inl (k_9_2, (30, .inl (fun _ => 0)))), (q_9_3, .inl (k_9_3, (30, .inl (fun _ => 0)))), (q_9_4, .inl (k_9_4, (30, .inl (fun _ => 0)))), (q_9_5, .inl (k_9_5, (300, .inl (fun _ => 0)))), (q_16, .inr (4, [.int 0, .ref q_20_0, .ref q_20_1])), (q_20_0, .inl (k_20_0, (10, .inl (fun _ => 0)))), (q_20_1, .inl (k_20_1, (10, .inr (.inl (fun _ => 0))))), (q_27, .inr (1, [.ref q_31_0, .ref q_31_1])), (q_31_0, .inl (k_31_0, (305, .inl (fa_fill (fun _ => -1) (fun _ => 0) 305)))), (q_31_1, .inl (k_31_1, (6, .inl (fun _ => 0))))] := hD
  have hK : va_K (dC, dI) vwCl [(k_9_0, .int), (k_9_1, .int), (k_9_2, .int), (k_9_3, .int), (k_9_4, .int), (k_9_5, .int), (k_20_0, .int), (k_20_1, .long), (k_31_0, .int), (k_31_1, .int)] s := hK
  refine W.widen (k := 13) (n := 794) (by omega) (by omega) ?_
  refine va_putF (D := (dC, dI)) (ci := 5) (v := .ref q_27) (ty := .object "CampBook$Duties") (C := RX5) (T := TX5) (N := 6) hx hb hts i_X5 tyX5 tyX5_ok nmX5 hown hK hP hD hS 0 rfl rfl 2 (by decide) f_18 (fun _ h9 => h9) rfl hin rfl (by decide +kernel) rfl rfl (Nat.le_of_ble_eq_true rfl) dX5_init_34 (fun H locs hP hD hS => ?_)
  have hP : va_P (dC, dI) vwCl [(h0, .inr (5, [.ref q_5, .ref q_16, .ref q_27, .null, .null, .int 0])), (q_5, .inr (3, [.int 0, .int 0, .ref q_9_0, .ref q_9_1, .ref q_9_2, .ref q_9_3, .ref q_9_4, .ref q_9_5])), (q_9_0, .inl (k_9_0, (30, .inl (fun _ => 0)))), (q_9_1, .inl (k_9_1, (30, .inl (fun _ => 0)))), (q_9_2, .inl (k_9_2, (30, .inl (fun _ => 0)))), (q_9_3, .inl (k_9_3, (30, .inl (fun _ => 0)))), (q_9_4, .inl (k_9_4, (30, .inl (fun _ => 0)))), (q_9_5, .inl (k_9_5, (300, .inl (fun _ => 0)))), (q_16, .inr (4, [.int 0, .ref q_20_0, .ref q_20_1])), (q_20_0, .inl (k_20_0, (10, .inl (fun _ => 0)))), (q_20_1, .inl (k_20_1, (10, .inr (.inl (fun _ => 0))))), (q_27, .inr (1, [.ref q_31_0, .ref q_31_1])), (q_31_0, .inl (k_31_0, (305, .inl (fa_fill (fun _ => -1) (fun _ => 0) 305)))), (q_31_1, .inl (k_31_1, (6, .inl (fun _ => 0))))] H := hP
  have hD : va_D A [(h0, .inr (5, [.ref q_5, .ref q_16, .ref q_27, .null, .null, .int 0])), (q_5, .inr (3, [.int 0, .int 0, .ref q_9_0, .ref q_9_1, .ref q_9_2, .ref q_9_3, .ref q_9_4, .ref q_9_5])), (q_9_0, .inl (k_9_0, (30, .inl (fun _ => 0)))), (q_9_1, .inl (k_9_1, (30, .inl (fun _ => 0)))), (q_9_2, .inl (k_9_2, (30, .inl (fun _ => 0)))), (q_9_3, .inl (k_9_3, (30, .inl (fun _ => 0)))), (q_9_4, .inl (k_9_4, (30, .inl (fun _ => 0)))), (q_9_5, .inl (k_9_5, (300, .inl (fun _ => 0)))), (q_16, .inr (4, [.int 0, .ref q_20_0, .ref q_20_1])), (q_20_0, .inl (k_20_0, (10, .inl (fun _ => 0)))), (q_20_1, .inl (k_20_1, (10, .inr (.inl (fun _ => 0))))), (q_27, .inr (1, [.ref q_31_0, .ref q_31_1])), (q_31_0, .inl (k_31_0, (305, .inl (fa_fill (fun _ => -1) (fun _ => 0) 305)))), (q_31_1, .inl (k_31_1, (6, .inl (fun _ => 0))))] := hD
  refine lv_aload_n hx hb dX5_init_37 rfl (lv_at hl 0 rfl) ?_
  refine va_new (ci := 2) (fs := [.int 0, .int 0, .int 0, .long 0, .null, .null]) (C := RX2) (T := TX2) (N := 6) hx hb hts i_X2 tyX2 tyX2_ok hown f_19 f_20 f_21 hK hP hD hS hA rfl (fun j hj => by rcases (show j = 0 ∨ j = 1 ∨ j = 2 ∨ j = 3 ∨ j = 4 ∨ j = 5 by omega) with rfl | rfl | rfl | rfl | rfl | rfl <;> rfl) (Nat.le_of_ble_eq_true rfl) (Nat.le_of_ble_eq_true rfl) dX5_init_38 (fun q_38 H hP hD hS => ?_)
  have hP : va_P (dC, dI) vwCl [(h0, .inr (5, [.ref q_5, .ref q_16, .ref q_27, .null, .null, .int 0])), (q_5, .inr (3, [.int 0, .int 0, .ref q_9_0, .ref q_9_1, .ref q_9_2, .ref q_9_3, .ref q_9_4, .ref q_9_5])), (q_9_0, .inl (k_9_0, (30, .inl (fun _ => 0)))), (q_9_1, .inl (k_9_1, (30, .inl (fun _ => 0)))), (q_9_2, .inl (k_9_2, (30, .inl (fun _ => 0)))), (q_9_3, .inl (k_9_3, (30, .inl (fun _ => 0)))), (q_9_4, .inl (k_9_4, (30, .inl (fun _ => 0)))), (q_9_5, .inl (k_9_5, (300, .inl (fun _ => 0)))), (q_16, .inr (4, [.int 0, .ref q_20_0, .ref q_20_1])), (q_20_0, .inl (k_20_0, (10, .inl (fun _ => 0)))), (q_20_1, .inl (k_20_1, (10, .inr (.inl (fun _ => 0))))), (q_27, .inr (1, [.ref q_31_0, .ref q_31_1])), (q_31_0, .inl (k_31_0, (305, .inl (fa_fill (fun _ => -1) (fun _ => 0) 305)))), (q_31_1, .inl (k_31_1, (6, .inl (fun _ => 0)))), (q_38, .inr (2, [.int 0, .int 0, .int 0, .long 0, .null, .null]))] H := hP
  have hD : va_D A [(h0, .inr (5, [.ref q_5, .ref q_16, .ref q_27, .null, .null, .int 0])), (q_5, .inr (3, [.int 0, .int 0, .ref q_9_0, .ref q_9_1, .ref q_9_2, .ref q_9_3, .ref q_9_4, .ref q_9_5])), (q_9_0, .inl (k_9_0, (30, .inl (fun _ => 0)))), (q_9_1, .inl (k_9_1, (30, .inl (fun _ => 0)))), (q_9_2, .inl (k_9_2, (30, .inl (fun _ => 0)))), (q_9_3, .inl (k_9_3, (30, .inl (fun _ => 0)))), (q_9_4, .inl (k_9_4, (30, .inl (fun _ => 0)))), (q_9_5, .inl (k_9_5, (300, .inl (fun _ => 0)))), (q_16, .inr (4, [.int 0, .ref q_20_0, .ref q_20_1])), (q_20_0, .inl (k_20_0, (10, .inl (fun _ => 0)))), (q_20_1, .inl (k_20_1, (10, .inr (.inl (fun _ => 0))))), (q_27, .inr (1, [.ref q_31_0, .ref q_31_1])), (q_31_0, .inl (k_31_0, (305, .inl (fa_fill (fun _ => -1) (fun _ => 0) 305)))), (q_31_1, .inl (k_31_1, (6, .inl (fun _ => 0)))), (q_38, .inr (2, [.int 0, .int 0, .int 0, .long 0, .null, .null]))] := hD
  refine W.widen (k := 14) (n := 800) (by omega) (by omega) ?_
  refine lv_dup hx hb dX5_init_41 rfl ?_
  have hPc := hP.sub (ws' := [(q_38, .inr (2, [.int 0, .int 0, .int 0, .long 0, .null, .null]))]) [14] rfl
  have hDc := hD.sub (ws' := [(q_38, .inr (2, [.int 0, .int 0, .int 0, .long 0, .null, .null]))]) [14] (by decide) rfl
  have hKc := hK.sub (tys' := []) [] rfl
  have hFc := va_free (wc := [(q_38, .inr (2, [.int 0, .int 0, .int 0, .long 0, .null, .null]))]) hD hS hA [14] rfl
  refine va_callv (va_runIN (As := []) (rest := [.ref q_38, .ref h0]) ⟨hx, hb, hml, hown, hts⟩ (c_X2_init l dC dI q_38 H.size) ⟨va_cnB 0 hts gX5_init_X2_init_n32 rfl rfl rfl (hN (.methodLinkNest RX5 32 yX2_init "CampBook") (by decide +kernel)) f_21 (by decide +kernel) ⟨Nat.le_of_ble_eq_true rfl, Nat.le_of_ble_eq_true rfl⟩, rfl, f_22⟩ ⟨cT_blind, fun U hU hW => ⟨rfl, cT_of hKc hPc hDc hU hW⟩⟩ rfl rfl hl.1 rfl (lv_room (Nat.le_of_ble_eq_true rfl)) dX5_init_42 ⟨Nat.le_of_ble_eq_true rfl, Nat.le_of_ble_eq_true rfl⟩) hS (fun q _ h => hFc q h) hFc (fun u8 t8 H1 locs ht hvm hw hB hz1 hk1 hS => ?_)
  obtain ⟨q_42_0, q_42_1, k_42_0, k_42_1, hP1, hK1, hD1⟩ := hB
  rw [ht] at hP1
  have hK1 := va_K.moved hvm.symm hK1
  obtain ⟨hP, hD⟩ := va_join (wc := [(q_38, .inr (2, [.int 0, .int 0, .int 0, .long 0, .null, .null]))]) (wr := [(h0, .inr (5, [.ref q_5, .ref q_16, .ref q_27, .null, .null, .int 0])), (q_5, .inr (3, [.int 0, .int 0, .ref q_9_0, .ref q_9_1, .ref q_9_2, .ref q_9_3, .ref q_9_4, .ref q_9_5])), (q_9_0, .inl (k_9_0, (30, .inl (fun _ => 0)))), (q_9_1, .inl (k_9_1, (30, .inl (fun _ => 0)))), (q_9_2, .inl (k_9_2, (30, .inl (fun _ => 0)))), (q_9_3, .inl (k_9_3, (30, .inl (fun _ => 0)))), (q_9_4, .inl (k_9_4, (30, .inl (fun _ => 0)))), (q_9_5, .inl (k_9_5, (300, .inl (fun _ => 0)))), (q_16, .inr (4, [.int 0, .ref q_20_0, .ref q_20_1])), (q_20_0, .inl (k_20_0, (10, .inl (fun _ => 0)))), (q_20_1, .inl (k_20_1, (10, .inr (.inl (fun _ => 0))))), (q_27, .inr (1, [.ref q_31_0, .ref q_31_1])), (q_31_0, .inl (k_31_0, (305, .inl (fa_fill (fun _ => -1) (fun _ => 0) 305)))), (q_31_1, .inl (k_31_1, (6, .inl (fun _ => 0))))]) (w1 := [(q_38, .inr (2, [.int 0, .int 0, .int 0, .long 0, .ref q_42_0, .ref q_42_1])), (q_42_0, .inl (k_42_0, (12, .inl (fun _ => 0)))), (q_42_1, .inl (k_42_1, (120, .inl (fun _ => 0))))]) hP hD [14] [0, 1, 2, 3, 4, 5, 6, 7, 8, 9, 10, 11, 12, 13] rfl rfl (by decide) (by decide) hk1 hFc hP1 hD1
  have hK := (hK.sub (tys' := [(k_9_0, .int), (k_9_1, .int), (k_9_2, .int), (k_9_3, .int), (k_9_4, .int), (k_9_5, .int), (k_20_0, .int), (k_20_1, .long), (k_31_0, .int), (k_31_1, .int)]) [0, 1, 2, 3, 4, 5, 6, 7, 8, 9] rfl).app hK1
  generalize H1 = H at hP hS ⊢
  have hP : va_P (dC, dI) vwCl [(h0, .inr (5, [.ref q_5, .ref q_16, .ref q_27, .null, .null, .int 0])), (q_5, .inr (3, [.int 0, .int 0, .ref q_9_0, .ref q_9_1, .ref q_9_2, .ref q_9_3, .ref q_9_4, .ref q_9_5])), (q_9_0, .inl (k_9_0, (30, .inl (fun _ => 0)))), (q_9_1, .inl (k_9_1, (30, .inl (fun _ => 0)))), (q_9_2, .inl (k_9_2, (30, .inl (fun _ => 0)))), (q_9_3, .inl (k_9_3, (30, .inl (fun _ => 0)))), (q_9_4, .inl (k_9_4, (30, .inl (fun _ => 0)))), (q_9_5, .inl (k_9_5, (300, .inl (fun _ => 0)))), (q_16, .inr (4, [.int 0, .ref q_20_0, .ref q_20_1])), (q_20_0, .inl (k_20_0, (10, .inl (fun _ => 0)))), (q_20_1, .inl (k_20_1, (10, .inr (.inl (fun _ => 0))))), (q_27, .inr (1, [.ref q_31_0, .ref q_31_1])), (q_31_0, .inl (k_31_0, (305, .inl (fa_fill (fun _ => -1) (fun _ => 0) 305)))), (q_31_1, .inl (k_31_1, (6, .inl (fun _ => 0)))), (q_38, .inr (2, [.int 0, .int 0, .int 0, .long 0, .ref q_42_0, .ref q_42_1])), (q_42_0, .inl (k_42_0, (12, .inl (fun _ => 0)))), (q_42_1, .inl (k_42_1, (120, .inl (fun _ => 0))))] H := hP
  have hD : va_D A [(h0, .inr (5, [.ref q_5, .ref q_16, .ref q_27, .null, .null, .int 0])), (q_5, .inr (3, [.int 0, .int 0, .ref q_9_0, .ref q_9_1, .ref q_9_2, .ref q_9_3, .ref q_9_4, .ref q_9_5])), (q_9_0, .inl (k_9_0, (30, .inl (fun _ => 0)))), (q_9_1, .inl (k_9_1, (30, .inl (fun _ => 0)))), (q_9_2, .inl (k_9_2, (30, .inl (fun _ => 0)))), (q_9_3, .inl (k_9_3, (30, .inl (fun _ => 0)))), (q_9_4, .inl (k_9_4, (30, .inl (fun _ => 0)))), (q_9_5, .inl (k_9_5, (300, .inl (fun _ => 0)))), (q_16, .inr (4, [.int 0, .ref q_20_0, .ref q_20_1])), (q_20_0, .inl (k_20_0, (10, .inl (fun _ => 0)))), (q_20_1, .inl (k_20_1, (10, .inr (.inl (fun _ => 0))))), (q_27, .inr (1, [.ref q_31_0, .ref q_31_1])), (q_31_0, .inl (k_31_0, (305, .inl (fa_fill (fun _ => -1) (fun _ => 0) 305)))), (q_31_1, .inl (k_31_1, (6, .inl (fun _ => 0)))), (q_38, .inr (2, [.int 0, .int 0, .int 0, .long 0, .ref q_42_0, .ref q_42_1])), (q_42_0, .inl (k_42_0, (12, .inl (fun _ => 0)))), (q_42_1, .inl (k_42_1, (120, .inl (fun _ => 0))))] := hD
  have hK : va_K (dC, dI) vwCl [(k_9_0, .int), (k_9_1, .int), (k_9_2, .int), (k_9_3, .int), (k_9_4, .int), (k_9_5, .int), (k_20_0, .int), (k_20_1, .long), (k_31_0, .int), (k_31_1, .int), (k_42_0, .int), (k_42_1, .int)] s := hK
  refine W.widen (k := 16) (n := 932) (by omega) (by omega) ?_
  refine va_putF (D := (dC, dI)) (ci := 5) (v := .ref q_38) (ty := .object "CampBook$Kitchen") (C := RX5) (T := TX5) (N := 6) hx hb hts i_X5 tyX5 tyX5_ok nmX5 hown hK hP hD hS 0 rfl rfl 3 (by decide) f_23 (fun _ h9 => h9) rfl hin rfl (by decide +kernel) rfl rfl (Nat.le_of_ble_eq_true rfl) dX5_init_45 (fun H locs hP hD hS => ?_)
  have hP : va_P (dC, dI) vwCl [(h0, .inr (5, [.ref q_5, .ref q_16, .ref q_27, .ref q_38, .null, .int 0])), (q_5, .inr (3, [.int 0, .int 0, .ref q_9_0, .ref q_9_1, .ref q_9_2, .ref q_9_3, .ref q_9_4, .ref q_9_5])), (q_9_0, .inl (k_9_0, (30, .inl (fun _ => 0)))), (q_9_1, .inl (k_9_1, (30, .inl (fun _ => 0)))), (q_9_2, .inl (k_9_2, (30, .inl (fun _ => 0)))), (q_9_3, .inl (k_9_3, (30, .inl (fun _ => 0)))), (q_9_4, .inl (k_9_4, (30, .inl (fun _ => 0)))), (q_9_5, .inl (k_9_5, (300, .inl (fun _ => 0)))), (q_16, .inr (4, [.int 0, .ref q_20_0, .ref q_20_1])), (q_20_0, .inl (k_20_0, (10, .inl (fun _ => 0)))), (q_20_1, .inl (k_20_1, (10, .inr (.inl (fun _ => 0))))), (q_27, .inr (1, [.ref q_31_0, .ref q_31_1])), (q_31_0, .inl (k_31_0, (305, .inl (fa_fill (fun _ => -1) (fun _ => 0) 305)))), (q_31_1, .inl (k_31_1, (6, .inl (fun _ => 0)))), (q_38, .inr (2, [.int 0, .int 0, .int 0, .long 0, .ref q_42_0, .ref q_42_1])), (q_42_0, .inl (k_42_0, (12, .inl (fun _ => 0)))), (q_42_1, .inl (k_42_1, (120, .inl (fun _ => 0))))] H := hP
  have hD : va_D A [(h0, .inr (5, [.ref q_5, .ref q_16, .ref q_27, .ref q_38, .null, .int 0])), (q_5, .inr (3, [.int 0, .int 0, .ref q_9_0, .ref q_9_1, .ref q_9_2, .ref q_9_3, .ref q_9_4, .ref q_9_5])), (q_9_0, .inl (k_9_0, (30, .inl (fun _ => 0)))), (q_9_1, .inl (k_9_1, (30, .inl (fun _ => 0)))), (q_9_2, .inl (k_9_2, (30, .inl (fun _ => 0)))), (q_9_3, .inl (k_9_3, (30, .inl (fun _ => 0)))), (q_9_4, .inl (k_9_4, (30, .inl (fun _ => 0)))), (q_9_5, .inl (k_9_5, (300, .inl (fun _ => 0)))), (q_16, .inr (4, [.int 0, .ref q_20_0, .ref q_20_1])), (q_20_0, .inl (k_20_0, (10, .inl (fun _ => 0)))), (q_20_1, .inl (k_20_1, (10, .inr (.inl (fun _ => 0))))), (q_27, .inr (1, [.ref q_31_0, .ref q_31_1])), (q_31_0, .inl (k_31_0, (305, .inl (fa_fill (fun _ => -1) (fun _ => 0) 305)))), (q_31_1, .inl (k_31_1, (6, .inl (fun _ => 0)))), (q_38, .inr (2, [.int 0, .int 0, .int 0, .long 0, .ref q_42_0, .ref q_42_1])), (q_42_0, .inl (k_42_0, (12, .inl (fun _ => 0)))), (q_42_1, .inl (k_42_1, (120, .inl (fun _ => 0))))] := hD
  refine lv_aload_n hx hb dX5_init_48 rfl (lv_at hl 0 rfl) ?_
  refine va_new (ci := 0) (fs := [.int 0, .null, .null]) (C := RX0) (T := TX0) (N := 3) hx hb hts i_X0 tyX0 tyX0_ok hown f_24 f_25 f_26 hK hP hD hS hA rfl (fun j hj => by rcases (show j = 0 ∨ j = 1 ∨ j = 2 by omega) with rfl | rfl | rfl <;> rfl) (Nat.le_of_ble_eq_true rfl) (Nat.le_of_ble_eq_true rfl) dX5_init_49 (fun q_49 H hP hD hS => ?_)
  have hP : va_P (dC, dI) vwCl [(h0, .inr (5, [.ref q_5, .ref q_16, .ref q_27, .ref q_38, .null, .int 0])), (q_5, .inr (3, [.int 0, .int 0, .ref q_9_0, .ref q_9_1, .ref q_9_2, .ref q_9_3, .ref q_9_4, .ref q_9_5])), (q_9_0, .inl (k_9_0, (30, .inl (fun _ => 0)))), (q_9_1, .inl (k_9_1, (30, .inl (fun _ => 0)))), (q_9_2, .inl (k_9_2, (30, .inl (fun _ => 0)))), (q_9_3, .inl (k_9_3, (30, .inl (fun _ => 0)))), (q_9_4, .inl (k_9_4, (30, .inl (fun _ => 0)))), (q_9_5, .inl (k_9_5, (300, .inl (fun _ => 0)))), (q_16, .inr (4, [.int 0, .ref q_20_0, .ref q_20_1])), (q_20_0, .inl (k_20_0, (10, .inl (fun _ => 0)))), (q_20_1, .inl (k_20_1, (10, .inr (.inl (fun _ => 0))))), (q_27, .inr (1, [.ref q_31_0, .ref q_31_1])), (q_31_0, .inl (k_31_0, (305, .inl (fa_fill (fun _ => -1) (fun _ => 0) 305)))), (q_31_1, .inl (k_31_1, (6, .inl (fun _ => 0)))), (q_38, .inr (2, [.int 0, .int 0, .int 0, .long 0, .ref q_42_0, .ref q_42_1])), (q_42_0, .inl (k_42_0, (12, .inl (fun _ => 0)))), (q_42_1, .inl (k_42_1, (120, .inl (fun _ => 0)))), (q_49, .inr (0, [.int 0, .null, .null]))] H := hP
  have hD : va_D A [(h0, .inr (5, [.ref q_5, .ref q_16, .ref q_27, .ref q_38, .null, .int 0])), (q_5, .inr (3, [.int 0, .int 0, .ref q_9_0, .ref q_9_1, .ref q_9_2, .ref q_9_3, .ref q_9_4, .ref q_9_5])), (q_9_0, .inl (k_9_0, (30, .inl (fun _ => 0)))), (q_9_1, .inl (k_9_1, (30, .inl (fun _ => 0)))), (q_9_2, .inl (k_9_2, (30, .inl (fun _ => 0)))), (q_9_3, .inl (k_9_3, (30, .inl (fun _ => 0)))), (q_9_4, .inl (k_9_4, (30, .inl (fun _ => 0)))), (q_9_5, .inl (k_9_5, (300, .inl (fun _ => 0)))), (q_16, .inr (4, [.int 0, .ref q_20_0, .ref q_20_1])), (q_20_0, .inl (k_20_0, (10, .inl (fun _ => 0)))), (q_20_1, .inl (k_20_1, (10, .inr (.inl (fun _ => 0))))), (q_27, .inr (1, [.ref q_31_0, .ref q_31_1])), (q_31_0, .inl (k_31_0, (305, .inl (fa_fill (fun _ => -1) (fun _ => 0) 305)))), (q_31_1, .inl (k_31_1, (6, .inl (fun _ => 0)))), (q_38, .inr (2, [.int 0, .int 0, .int 0, .long 0, .ref q_42_0, .ref q_42_1])), (q_42_0, .inl (k_42_0, (12, .inl (fun _ => 0)))), (q_42_1, .inl (k_42_1, (120, .inl (fun _ => 0)))), (q_49, .inr (0, [.int 0, .null, .null]))] := hD
  refine W.widen (k := 17) (n := 935) (by omega) (by omega) ?_
  refine lv_dup hx hb dX5_init_52 rfl ?_
  have hPc := hP.sub (ws' := [(q_49, .inr (0, [.int 0, .null, .null]))]) [17] rfl
  have hDc := hD.sub (ws' := [(q_49, .inr (0, [.int 0, .null, .null]))]) [17] (by decide) rfl
  have hKc := hK.sub (tys' := []) [] rfl
  have hFc := va_free (wc := [(q_49, .inr (0, [.int 0, .null, .null]))]) hD hS hA [17] rfl
  refine va_callv (va_runIN (As := []) (rest := [.ref q_49, .ref h0]) ⟨hx, hb, hml, hown, hts⟩ (c_X0_init l dC dI q_49 H.size) ⟨va_cnB 0 hts gX5_init_X0_init_n39 rfl rfl rfl (hN (.methodLinkNest RX5 39 yX0_init "CampBook") (by decide +kernel)) f_26 (by decide +kernel) ⟨Nat.le_of_ble_eq_true rfl, Nat.le_of_ble_eq_true rfl⟩, rfl, f_27⟩ ⟨cT_blind, fun U hU hW => ⟨rfl, cT_of hKc hPc hDc hU hW⟩⟩ rfl rfl hl.1 rfl (lv_room (Nat.le_of_ble_eq_true rfl)) dX5_init_53 ⟨Nat.le_of_ble_eq_true rfl, Nat.le_of_ble_eq_true rfl⟩) hS (fun q _ h => hFc q h) hFc (fun u8 t8 H1 locs ht hvm hw hB hz1 hk1 hS => ?_)
  obtain ⟨q_53_0, q_53_1, k_53_0, k_53_1, hP1, hK1, hD1⟩ := hB
  rw [ht] at hP1
  have hK1 := va_K.moved hvm.symm hK1
  obtain ⟨hP, hD⟩ := va_join (wc := [(q_49, .inr (0, [.int 0, .null, .null]))]) (wr := [(h0, .inr (5, [.ref q_5, .ref q_16, .ref q_27, .ref q_38, .null, .int 0])), (q_5, .inr (3, [.int 0, .int 0, .ref q_9_0, .ref q_9_1, .ref q_9_2, .ref q_9_3, .ref q_9_4, .ref q_9_5])), (q_9_0, .inl (k_9_0, (30, .inl (fun _ => 0)))), (q_9_1, .inl (k_9_1, (30, .inl (fun _ => 0)))), (q_9_2, .inl (k_9_2, (30, .inl (fun _ => 0)))), (q_9_3, .inl (k_9_3, (30, .inl (fun _ => 0)))), (q_9_4, .inl (k_9_4, (30, .inl (fun _ => 0)))), (q_9_5, .inl (k_9_5, (300, .inl (fun _ => 0)))), (q_16, .inr (4, [.int 0, .ref q_20_0, .ref q_20_1])), (q_20_0, .inl (k_20_0, (10, .inl (fun _ => 0)))), (q_20_1, .inl (k_20_1, (10, .inr (.inl (fun _ => 0))))), (q_27, .inr (1, [.ref q_31_0, .ref q_31_1])), (q_31_0, .inl (k_31_0, (305, .inl (fa_fill (fun _ => -1) (fun _ => 0) 305)))), (q_31_1, .inl (k_31_1, (6, .inl (fun _ => 0)))), (q_38, .inr (2, [.int 0, .int 0, .int 0, .long 0, .ref q_42_0, .ref q_42_1])), (q_42_0, .inl (k_42_0, (12, .inl (fun _ => 0)))), (q_42_1, .inl (k_42_1, (120, .inl (fun _ => 0))))]) (w1 := [(q_49, .inr (0, [.int 0, .ref q_53_0, .ref q_53_1])), (q_53_0, .inl (k_53_0, (8, .inl (fun _ => 0)))), (q_53_1, .inl (k_53_1, (80, .inl (fun _ => 0))))]) hP hD [17] [0, 1, 2, 3, 4, 5, 6, 7, 8, 9, 10, 11, 12, 13, 14, 15, 16] rfl rfl (by decide) (by decide) hk1 hFc hP1 hD1
  have hK := (hK.sub (tys' := [(k_9_0, .int), (k_9_1, .int), (k_9_2, .int), (k_9_3, .int), (k_9_4, .int), (k_9_5, .int), (k_20_0, .int), (k_20_1, .long), (k_31_0, .int), (k_31_1, .int), (k_42_0, .int), (k_42_1, .int)]) [0, 1, 2, 3, 4, 5, 6, 7, 8, 9, 10, 11] rfl).app hK1
  generalize H1 = H at hP hS ⊢
  have hP : va_P (dC, dI) vwCl [(h0, .inr (5, [.ref q_5, .ref q_16, .ref q_27, .ref q_38, .null, .int 0])), (q_5, .inr (3, [.int 0, .int 0, .ref q_9_0, .ref q_9_1, .ref q_9_2, .ref q_9_3, .ref q_9_4, .ref q_9_5])), (q_9_0, .inl (k_9_0, (30, .inl (fun _ => 0)))), (q_9_1, .inl (k_9_1, (30, .inl (fun _ => 0)))), (q_9_2, .inl (k_9_2, (30, .inl (fun _ => 0)))), (q_9_3, .inl (k_9_3, (30, .inl (fun _ => 0)))), (q_9_4, .inl (k_9_4, (30, .inl (fun _ => 0)))), (q_9_5, .inl (k_9_5, (300, .inl (fun _ => 0)))), (q_16, .inr (4, [.int 0, .ref q_20_0, .ref q_20_1])), (q_20_0, .inl (k_20_0, (10, .inl (fun _ => 0)))), (q_20_1, .inl (k_20_1, (10, .inr (.inl (fun _ => 0))))), (q_27, .inr (1, [.ref q_31_0, .ref q_31_1])), (q_31_0, .inl (k_31_0, (305, .inl (fa_fill (fun _ => -1) (fun _ => 0) 305)))), (q_31_1, .inl (k_31_1, (6, .inl (fun _ => 0)))), (q_38, .inr (2, [.int 0, .int 0, .int 0, .long 0, .ref q_42_0, .ref q_42_1])), (q_42_0, .inl (k_42_0, (12, .inl (fun _ => 0)))), (q_42_1, .inl (k_42_1, (120, .inl (fun _ => 0)))), (q_49, .inr (0, [.int 0, .ref q_53_0, .ref q_53_1])), (q_53_0, .inl (k_53_0, (8, .inl (fun _ => 0)))), (q_53_1, .inl (k_53_1, (80, .inl (fun _ => 0))))] H := hP
  have hD : va_D A [(h0, .inr (5, [.ref q_5, .ref q_16, .ref q_27, .ref q_38, .null, .int 0])), (q_5, .inr (3, [.int 0, .int 0, .ref q_9_0, .ref q_9_1, .ref q_9_2, .ref q_9_3, .ref q_9_4, .ref q_9_5])), (q_9_0, .inl (k_9_0, (30, .inl (fun _ => 0)))), (q_9_1, .inl (k_9_1, (30, .inl (fun _ => 0)))), (q_9_2, .inl (k_9_2, (30, .inl (fun _ => 0)))), (q_9_3, .inl (k_9_3, (30, .inl (fun _ => 0)))), (q_9_4, .inl (k_9_4, (30, .inl (fun _ => 0)))), (q_9_5, .inl (k_9_5, (300, .inl (fun _ => 0)))), (q_16, .inr (4, [.int 0, .ref q_20_0, .ref q_20_1])), (q_20_0, .inl (k_20_0, (10, .inl (fun _ => 0)))), (q_20_1, .inl (k_20_1, (10, .inr (.inl (fun _ => 0))))), (q_27, .inr (1, [.ref q_31_0, .ref q_31_1])), (q_31_0, .inl (k_31_0, (305, .inl (fa_fill (fun _ => -1) (fun _ => 0) 305)))), (q_31_1, .inl (k_31_1, (6, .inl (fun _ => 0)))), (q_38, .inr (2, [.int 0, .int 0, .int 0, .long 0, .ref q_42_0, .ref q_42_1])), (q_42_0, .inl (k_42_0, (12, .inl (fun _ => 0)))), (q_42_1, .inl (k_42_1, (120, .inl (fun _ => 0)))), (q_49, .inr (0, [.int 0, .ref q_53_0, .ref q_53_1])), (q_53_0, .inl (k_53_0, (8, .inl (fun _ => 0)))), (q_53_1, .inl (k_53_1, (80, .inl (fun _ => 0))))] := hD
  have hK : va_K (dC, dI) vwCl [(k_9_0, .int), (k_9_1, .int), (k_9_2, .int), (k_9_3, .int), (k_9_4, .int), (k_9_5, .int), (k_20_0, .int), (k_20_1, .long), (k_31_0, .int), (k_31_1, .int), (k_42_0, .int), (k_42_1, .int), (k_53_0, .int), (k_53_1, .int)] s := hK
  refine W.widen (k := 19) (n := 1023) (by omega) (by omega) ?_
  refine va_putF (D := (dC, dI)) (ci := 5) (v := .ref q_49) (ty := .object "CampBook$Badges") (C := RX5) (T := TX5) (N := 6) hx hb hts i_X5 tyX5 tyX5_ok nmX5 hown hK hP hD hS 0 rfl rfl 4 (by decide) f_28 (fun _ h9 => h9) rfl hin rfl (by decide +kernel) rfl rfl (Nat.le_of_ble_eq_true rfl) dX5_init_56 (fun H locs hP hD hS => ?_)
  have hP : va_P (dC, dI) vwCl [(h0, .inr (5, [.ref q_5, .ref q_16, .ref q_27, .ref q_38, .ref q_49, .int 0])), (q_5, .inr (3, [.int 0, .int 0, .ref q_9_0, .ref q_9_1, .ref q_9_2, .ref q_9_3, .ref q_9_4, .ref q_9_5])), (q_9_0, .inl (k_9_0, (30, .inl (fun _ => 0)))), (q_9_1, .inl (k_9_1, (30, .inl (fun _ => 0)))), (q_9_2, .inl (k_9_2, (30, .inl (fun _ => 0)))), (q_9_3, .inl (k_9_3, (30, .inl (fun _ => 0)))), (q_9_4, .inl (k_9_4, (30, .inl (fun _ => 0)))), (q_9_5, .inl (k_9_5, (300, .inl (fun _ => 0)))), (q_16, .inr (4, [.int 0, .ref q_20_0, .ref q_20_1])), (q_20_0, .inl (k_20_0, (10, .inl (fun _ => 0)))), (q_20_1, .inl (k_20_1, (10, .inr (.inl (fun _ => 0))))), (q_27, .inr (1, [.ref q_31_0, .ref q_31_1])), (q_31_0, .inl (k_31_0, (305, .inl (fa_fill (fun _ => -1) (fun _ => 0) 305)))), (q_31_1, .inl (k_31_1, (6, .inl (fun _ => 0)))), (q_38, .inr (2, [.int 0, .int 0, .int 0, .long 0, .ref q_42_0, .ref q_42_1])), (q_42_0, .inl (k_42_0, (12, .inl (fun _ => 0)))), (q_42_1, .inl (k_42_1, (120, .inl (fun _ => 0)))), (q_49, .inr (0, [.int 0, .ref q_53_0, .ref q_53_1])), (q_53_0, .inl (k_53_0, (8, .inl (fun _ => 0)))), (q_53_1, .inl (k_53_1, (80, .inl (fun _ => 0))))] H := hP
  have hD : va_D A [(h0, .inr (5, [.ref q_5, .ref q_16, .ref q_27, .ref q_38, .ref q_49, .int 0])), (q_5, .inr (3, [.int 0, .int 0, .ref q_9_0, .ref q_9_1, .ref q_9_2, .ref q_9_3, .ref q_9_4, .ref q_9_5])), (q_9_0, .inl (k_9_0, (30, .inl (fun _ => 0)))), (q_9_1, .inl (k_9_1, (30, .inl (fun _ => 0)))), (q_9_2, .inl (k_9_2, (30, .inl (fun _ => 0)))), (q_9_3, .inl (k_9_3, (30, .inl (fun _ => 0)))), (q_9_4, .inl (k_9_4, (30, .inl (fun _ => 0)))), (q_9_5, .inl (k_9_5, (300, .inl (fun _ => 0)))), (q_16, .inr (4, [.int 0, .ref q_20_0, .ref q_20_1])), (q_20_0, .inl (k_20_0, (10, .inl (fun _ => 0)))), (q_20_1, .inl (k_20_1, (10, .inr (.inl (fun _ => 0))))), (q_27, .inr (1, [.ref q_31_0, .ref q_31_1])), (q_31_0, .inl (k_31_0, (305, .inl (fa_fill (fun _ => -1) (fun _ => 0) 305)))), (q_31_1, .inl (k_31_1, (6, .inl (fun _ => 0)))), (q_38, .inr (2, [.int 0, .int 0, .int 0, .long 0, .ref q_42_0, .ref q_42_1])), (q_42_0, .inl (k_42_0, (12, .inl (fun _ => 0)))), (q_42_1, .inl (k_42_1, (120, .inl (fun _ => 0)))), (q_49, .inr (0, [.int 0, .ref q_53_0, .ref q_53_1])), (q_53_0, .inl (k_53_0, (8, .inl (fun _ => 0)))), (q_53_1, .inl (k_53_1, (80, .inl (fun _ => 0))))] := hD
  refine lv_aload_n hx hb dX5_init_59 rfl (lv_at hl 0 rfl) ?_
  refine lv_iconst (v := nI 0) hx hb dX5_init_60 (by decide) ?_
  refine va_put (D := (dC, dI)) (ci := 5) (v := .int (nI 0)) (ty := .int) (C := RX5) (T := TX5) (N := 6) hx hb hts i_X5 tyX5 tyX5_ok nmX5 hown hK hP hD hS 0 rfl rfl 5 (by decide) f_29 (fun _ h9 => h9) rfl (by decide +kernel) rfl rfl (Nat.le_of_ble_eq_true rfl) dX5_init_61 (fun H locs hP hD hS => ?_)
  have hP : va_P (dC, dI) vwCl [(h0, .inr (5, [.ref q_5, .ref q_16, .ref q_27, .ref q_38, .ref q_49, .int (nI 0)])), (q_5, .inr (3, [.int 0, .int 0, .ref q_9_0, .ref q_9_1, .ref q_9_2, .ref q_9_3, .ref q_9_4, .ref q_9_5])), (q_9_0, .inl (k_9_0, (30, .inl (fun _ => 0)))), (q_9_1, .inl (k_9_1, (30, .inl (fun _ => 0)))), (q_9_2, .inl (k_9_2, (30, .inl (fun _ => 0)))), (q_9_3, .inl (k_9_3, (30, .inl (fun _ => 0)))), (q_9_4, .inl (k_9_4, (30, .inl (fun _ => 0)))), (q_9_5, .inl (k_9_5, (300, .inl (fun _ => 0)))), (q_16, .inr (4, [.int 0, .ref q_20_0, .ref q_20_1])), (q_20_0, .inl (k_20_0, (10, .inl (fun _ => 0)))), (q_20_1, .inl (k_20_1, (10, .inr (.inl (fun _ => 0))))), (q_27, .inr (1, [.ref q_31_0, .ref q_31_1])), (q_31_0, .inl (k_31_0, (305, .inl (fa_fill (fun _ => -1) (fun _ => 0) 305)))), (q_31_1, .inl (k_31_1, (6, .inl (fun _ => 0)))), (q_38, .inr (2, [.int 0, .int 0, .int 0, .long 0, .ref q_42_0, .ref q_42_1])), (q_42_0, .inl (k_42_0, (12, .inl (fun _ => 0)))), (q_42_1, .inl (k_42_1, (120, .inl (fun _ => 0)))), (q_49, .inr (0, [.int 0, .ref q_53_0, .ref q_53_1])), (q_53_0, .inl (k_53_0, (8, .inl (fun _ => 0)))), (q_53_1, .inl (k_53_1, (80, .inl (fun _ => 0))))] H := hP
  have hD : va_D A [(h0, .inr (5, [.ref q_5, .ref q_16, .ref q_27, .ref q_38, .ref q_49, .int (nI 0)])), (q_5, .inr (3, [.int 0, .int 0, .ref q_9_0, .ref q_9_1, .ref q_9_2, .ref q_9_3, .ref q_9_4, .ref q_9_5])), (q_9_0, .inl (k_9_0, (30, .inl (fun _ => 0)))), (q_9_1, .inl (k_9_1, (30, .inl (fun _ => 0)))), (q_9_2, .inl (k_9_2, (30, .inl (fun _ => 0)))), (q_9_3, .inl (k_9_3, (30, .inl (fun _ => 0)))), (q_9_4, .inl (k_9_4, (30, .inl (fun _ => 0)))), (q_9_5, .inl (k_9_5, (300, .inl (fun _ => 0)))), (q_16, .inr (4, [.int 0, .ref q_20_0, .ref q_20_1])), (q_20_0, .inl (k_20_0, (10, .inl (fun _ => 0)))), (q_20_1, .inl (k_20_1, (10, .inr (.inl (fun _ => 0))))), (q_27, .inr (1, [.ref q_31_0, .ref q_31_1])), (q_31_0, .inl (k_31_0, (305, .inl (fa_fill (fun _ => -1) (fun _ => 0) 305)))), (q_31_1, .inl (k_31_1, (6, .inl (fun _ => 0)))), (q_38, .inr (2, [.int 0, .int 0, .int 0, .long 0, .ref q_42_0, .ref q_42_1])), (q_42_0, .inl (k_42_0, (12, .inl (fun _ => 0)))), (q_42_1, .inl (k_42_1, (120, .inl (fun _ => 0)))), (q_49, .inr (0, [.int 0, .ref q_53_0, .ref q_53_1])), (q_53_0, .inl (k_53_0, (8, .inl (fun _ => 0)))), (q_53_1, .inl (k_53_1, (80, .inl (fun _ => 0))))] := hD
  rw [hQ]
  have hP9 : va_P (dC, dI) vwCl (cb_W (fun j => [h0, q_5, q_16, q_27, q_38, q_49, q_9_0, q_9_1, q_9_2, q_9_3, q_9_4, q_9_5, q_20_0, q_20_1, q_31_0, q_31_1, q_42_0, q_42_1, q_53_0, q_53_1].getD j 0) (fun j => [k_9_0, k_9_1, k_9_2, k_9_3, k_9_4, k_9_5, k_20_0, k_20_1, k_31_0, k_31_1, k_42_0, k_42_1, k_53_0, k_53_1].getD (j - 6) 0) c_S1 (fun _ => 0) (fun _ => 0) 0) H := hP.sub [0, 1, 8, 11, 14, 17, 2, 3, 4, 5, 6, 7, 9, 10, 12, 13, 15, 16, 18, 19] rfl
  have hD9 : va_D A (cb_W (fun j => [h0, q_5, q_16, q_27, q_38, q_49, q_9_0, q_9_1, q_9_2, q_9_3, q_9_4, q_9_5, q_20_0, q_20_1, q_31_0, q_31_1, q_42_0, q_42_1, q_53_0, q_53_1].getD j 0) (fun j => [k_9_0, k_9_1, k_9_2, k_9_3, k_9_4, k_9_5, k_20_0, k_20_1, k_31_0, k_31_1, k_42_0, k_42_1, k_53_0, k_53_1].getD (j - 6) 0) c_S1 (fun _ => 0) (fun _ => 0) 0) := hD.sub [0, 1, 8, 11, 14, 17, 2, 3, 4, 5, 6, 7, 9, 10, 12, 13, 15, 16, 18, 19] (by decide) rfl
  have hK9 : va_K (dC, dI) vwCl (cb_ty (fun j => [k_9_0, k_9_1, k_9_2, k_9_3, k_9_4, k_9_5, k_20_0, k_20_1, k_31_0, k_31_1, k_42_0, k_42_1, k_53_0, k_53_1].getD (j - 6) 0)) s := hK
  rw [← start_w] at hP9 hD9
  exact W.vret hx hb hr (fun t9 ht9 hW9 => ⟨⟨(), rfl, trivial, (fun j => [h0, q_5, q_16, q_27, q_38, q_49, q_9_0, q_9_1, q_9_2, q_9_3, q_9_4, q_9_5, q_20_0, q_20_1, q_31_0, q_31_1, q_42_0, q_42_1, q_53_0, q_53_1].getD j 0), (fun j => [k_9_0, k_9_1, k_9_2, k_9_3, k_9_4, k_9_5, k_20_0, k_20_1, k_31_0, k_31_1, k_42_0, k_42_1, k_53_0, k_53_1].getD (j - 6) 0), rfl, cB_of hP9 hK9 hD9 ht9 hW9⟩, hS.F ht9⟩) hS.2.2 dX5_init_64
abbrev rm_X6_init : Room := { frames := 1, cells := 14, slots := 1045, locals := 12 }
end CBC
