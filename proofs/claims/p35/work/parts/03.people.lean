section CBD

def inP (S : cs_S) (p : Nat) : Nat → Bool := fun s => decide (c_pat S s = nI p)
def oldS (S : cs_S) (x : Int32) : Nat → Bool := fun s => decide (x ≤ c_age S s)
def sklS (S : cs_S) (q : Nat) : Nat → Bool := fun s => !decide (c_skl S s &&& (nI 1 <<< (nI q &&& 31)) = 0)
def allH (S : cs_S) (s : Nat) : Int32 := sm (fun j => c_hrs S (s * 10 + j)) 10
def trn (S : cs_S) (p j : Nat) (h : Int32) : Nat → (Nat → Int32)
  | 0 => c_hrs S
  | k + 1 => if c_pat S k = nI p then upd (trn S p j h k) (k * 10 + j) (trn S p j h k (k * 10 + j) + h) else trn S p j h k
def paceS (S : cs_S) (s : Nat) : Int32 := if c_skl S s &&& nI 1 = 0 then nI 12 + cMax (nI 0) (nI 14 - c_age S s) else (nI 12 + cMax (nI 0) (nI 14 - c_age S s)) - nI 2
def slowS (S : cs_S) (x : Int64) : Nat → Int32
  | 0 => 0
  | k + 1 => if x &&& lN (2 ^ k) = lN 0 then slowS S x k else cMax (slowS S x k) (paceS S k)


def bi1 (x : Int32) : Int32 := x - ((x.toUInt32 >>> ((nI 1).toUInt32 &&& Int32.toUInt32 31)).toInt32 &&& 1431655765)
def bi2 (x : Int32) : Int32 := (x &&& 858993459) + ((x.toUInt32 >>> ((nI 2).toUInt32 &&& Int32.toUInt32 31)).toInt32 &&& 858993459)
def bi3 (x : Int32) : Int32 := (x + (x.toUInt32 >>> ((nI 4).toUInt32 &&& Int32.toUInt32 31)).toInt32) &&& 252645135
def bi4 (x : Int32) : Int32 := x + (x.toUInt32 >>> ((nI 8).toUInt32 &&& Int32.toUInt32 31)).toInt32
def bi5 (x : Int32) : Int32 := x + (x.toUInt32 >>> ((nI 16).toUInt32 &&& Int32.toUInt32 31)).toInt32
theorem bi_ok : ∀ z, z < 256 → bi5 (bi4 (bi3 (bi2 (bi1 (nI z))))) &&& nI 63 = nI (popc z) := by decide +kernel

end CBD
section CBM
abbrev rm_J13_bitCount_95d88 : Room := { frames := 0, cells := 0, slots := 0, locals := 0 }
set_option maxHeartbeats 4000000 in
set_option maxRecDepth 100000 in
theorem c_J13_bitCount_95d88 (l : Launch) (xx : Nat) (hxx : xx < 2 ^ 32) : Met l yJ13_bitCount_95d88 wsJ13_bitCount_95d88 rm_J13_bitCount_95d88 (va_Pc [.long (lN xx)] (fun _ => True)) (vp_Si (fun r => r = nI (popc xx))) 0 0 (fun _ => False) := by
  refine Met.ofW (cc := cJ13_bitCount_95d88) (maxL := 2) (ret := (some .int)) (by decide) rfl ?_
  intro p e s m args below meth c s₁ B hml hv
  obtain ⟨rfl, -⟩ := hv
  have hx := B.exec
  have hb := B.bytes
  have hr := B.returns
  have hts := atoms_spec (ws := wsJ13_bitCount_95d88) B.pre
  have hown : s.vm.findClass RJ13 = some m.cls := findClass_of_methodNamed B.named
  have hlocks := B.notSynchronized
  obtain ⟨Q, hQ⟩ : ∃ Q, Q = MQ below (vp_Si (fun r => r = nI (popc xx))) ([.long (lN xx)] : List Value).toArray s 0 0 (fun _ => False) := ⟨_, rfl⟩
  show W p l e rm_J13_bitCount_95d88 s m _ below meth c s.heap [] 0 0 (MQ below _ _ _ _ _ _) _
  rw [← hQ]
  have f_0 := hts (.constantLong RJ13 314 (6148914691236517205)) (by decide +kernel)
  have f_1 := hts (.constantLong RJ13 316 (3689348814741910323)) (by decide +kernel)
  have f_2 := hts (.constantLong RJ13 318 (1085102592571150095)) (by decide +kernel)
  have hl := lv_entry ([.long (lN xx)]) (n := 2) (Nat.le_of_ble_eq_true rfl)
  rw [lg_entry_eq]
  generalize (lg_sl ([.long (lN xx)]) ++ List.replicate (2 - (lg_sl ([.long (lN xx)])).length) Slot.unset).toArray = ls at hl ⊢
  have hl : lv_has ls 2 [(0, .long (lN xx))] := hl
  have hb1 := q1_b hxx
  have hb2 := q2_b hb1
  have hb3 := q3_b hb2
  have hb4 := q4_b hb3
  have hb5 := q5_b hb4
  refine lv_lload_n hx hb dJ13_bitCount_95d88_0 rfl (lv_at hl 0 rfl) ?_
  refine lv_lload_n hx hb dJ13_bitCount_95d88_1 rfl (lv_at hl 0 rfl) ?_
  refine lv_iconst (v := nI 1) hx hb dJ13_bitCount_95d88_2 (by decide) ?_
  refine lv_lushr hx hb dJ13_bitCount_95d88_3 rfl ?_
  refine cb_topl (z := lN (xx / 2 ^ 1)) (wb_shr (by omega) (by decide)) ?_
  refine lv_ldc2 hx hb hown f_0 dJ13_bitCount_95d88_4 ?_
  refine lv_land hx hb dJ13_bitCount_95d88_7 ?_
  refine cb_topl (z := lN (xx / 2 ^ 1 &&& qM5)) (fb_andL (xx / 2 ^ 1) qM5) ?_
  refine lv_lsub hx hb dJ13_bitCount_95d88_8 ?_
  refine cb_topl (z := lN (q1 qM5 xx)) (lN_sub (q1_s xx)) ?_
  refine lv_lstore_n (lv' := [(0, .long (lN (q1 qM5 xx)))]) hx hb dJ13_bitCount_95d88_9 rfl hl (by decide) rfl (fun ls hl => ?_)
  refine lv_lload_n hx hb dJ13_bitCount_95d88_10 rfl (lv_at hl 0 rfl) ?_
  refine lv_ldc2 hx hb hown f_1 dJ13_bitCount_95d88_11 ?_
  refine lv_land hx hb dJ13_bitCount_95d88_14 ?_
  refine cb_topl (z := lN (q1 qM5 xx &&& qM3)) (fb_andL (q1 qM5 xx) qM3) ?_
  refine lv_lload_n hx hb dJ13_bitCount_95d88_15 rfl (lv_at hl 0 rfl) ?_
  refine lv_iconst (v := nI 2) hx hb dJ13_bitCount_95d88_16 (by decide) ?_
  refine lv_lushr hx hb dJ13_bitCount_95d88_17 rfl ?_
  refine cb_topl (z := lN (q1 qM5 xx / 2 ^ 2)) (wb_shr (by omega) (by decide)) ?_
  refine lv_ldc2 hx hb hown f_1 dJ13_bitCount_95d88_18 ?_
  refine lv_land hx hb dJ13_bitCount_95d88_21 ?_
  refine cb_topl (z := lN (q1 qM5 xx / 2 ^ 2 &&& qM3)) (fb_andL (q1 qM5 xx / 2 ^ 2) qM3) ?_
  refine lv_ladd hx hb dJ13_bitCount_95d88_22 ?_
  refine cb_topl (z := lN (q2 qM3 (q1 qM5 xx))) (lN_add _ _) ?_
  refine lv_lstore_n (lv' := [(0, .long (lN (q2 qM3 (q1 qM5 xx))))]) hx hb dJ13_bitCount_95d88_23 rfl hl (by decide) rfl (fun ls hl => ?_)
  refine lv_lload_n hx hb dJ13_bitCount_95d88_24 rfl (lv_at hl 0 rfl) ?_
  refine lv_lload_n hx hb dJ13_bitCount_95d88_25 rfl (lv_at hl 0 rfl) ?_
  refine lv_iconst (v := nI 4) hx hb dJ13_bitCount_95d88_26 (by decide) ?_
  refine lv_lushr hx hb dJ13_bitCount_95d88_27 rfl ?_
  refine cb_topl (z := lN (q2 qM3 (q1 qM5 xx) / 2 ^ 4)) (wb_shr (by omega) (by decide)) ?_
  refine lv_ladd hx hb dJ13_bitCount_95d88_28 ?_
  refine cb_topl (z := lN (q2 qM3 (q1 qM5 xx) + q2 qM3 (q1 qM5 xx) / 2 ^ 4)) (lN_add _ _) ?_
  refine lv_ldc2 hx hb hown f_2 dJ13_bitCount_95d88_29 ?_
  refine lv_land hx hb dJ13_bitCount_95d88_32 ?_
  refine cb_topl (z := lN (q3 qMF (q2 qM3 (q1 qM5 xx)))) (fb_andL (q2 qM3 (q1 qM5 xx) + q2 qM3 (q1 qM5 xx) / 2 ^ 4) qMF) ?_
  refine lv_lstore_n (lv' := [(0, .long (lN (q3 qMF (q2 qM3 (q1 qM5 xx)))))]) hx hb dJ13_bitCount_95d88_33 rfl hl (by decide) rfl (fun ls hl => ?_)
  refine lv_lload_n hx hb dJ13_bitCount_95d88_34 rfl (lv_at hl 0 rfl) ?_
  refine lv_lload_n hx hb dJ13_bitCount_95d88_35 rfl (lv_at hl 0 rfl) ?_
  refine lv_bipush (v := nI 8) hx hb dJ13_bitCount_95d88_36 (by decide) ?_
  refine lv_lushr hx hb dJ13_bitCount_95d88_38 rfl ?_
  refine cb_topl (z := lN (q3 qMF (q2 qM3 (q1 qM5 xx)) / 2 ^ 8)) (wb_shr (by omega) (by decide)) ?_
  refine lv_ladd hx hb dJ13_bitCount_95d88_39 ?_
  refine cb_topl (z := lN (q4 (q3 qMF (q2 qM3 (q1 qM5 xx))))) (lN_add _ _) ?_
  refine lv_lstore_n (lv' := [(0, .long (lN (q4 (q3 qMF (q2 qM3 (q1 qM5 xx))))))]) hx hb dJ13_bitCount_95d88_40 rfl hl (by decide) rfl (fun ls hl => ?_)
  refine lv_lload_n hx hb dJ13_bitCount_95d88_41 rfl (lv_at hl 0 rfl) ?_
  refine lv_lload_n hx hb dJ13_bitCount_95d88_42 rfl (lv_at hl 0 rfl) ?_
  refine lv_bipush (v := nI 16) hx hb dJ13_bitCount_95d88_43 (by decide) ?_
  refine lv_lushr hx hb dJ13_bitCount_95d88_45 rfl ?_
  refine cb_topl (z := lN (q4 (q3 qMF (q2 qM3 (q1 qM5 xx))) / 2 ^ 16)) (wb_shr (by omega) (by decide)) ?_
  refine lv_ladd hx hb dJ13_bitCount_95d88_46 ?_
  refine cb_topl (z := lN (q5 (q4 (q3 qMF (q2 qM3 (q1 qM5 xx)))))) (lN_add _ _) ?_
  refine lv_lstore_n (lv' := [(0, .long (lN (q5 (q4 (q3 qMF (q2 qM3 (q1 qM5 xx)))))))]) hx hb dJ13_bitCount_95d88_47 rfl hl (by decide) rfl (fun ls hl => ?_)
  refine lv_lload_n hx hb dJ13_bitCount_95d88_48 rfl (lv_at hl 0 rfl) ?_
  refine lv_lload_n hx hb dJ13_bitCount_95d88_49 rfl (lv_at hl 0 rfl) ?_
  refine lv_bipush (v := nI 32) hx hb dJ13_bitCount_95d88_50 (by decide) ?_
  refine lv_lushr hx hb dJ13_bitCount_95d88_52 rfl ?_
  refine cb_topl (z := lN (q5 (q4 (q3 qMF (q2 qM3 (q1 qM5 xx)))) / 2 ^ 32)) (wb_shr (by omega) (by decide)) ?_
  refine lv_ladd hx hb dJ13_bitCount_95d88_53 ?_
  refine cb_topl (z := lN (q6 (q5 (q4 (q3 qMF (q2 qM3 (q1 qM5 xx))))))) (lN_add _ _) ?_
  refine lv_lstore_n (lv' := [(0, .long (lN (q6 (q5 (q4 (q3 qMF (q2 qM3 (q1 qM5 xx))))))))]) hx hb dJ13_bitCount_95d88_54 rfl hl (by decide) rfl (fun ls hl => ?_)
  refine lv_lload_n hx hb dJ13_bitCount_95d88_55 rfl (lv_at hl 0 rfl) ?_
  refine lv_l2i hx hb dJ13_bitCount_95d88_56 rfl ?_
  refine cb_topi (z := nI (q6 (q5 (q4 (q3 qMF (q2 qM3 (q1 qM5 xx))))))) (lN_i _) ?_
  refine lv_bipush (v := nI 127) hx hb dJ13_bitCount_95d88_57 (by decide) ?_
  refine lv_iand hx hb dJ13_bitCount_95d88_59 ?_
  refine cb_topi (z := nI (q6 (q5 (q4 (q3 qMF (q2 qM3 (q1 qM5 xx))))) &&& 127)) (fa_and _ _) ?_
  rw [hQ]
  exact W.iret (v := nI (q6 (q5 (q4 (q3 qMF (q2 qM3 (q1 qM5 xx))))) &&& 127)) hx hb hr (fun t9 ht9 hW9 => ⟨nI (q6 (q5 (q4 (q3 qMF (q2 qM3 (q1 qM5 xx))))) &&& 127), rfl, (congrArg nI (bc_ok hxx)), ht9⟩) (fun q h => absurd h List.not_mem_nil) dJ13_bitCount_95d88_60
abbrev rm_J6_bitCount_0f7a4 : Room := { frames := 0, cells := 0, slots := 0, locals := 0 }
set_option maxHeartbeats 4000000 in
set_option maxRecDepth 100000 in
theorem c_J6_bitCount_0f7a4 (l : Launch) (xx : Nat) (hxx : xx < 256) : Met l yJ6_bitCount_0f7a4 wsJ6_bitCount_0f7a4 rm_J6_bitCount_0f7a4 (va_Pc [.int (nI xx)] (fun _ => True)) (vp_Si (fun r => r = nI (popc xx))) 0 0 (fun _ => False) := by
  refine Met.ofW (cc := cJ6_bitCount_0f7a4) (maxL := 1) (ret := (some .int)) (by decide) rfl ?_
  intro p e s m args below meth c s₁ B hml hv
  obtain ⟨rfl, -⟩ := hv
  have hx := B.exec
  have hb := B.bytes
  have hr := B.returns
  have hts := atoms_spec (ws := wsJ6_bitCount_0f7a4) B.pre
  have hown : s.vm.findClass RJ6 = some m.cls := findClass_of_methodNamed B.named
  have hlocks := B.notSynchronized
  obtain ⟨Q, hQ⟩ : ∃ Q, Q = MQ below (vp_Si (fun r => r = nI (popc xx))) ([.int (nI xx)] : List Value).toArray s 0 0 (fun _ => False) := ⟨_, rfl⟩
  show W p l e rm_J6_bitCount_0f7a4 s m _ below meth c s.heap [] 0 0 (MQ below _ _ _ _ _ _) _
  rw [← hQ]
  have f_0 := hts (.constant RJ6 265 (1431655765)) (by decide +kernel)
  have f_1 := hts (.constant RJ6 266 (858993459)) (by decide +kernel)
  have f_2 := hts (.constant RJ6 267 (252645135)) (by decide +kernel)
  have hl := lv_entry ([.int (nI xx)]) (n := 1) (Nat.le_of_ble_eq_true rfl)
  rw [lg_entry_eq]
  generalize (lg_sl ([.int (nI xx)]) ++ List.replicate (1 - (lg_sl ([.int (nI xx)])).length) Slot.unset).toArray = ls at hl ⊢
  have hl : lv_has ls 1 [(0, .int (nI xx))] := hl
  refine lv_iload_n hx hb dJ6_bitCount_0f7a4_0 rfl (lv_at hl 0 rfl) ?_
  refine lv_iload_n hx hb dJ6_bitCount_0f7a4_1 rfl (lv_at hl 0 rfl) ?_
  refine lv_iconst (v := nI 1) hx hb dJ6_bitCount_0f7a4_2 (by decide) ?_
  refine lv_iushr hx hb dJ6_bitCount_0f7a4_3 rfl ?_
  refine lv_ldcw hx hb hown f_0 dJ6_bitCount_0f7a4_4 ?_
  refine lv_iand hx hb dJ6_bitCount_0f7a4_7 ?_
  refine lv_isub hx hb dJ6_bitCount_0f7a4_8 ?_
  refine cb_topi (z := bi1 (nI xx)) rfl ?_
  refine lv_istore_n (lv' := [(0, .int (bi1 (nI xx)))]) hx hb dJ6_bitCount_0f7a4_9 rfl hl (by decide) rfl (fun ls hl => ?_)
  refine lv_iload_n hx hb dJ6_bitCount_0f7a4_10 rfl (lv_at hl 0 rfl) ?_
  refine lv_ldcw hx hb hown f_1 dJ6_bitCount_0f7a4_11 ?_
  refine lv_iand hx hb dJ6_bitCount_0f7a4_14 ?_
  refine lv_iload_n hx hb dJ6_bitCount_0f7a4_15 rfl (lv_at hl 0 rfl) ?_
  refine lv_iconst (v := nI 2) hx hb dJ6_bitCount_0f7a4_16 (by decide) ?_
  refine lv_iushr hx hb dJ6_bitCount_0f7a4_17 rfl ?_
  refine lv_ldcw hx hb hown f_1 dJ6_bitCount_0f7a4_18 ?_
  refine lv_iand hx hb dJ6_bitCount_0f7a4_21 ?_
  refine lv_iadd hx hb dJ6_bitCount_0f7a4_22 ?_
  refine cb_topi (z := bi2 (bi1 (nI xx))) rfl ?_
  refine lv_istore_n (lv' := [(0, .int (bi2 (bi1 (nI xx))))]) hx hb dJ6_bitCount_0f7a4_23 rfl hl (by decide) rfl (fun ls hl => ?_)
  refine lv_iload_n hx hb dJ6_bitCount_0f7a4_24 rfl (lv_at hl 0 rfl) ?_
  refine lv_iload_n hx hb dJ6_bitCount_0f7a4_25 rfl (lv_at hl 0 rfl) ?_
  refine lv_iconst (v := nI 4) hx hb dJ6_bitCount_0f7a4_26 (by decide) ?_
  refine lv_iushr hx hb dJ6_bitCount_0f7a4_27 rfl ?_
  refine lv_iadd hx hb dJ6_bitCount_0f7a4_28 ?_
  refine lv_ldcw hx hb hown f_2 dJ6_bitCount_0f7a4_29 ?_
  refine lv_iand hx hb dJ6_bitCount_0f7a4_32 ?_
  refine cb_topi (z := bi3 (bi2 (bi1 (nI xx)))) rfl ?_
  refine lv_istore_n (lv' := [(0, .int (bi3 (bi2 (bi1 (nI xx)))))]) hx hb dJ6_bitCount_0f7a4_33 rfl hl (by decide) rfl (fun ls hl => ?_)
  refine lv_iload_n hx hb dJ6_bitCount_0f7a4_34 rfl (lv_at hl 0 rfl) ?_
  refine lv_iload_n hx hb dJ6_bitCount_0f7a4_35 rfl (lv_at hl 0 rfl) ?_
  refine lv_bipush (v := nI 8) hx hb dJ6_bitCount_0f7a4_36 (by decide) ?_
  refine lv_iushr hx hb dJ6_bitCount_0f7a4_38 rfl ?_
  refine lv_iadd hx hb dJ6_bitCount_0f7a4_39 ?_
  refine cb_topi (z := bi4 (bi3 (bi2 (bi1 (nI xx))))) rfl ?_
  refine lv_istore_n (lv' := [(0, .int (bi4 (bi3 (bi2 (bi1 (nI xx))))))]) hx hb dJ6_bitCount_0f7a4_40 rfl hl (by decide) rfl (fun ls hl => ?_)
  refine lv_iload_n hx hb dJ6_bitCount_0f7a4_41 rfl (lv_at hl 0 rfl) ?_
  refine lv_iload_n hx hb dJ6_bitCount_0f7a4_42 rfl (lv_at hl 0 rfl) ?_
  refine lv_bipush (v := nI 16) hx hb dJ6_bitCount_0f7a4_43 (by decide) ?_
  refine lv_iushr hx hb dJ6_bitCount_0f7a4_45 rfl ?_
  refine lv_iadd hx hb dJ6_bitCount_0f7a4_46 ?_
  refine cb_topi (z := bi5 (bi4 (bi3 (bi2 (bi1 (nI xx)))))) rfl ?_
  refine lv_istore_n (lv' := [(0, .int (bi5 (bi4 (bi3 (bi2 (bi1 (nI xx)))))))]) hx hb dJ6_bitCount_0f7a4_47 rfl hl (by decide) rfl (fun ls hl => ?_)
  refine lv_iload_n hx hb dJ6_bitCount_0f7a4_48 rfl (lv_at hl 0 rfl) ?_
  refine lv_bipush (v := nI 63) hx hb dJ6_bitCount_0f7a4_49 (by decide) ?_
  refine lv_iand hx hb dJ6_bitCount_0f7a4_51 ?_
  rw [hQ]
  exact W.iret (v := (bi5 (bi4 (bi3 (bi2 (bi1 (nI xx)))))) &&& (nI 63)) hx hb hr (fun t9 ht9 hW9 => ⟨(bi5 (bi4 (bi3 (bi2 (bi1 (nI xx)))))) &&& (nI 63), rfl, (bi_ok xx hxx), ht9⟩) (fun q h => absurd h List.not_mem_nil) dJ6_bitCount_0f7a4_52
abbrev rm_X3_enrol : Room := { frames := 0, cells := 0, slots := 0, locals := 0 }
set_option maxHeartbeats 4000000 in
set_option maxRecDepth 100000 in
theorem c_X3_enrol (l : Launch) (dC : Nat → ClassId) (dI : Nat → Nat → Nat) (a : Nat → Nat) (k : Nat → ClassId) (S : cs_S) (sz : Nat) (p0 : Int32) (p1 : Int32) (p2 : Int32) (hn : c_ns S < 30) : Met l yX3_enrol wsX3_enrol rm_X3_enrol (va_Pc [.ref (a 1), .int p0, .int p1, .int p2] (cT dC dI sz (cb_w a k S) (cb_ty k))) (va_Qi (fun (r : Int32) (_ : Unit) => r = nI (c_ns S)) (fun _ t => cB dC dI (va_A (cb_w a k S) sz) (cb_W a k (s_ns (s_skl (s_age (s_pat S (upd (c_pat S) (c_ns S) p0)) (upd (c_age S) (c_ns S) p1)) (upd (c_skl S) (c_ns S) p2)) (c_ns S + 1)) (c_sl S) (c_pt S) (c_at S)) (cb_ty k) t) (va_A (cb_w a k S) sz)) 0 0 (va_A (cb_w a k S) sz) := by
  refine Met.ofW (cc := cX3_enrol) (maxL := 5) (ret := (some .int)) (by decide) rfl ?_
  intro p e s m args below meth c s₁ B hml hv
  obtain ⟨rfl, hsz, hP, hK, hD0⟩ := hv
  have hx := B.exec
  have hb := B.bytes
  have hr := B.returns
  have hts := atoms_spec (ws := wsX3_enrol) B.pre
  have hown : s.vm.findClass RX3 = some m.cls := findClass_of_methodNamed B.named
  have hlocks := B.notSynchronized
  subst hsz
  have hD := hD0.self (sz := s.heap.size)
  generalize hAe : va_A (cb_w a k S) s.heap.size = A at hD ⊢
  have hA : ∀ q : Nat, s.heap.size ≤ q → A q := fun q h => by rw [← hAe]; exact Or.inr h
  have hS : va_S A s.heap s.heap [] := va_S.rf
  obtain ⟨Q, hQ⟩ : ∃ Q, Q = MQ below (va_Qi (fun (r : Int32) (_ : Unit) => r = nI (c_ns S)) (fun _ t => cB dC dI A (cb_W a k (s_ns (s_skl (s_age (s_pat S (upd (c_pat S) (c_ns S) p0)) (upd (c_age S) (c_ns S) p1)) (upd (c_skl S) (c_ns S) p2)) (c_ns S + 1)) (c_sl S) (c_pt S) (c_at S)) (cb_ty k) t) A) ([.ref (a 1), .int p0, .int p1, .int p2] : List Value).toArray s 0 0 A := ⟨_, rfl⟩
  show W p l e rm_X3_enrol s m _ below meth c s.heap [] 0 0 (MQ below _ _ _ _ _ _) _
  rw [← hQ]
  have i_X3 : ∀ w ∈ wsX30, w ∈ wsX3_enrol := fun w h => List.mem_cons_of_mem _ (List.mem_append_right _ h)
  have f_0 := hts (.fieldLink RX3 30 "CampBook$People" "scouts" "I") (by decide +kernel)
  have f_1 := hts (.fieldLink RX3 9 "CampBook$People" "patrol" "[I") (by decide +kernel)
  have f_2 := hts (.fieldLink RX3 15 "CampBook$People" "age" "[I") (by decide +kernel)
  have f_3 := hts (.fieldLink RX3 18 "CampBook$People" "skills" "[I") (by decide +kernel)
  have hl := lv_entry ([.ref (a 1), .int p0, .int p1, .int p2]) (n := 5) (Nat.le_of_ble_eq_true rfl)
  rw [lg_entry_eq]
  generalize (lg_sl ([.ref (a 1), .int p0, .int p1, .int p2]) ++ List.replicate (5 - (lg_sl ([.ref (a 1), .int p0, .int p1, .int p2])).length) Slot.unset).toArray = ls at hl ⊢
  have hl : lv_has ls 5 [(0, .ref (a 1)), (1, .int p0), (2, .int p1), (3, .int p2)] := hl
  refine lv_aload_n hx hb dX3_enrol_0 rfl (lv_at hl 0 rfl) ?_
  refine va_get (D := (dC, dI)) (ci := 3) (v := .int (nI (c_ns S))) (C := RX3) (T := TX3) (N := 8) hx hb hts i_X3 hown hK hP 1 rfl rfl 1 (by decide) f_0 (fun _ h9 => h9) rfl dX3_enrol_1 ?_
  refine lv_istore (lv' := [(4, .int (nI (c_ns S))), (0, .ref (a 1)), (1, .int p0), (2, .int p1), (3, .int p2)]) hx hb dX3_enrol_4 hl (by decide) rfl (fun ls hl => ?_)
  refine lv_aload_n hx hb dX3_enrol_6 rfl (lv_at hl 1 rfl) ?_
  refine va_get (D := (dC, dI)) (ci := 3) (v := .ref (a 6)) (C := RX3) (T := TX3) (N := 8) hx hb hts i_X3 hown hK hP 1 rfl rfl 2 (by decide) f_1 (fun _ h9 => h9) rfl dX3_enrol_7 ?_
  refine lv_iload hx hb dX3_enrol_10 (lv_at hl 0 rfl) ?_
  refine lv_iload_n hx hb dX3_enrol_12 rfl (lv_at hl 2 rfl) ?_
  refine cb_iast hx hb hK hP hD hS 6 0 (f := c_pat S) rfl rfl (j := c_ns S) (by omega) (Nat.le_of_ble_eq_true rfl) dX3_enrol_13 (fun H locs hP hD hS => ?_)
  rw [wsC_pat] at hP hD
  have hP : va_P (dC, dI) vwCl (cb_W a k (s_pat S (upd (c_pat S) (c_ns S) p0)) (c_sl S) (c_pt S) (c_at S)) H := hP
  have hD : va_D A (cb_W a k (s_pat S (upd (c_pat S) (c_ns S) p0)) (c_sl S) (c_pt S) (c_at S)) := hD
  refine lv_aload_n hx hb dX3_enrol_14 rfl (lv_at hl 1 rfl) ?_
  refine va_get (D := (dC, dI)) (ci := 3) (v := .ref (a 7)) (C := RX3) (T := TX3) (N := 8) hx hb hts i_X3 hown hK hP 1 rfl rfl 3 (by decide) f_2 (fun _ h9 => h9) rfl dX3_enrol_15 ?_
  refine lv_iload hx hb dX3_enrol_18 (lv_at hl 0 rfl) ?_
  refine lv_iload_n hx hb dX3_enrol_20 rfl (lv_at hl 3 rfl) ?_
  refine cb_iast hx hb hK hP hD hS 7 1 (f := c_age S) rfl rfl (j := c_ns S) (by omega) (Nat.le_of_ble_eq_true rfl) dX3_enrol_21 (fun H locs hP hD hS => ?_)
  rw [wsC_age] at hP hD
  have hP : va_P (dC, dI) vwCl (cb_W a k (s_age (s_pat S (upd (c_pat S) (c_ns S) p0)) (upd (c_age S) (c_ns S) p1)) (c_sl S) (c_pt S) (c_at S)) H := hP
  have hD : va_D A (cb_W a k (s_age (s_pat S (upd (c_pat S) (c_ns S) p0)) (upd (c_age S) (c_ns S) p1)) (c_sl S) (c_pt S) (c_at S)) := hD
  refine lv_aload_n hx hb dX3_enrol_22 rfl (lv_at hl 1 rfl) ?_
  refine va_get (D := (dC, dI)) (ci := 3) (v := .ref (a 8)) (C := RX3) (T := TX3) (N := 8) hx hb hts i_X3 hown hK hP 1 rfl rfl 4 (by decide) f_3 (fun _ h9 => h9) rfl dX3_enrol_23 ?_
  refine lv_iload hx hb dX3_enrol_26 (lv_at hl 0 rfl) ?_
  refine lv_iload_n hx hb dX3_enrol_28 rfl (lv_at hl 4 rfl) ?_
  refine cb_iast hx hb hK hP hD hS 8 2 (f := c_skl S) rfl rfl (j := c_ns S) (by omega) (Nat.le_of_ble_eq_true rfl) dX3_enrol_29 (fun H locs hP hD hS => ?_)
  rw [wsC_skl] at hP hD
  have hP : va_P (dC, dI) vwCl (cb_W a k (s_skl (s_age (s_pat S (upd (c_pat S) (c_ns S) p0)) (upd (c_age S) (c_ns S) p1)) (upd (c_skl S) (c_ns S) p2)) (c_sl S) (c_pt S) (c_at S)) H := hP
  have hD : va_D A (cb_W a k (s_skl (s_age (s_pat S (upd (c_pat S) (c_ns S) p0)) (upd (c_age S) (c_ns S) p1)) (upd (c_skl S) (c_ns S) p2)) (c_sl S) (c_pt S) (c_at S)) := hD
  refine lv_aload_n hx hb dX3_enrol_30 rfl (lv_at hl 1 rfl) ?_
  refine lv_dup hx hb dX3_enrol_31 rfl ?_
  refine va_get (D := (dC, dI)) (ci := 3) (v := .int (nI (c_ns S))) (C := RX3) (T := TX3) (N := 8) hx hb hts i_X3 hown hK hP 1 rfl rfl 1 (by decide) f_0 (fun _ h9 => h9) rfl dX3_enrol_32 ?_
  refine lv_iconst (v := nI 1) hx hb dX3_enrol_35 (by decide) ?_
  refine lv_iadd hx hb dX3_enrol_36 ?_
  refine cb_topi (nI_add _ _) ?_
  refine va_put (D := (dC, dI)) (ci := 3) (v := .int (nI ((c_ns S) + 1))) (ty := .int) (C := RX3) (T := TX3) (N := 8) hx hb hts i_X3 tyX3 tyX3_ok nmX3 hown hK hP hD hS 1 rfl rfl 1 (by decide) f_0 (fun _ h9 => h9) rfl (by decide +kernel) rfl rfl (Nat.le_of_ble_eq_true rfl) dX3_enrol_37 (fun H locs hP hD hS => ?_)
  rw [wsC_ns] at hP hD
  have hP : va_P (dC, dI) vwCl (cb_W a k (s_ns (s_skl (s_age (s_pat S (upd (c_pat S) (c_ns S) p0)) (upd (c_age S) (c_ns S) p1)) (upd (c_skl S) (c_ns S) p2)) ((c_ns S) + 1)) (c_sl S) (c_pt S) (c_at S)) H := hP
  have hD : va_D A (cb_W a k (s_ns (s_skl (s_age (s_pat S (upd (c_pat S) (c_ns S) p0)) (upd (c_age S) (c_ns S) p1)) (upd (c_skl S) (c_ns S) p2)) ((c_ns S) + 1)) (c_sl S) (c_pt S) (c_at S)) := hD
  refine lv_iload hx hb dX3_enrol_40 (lv_at hl 0 rfl) ?_
  have ew : (cb_W a k (s_ns (s_skl (s_age (s_pat S (upd (c_pat S) (c_ns S) p0)) (upd (c_age S) (c_ns S) p1)) (upd (c_skl S) (c_ns S) p2)) ((c_ns S) + 1)) (c_sl S) (c_pt S) (c_at S)) = (cb_W a k (s_ns (s_skl (s_age (s_pat S (upd (c_pat S) (c_ns S) p0)) (upd (c_age S) (c_ns S) p1)) (upd (c_skl S) (c_ns S) p2)) (c_ns S + 1)) (c_sl S) (c_pt S) (c_at S)) := rfl
  have hP : va_P (dC, dI) vwCl (cb_W a k (s_ns (s_skl (s_age (s_pat S (upd (c_pat S) (c_ns S) p0)) (upd (c_age S) (c_ns S) p1)) (upd (c_skl S) (c_ns S) p2)) (c_ns S + 1)) (c_sl S) (c_pt S) (c_at S)) H := by rw [← ew]; exact hP
  have hD : va_D A (cb_W a k (s_ns (s_skl (s_age (s_pat S (upd (c_pat S) (c_ns S) p0)) (upd (c_age S) (c_ns S) p1)) (upd (c_skl S) (c_ns S) p2)) (c_ns S + 1)) (c_sl S) (c_pt S) (c_at S)) := by rw [← ew]; exact hD
  rw [hQ]
  refine W.widen (k := 0) (n := 0) (by omega) (by omega) ?_
  exact W.iret (v := nI (c_ns S)) hx hb hr (fun t9 ht9 hW9 => ⟨⟨nI (c_ns S), (), rfl, rfl, cB_of hP hK hD ht9 hW9⟩, hS.F ht9⟩) hS.2.2 dX3_enrol_42
abbrev rm_X3_hoursIn : Room := { frames := 0, cells := 0, slots := 0, locals := 0 }
set_option maxHeartbeats 4000000 in
set_option maxRecDepth 100000 in
theorem c_X3_hoursIn (l : Launch) (dC : Nat → ClassId) (dI : Nat → Nat → Nat) (a : Nat → Nat) (k : Nat → ClassId) (S : cs_S) (u : Nat) (jj : Nat) (hs : u < 30) (hj : jj < 10) : Met l yX3_hoursIn wsX3_hoursIn rm_X3_hoursIn (va_Pc [.ref (a 1), .int (nI u), .int (nI jj)] (cR dC dI (cb_w a k S) (cb_ty k))) (vp_Si (fun r => r = c_hrs S (u * 10 + jj))) 0 0 (fun _ => False) := by
  refine Met.ofW (cc := cX3_hoursIn) (maxL := 3) (ret := (some .int)) (by decide) rfl ?_
  intro p e s m args below meth c s₁ B hml hv
  obtain ⟨rfl, hP, hK⟩ := hv
  have hx := B.exec
  have hb := B.bytes
  have hr := B.returns
  have hts := atoms_spec (ws := wsX3_hoursIn) B.pre
  have hown : s.vm.findClass RX3 = some m.cls := findClass_of_methodNamed B.named
  have hlocks := B.notSynchronized
  obtain ⟨Q, hQ⟩ : ∃ Q, Q = MQ below (vp_Si (fun r => r = c_hrs S (u * 10 + jj))) ([.ref (a 1), .int (nI u), .int (nI jj)] : List Value).toArray s 0 0 (fun _ => False) := ⟨_, rfl⟩
  show W p l e rm_X3_hoursIn s m _ below meth c s.heap [] 0 0 (MQ below _ _ _ _ _ _) _
  rw [← hQ]
  have i_X3 : ∀ w ∈ wsX30, w ∈ wsX3_hoursIn := fun w h => List.mem_cons_of_mem _ (List.mem_append_right _ h)
  have f_0 := hts (.fieldLink RX3 27 "CampBook$People" "hours" "[I") (by decide +kernel)
  have hl := lv_entry ([.ref (a 1), .int (nI u), .int (nI jj)]) (n := 3) (Nat.le_of_ble_eq_true rfl)
  rw [lg_entry_eq]
  generalize (lg_sl ([.ref (a 1), .int (nI u), .int (nI jj)]) ++ List.replicate (3 - (lg_sl ([.ref (a 1), .int (nI u), .int (nI jj)])).length) Slot.unset).toArray = ls at hl ⊢
  have hl : lv_has ls 3 [(0, .ref (a 1)), (1, .int (nI u)), (2, .int (nI jj))] := hl
  refine lv_aload_n hx hb dX3_hoursIn_0 rfl (lv_at hl 0 rfl) ?_
  refine va_get (D := (dC, dI)) (ci := 3) (v := .ref (a 11)) (C := RX3) (T := TX3) (N := 8) hx hb hts i_X3 hown hK hP 1 rfl rfl 7 (by decide) f_0 (fun _ h9 => h9) rfl dX3_hoursIn_1 ?_
  refine lv_iload_n hx hb dX3_hoursIn_4 rfl (lv_at hl 1 rfl) ?_
  refine lv_bipush (v := nI 10) hx hb dX3_hoursIn_5 (by decide) ?_
  refine lv_imul hx hb dX3_hoursIn_7 ?_
  refine cb_topi (pk_mul _ _) ?_
  refine lv_iload_n hx hb dX3_hoursIn_8 rfl (lv_at hl 2 rfl) ?_
  refine lv_iadd hx hb dX3_hoursIn_9 ?_
  refine cb_topi (nI_add _ _) ?_
  refine cb_iald hx hb hK hP 11 5 (f := c_hrs S) rfl rfl (j := (u * 10) + jj) (by omega) (Nat.le_of_ble_eq_true rfl) dX3_hoursIn_10 ?_
  rw [hQ]
  exact W.iret (v := c_hrs S ((u * 10) + jj)) hx hb hr (fun t9 ht9 hW9 => ⟨c_hrs S ((u * 10) + jj), rfl, rfl, ht9⟩) (fun q h => absurd h List.not_mem_nil) dX3_hoursIn_11
abbrev rm_X3_allHours : Room := { frames := 1, cells := 0, slots := 0, locals := 22 }
set_option maxHeartbeats 4000000 in
set_option maxRecDepth 100000 in
theorem c_X3_allHours (l : Launch) (dC : Nat → ClassId) (dI : Nat → Nat → Nat) (a : Nat → Nat) (k : Nat → ClassId) (S : cs_S) (u : Nat) (hs : u < 30) : Met l yX3_allHours wsX3_allHours rm_X3_allHours (va_Pc [.ref (a 1), .int (nI u)] (cR dC dI (cb_w a k S) (cb_ty k))) (vp_Si (fun r => r = allH S u)) 0 0 (fun _ => False) := by
  refine Met.ofW (cc := cX3_allHours) (maxL := 4) (ret := (some .int)) (by decide) rfl ?_
  intro p e s m args below meth c s₁ B hml hv
  obtain ⟨rfl, hP, hK⟩ := hv
  have hx := B.exec
  have hb := B.bytes
  have hr := B.returns
  have hts := atoms_spec (ws := wsX3_allHours) B.pre
  have hown : s.vm.findClass RX3 = some m.cls := findClass_of_methodNamed B.named
  have hlocks := B.notSynchronized
  obtain ⟨Q, hQ⟩ : ∃ Q, Q = MQ below (vp_Si (fun r => r = allH S u)) ([.ref (a 1), .int (nI u)] : List Value).toArray s 0 0 (fun _ => False) := ⟨_, rfl⟩
  show W p l e rm_X3_allHours s m _ below meth c s.heap [] 0 0 (MQ below _ _ _ _ _ _) _
  rw [← hQ]
  have hl := lv_entry ([.ref (a 1), .int (nI u)]) (n := 4) (Nat.le_of_ble_eq_true rfl)
  rw [lg_entry_eq]
  generalize (lg_sl ([.ref (a 1), .int (nI u)]) ++ List.replicate (4 - (lg_sl ([.ref (a 1), .int (nI u)])).length) Slot.unset).toArray = ls at hl ⊢
  have hl : lv_has ls 4 [(0, .ref (a 1)), (1, .int (nI u))] := hl
  refine lv_iconst (v := nI 0) hx hb dX3_allHours_0 (by decide) ?_
  refine lv_istore_n (lv' := [(2, .int (nI 0)), (0, .ref (a 1)), (1, .int (nI u))]) hx hb dX3_allHours_1 rfl hl (by decide) rfl (fun ls hl => ?_)
  refine lv_iconst (v := nI 0) hx hb dX3_allHours_2 (by decide) ?_
  refine lv_istore_n (lv' := [(3, .int (nI 0)), (2, .int (nI 0)), (0, .ref (a 1)), (1, .int (nI u))]) hx hb dX3_allHours_3 rfl hl (by decide) rfl (fun ls hl => ?_)
  have L_4 : ∀ (n i : Nat), i ≤ 10 → 10 + 1 ≤ i + n → ∀ (ls : Array Slot), lv_has ls 4 [(0, .ref (a 1)), (1, .int (nI u)), (2, .int (sm (fun j => c_hrs S (u * 10 + j)) i)), (3, .int (nI i))] → W p l e rm_X3_allHours s m ([.ref (a 1), .int (nI u)] : List Value).toArray below meth c s.heap [] 0 0 Q (F0 m 4 ls []) := by
    intro n
    induction n with
    | zero => intro i h1 h2; exact absurd h2 (by omega)
    | succ n ih_4 =>
      intro i hle_4 hfu_4 ls hl
      refine lv_iload_n hx hb dX3_allHours_4 rfl (lv_at hl 3 rfl) ?_
      refine lv_bipush (v := nI 10) hx hb dX3_allHours_5 (by decide) ?_
      refine lv_icmp_ge (tgt := 25) hx hb dX3_allHours_7 (by decide) (fun c_7 => ?_) (fun c_7 => ?_)
      · have c_7 : 10 ≤ i := cb_ge (by omega) (by omega) c_7
        refine lv_iload_n hx hb dX3_allHours_25 rfl (lv_at hl 2 rfl) ?_
        rw [hQ]
        exact W.iret (v := sm (fun j => c_hrs S (u * 10 + j)) i) hx hb hr (fun t9 ht9 hW9 => ⟨sm (fun j => c_hrs S (u * 10 + j)) i, rfl, (by rw [show i = 10 by omega]; rfl), ht9⟩) (fun q h => absurd h List.not_mem_nil) dX3_allHours_26
      · have c_7 : i < 10 := cb_nge (by omega) (by omega) c_7
        refine lv_iload_n hx hb dX3_allHours_10 rfl (lv_at hl 2 rfl) ?_
        refine lv_aload_n hx hb dX3_allHours_11 rfl (lv_at hl 0 rfl) ?_
        refine lv_iload_n hx hb dX3_allHours_12 rfl (lv_at hl 1 rfl) ?_
        refine lv_iload_n hx hb dX3_allHours_13 rfl (lv_at hl 3 rfl) ?_
        refine vp_callSi (W.runV (As := [.int (nI u), .int (nI i)]) (rest := [.int (sm (fun j => c_hrs S (u * 10 + j)) i)]) ⟨hx, hb, hml, hown, hts⟩ (c_X3_hoursIn l dC dI a k S u i (by omega) (by omega)) (cwV 2 hts gX3_allHours_X3_hoursIn rfl rfl rfl (by decide +kernel) ⟨(Nat.le_of_ble_eq_true rfl), (Nat.le_of_ble_eq_true rfl)⟩) ⟨cR_blind, va_recv hK hP (ci := 3) (q0 := 1) rfl rfl, fun U hU hW => ⟨rfl, cR_of hK hP hU hW⟩⟩ rfl rfl hl.1 rfl (lv_room (Nat.le_of_ble_eq_true rfl)) dX3_allHours_14 ⟨(Nat.le_of_ble_eq_true rfl), (Nat.le_of_ble_eq_true rfl)⟩) (fun r er => ?_)
        subst er
        refine lv_iadd hx hb dX3_allHours_17 ?_
        refine lv_istore_n (lv' := [(2, .int ((sm (fun j => c_hrs S (u * 10 + j)) i) + (c_hrs S (u * 10 + i)))), (0, .ref (a 1)), (1, .int (nI u)), (3, .int (nI i))]) hx hb dX3_allHours_18 rfl hl (by decide) rfl (fun ls hl => ?_)
        refine lv_iinc (v := nI (i + 1)) (lv' := [(3, .int (nI (i + 1))), (2, .int ((sm (fun j => c_hrs S (u * 10 + j)) i) + (c_hrs S (u * 10 + i)))), (0, .ref (a 1)), (1, .int (nI u))]) hx hb dX3_allHours_19 hl (k := 3) rfl (nI_1 _) (by decide) rfl (fun ls hl => ?_)
        refine lv_goto (tgt := 4) hx hb dX3_allHours_22 (by decide) ?_
        have hl : lv_has ls 4 [(3, .int (nI (i + 1))), (2, .int (sm (fun j => c_hrs S (u * 10 + j)) (i + 1))), (0, .ref (a 1)), (1, .int (nI u))] := cb_loc hl (e := Value.int (sm (fun j => c_hrs S (u * 10 + j)) (i + 1))) 1 rfl (congrArg Value.int (show (sm (fun j => c_hrs S (u * 10 + j)) i) + (c_hrs S (u * 10 + i)) = sm (fun j => c_hrs S (u * 10 + j)) (i + 1) from rfl))
        exact ih_4 (i + 1) (by omega) (by omega) ls (lv_sub hl [2, 3, 1, 0] rfl)
  have hl : lv_has ls 4 [(3, .int (nI 0)), (2, .int (sm (fun j => c_hrs S (u * 10 + j)) 0)), (0, .ref (a 1)), (1, .int (nI u))] := cb_loc hl (e := Value.int (sm (fun j => c_hrs S (u * 10 + j)) 0)) 1 rfl (congrArg Value.int (show nI 0 = sm (fun j => c_hrs S (u * 10 + j)) 0 from rfl))
  exact L_4 (10 + 1) 0 (by omega) (by omega) ls (lv_sub hl [2, 3, 1, 0] rfl)
abbrev rm_X3_train : Room := { frames := 0, cells := 0, slots := 0, locals := 0 }
set_option maxHeartbeats 4000000 in
set_option maxRecDepth 100000 in
theorem c_X3_train (l : Launch) (dC : Nat → ClassId) (dI : Nat → Nat → Nat) (a : Nat → Nat) (k : Nat → ClassId) (S : cs_S) (sz : Nat) (pp : Nat) (jj : Nat) (hh : Int32) (hns : c_ns S ≤ 30) (hp : pp < 6) (hj : jj < 10) : Met l yX3_train wsX3_train rm_X3_train (va_Pc [.ref (a 1), .int (nI pp), .int (nI jj), .int hh] (cT dC dI sz (cb_w a k S) (cb_ty k))) (va_Qi (fun (r : Int32) (_ : Unit) => r = nI (fb_ct (inP S pp) (c_ns S))) (fun _ t => cB dC dI (va_A (cb_w a k S) sz) (cb_w a k (s_hrs S (trn S pp jj hh (c_ns S)))) (cb_ty k) t) (va_A (cb_w a k S) sz)) 0 0 (va_A (cb_w a k S) sz) := by
  refine Met.ofW (cc := cX3_train) (maxL := 6) (ret := (some .int)) (by decide) rfl ?_
  intro p e s m args below meth c s₁ B hml hv
  obtain ⟨rfl, hsz, hP, hK, hD0⟩ := hv
  have hx := B.exec
  have hb := B.bytes
  have hr := B.returns
  have hts := atoms_spec (ws := wsX3_train) B.pre
  have hown : s.vm.findClass RX3 = some m.cls := findClass_of_methodNamed B.named
  have hlocks := B.notSynchronized
  subst hsz
  have hD := hD0.self (sz := s.heap.size)
  generalize hAe : va_A (cb_w a k S) s.heap.size = A at hD ⊢
  have hA : ∀ q : Nat, s.heap.size ≤ q → A q := fun q h => by rw [← hAe]; exact Or.inr h
  have hS : va_S A s.heap s.heap [] := va_S.rf
  obtain ⟨Q, hQ⟩ : ∃ Q, Q = MQ below (va_Qi (fun (r : Int32) (_ : Unit) => r = nI (fb_ct (inP S pp) (c_ns S))) (fun _ t => cB dC dI A (cb_w a k (s_hrs S (trn S pp jj hh (c_ns S)))) (cb_ty k) t) A) ([.ref (a 1), .int (nI pp), .int (nI jj), .int hh] : List Value).toArray s 0 0 A := ⟨_, rfl⟩
  show W p l e rm_X3_train s m _ below meth c s.heap [] 0 0 (MQ below _ _ _ _ _ _) _
  rw [← hQ]
  have i_X3 : ∀ w ∈ wsX30, w ∈ wsX3_train := fun w h => List.mem_cons_of_mem _ (List.mem_append_right _ h)
  have f_0 := hts (.fieldLink RX3 30 "CampBook$People" "scouts" "I") (by decide +kernel)
  have f_1 := hts (.fieldLink RX3 9 "CampBook$People" "patrol" "[I") (by decide +kernel)
  have f_2 := hts (.fieldLink RX3 27 "CampBook$People" "hours" "[I") (by decide +kernel)
  have hl := lv_entry ([.ref (a 1), .int (nI pp), .int (nI jj), .int hh]) (n := 6) (Nat.le_of_ble_eq_true rfl)
  rw [lg_entry_eq]
  generalize (lg_sl ([.ref (a 1), .int (nI pp), .int (nI jj), .int hh]) ++ List.replicate (6 - (lg_sl ([.ref (a 1), .int (nI pp), .int (nI jj), .int hh])).length) Slot.unset).toArray = ls at hl ⊢
  have hl : lv_has ls 6 [(0, .ref (a 1)), (1, .int (nI pp)), (2, .int (nI jj)), (3, .int hh)] := hl
  refine lv_iconst (v := nI 0) hx hb dX3_train_0 (by decide) ?_
  refine lv_istore (lv' := [(4, .int (nI 0)), (0, .ref (a 1)), (1, .int (nI pp)), (2, .int (nI jj)), (3, .int hh)]) hx hb dX3_train_1 hl (by decide) rfl (fun ls hl => ?_)
  refine lv_iconst (v := nI 0) hx hb dX3_train_3 (by decide) ?_
  refine lv_istore (lv' := [(5, .int (nI 0)), (4, .int (nI 0)), (0, .ref (a 1)), (1, .int (nI pp)), (2, .int (nI jj)), (3, .int hh)]) hx hb dX3_train_4 hl (by decide) rfl (fun ls hl => ?_)
  have L_6 : ∀ (n i : Nat), i ≤ c_ns S → c_ns S + 1 ≤ i + n → ∀ (H : Heap) (locs : List Loc), va_P (dC, dI) vwCl (cb_W a k (s_hrs S (trn S pp jj hh i)) (c_sl S) (c_pt S) (c_at S)) H → va_D A (cb_W a k (s_hrs S (trn S pp jj hh i)) (c_sl S) (c_pt S) (c_at S)) → va_S A s.heap H locs → ∀ (ls : Array Slot), lv_has ls 6 [(0, .ref (a 1)), (1, .int (nI pp)), (2, .int (nI jj)), (3, .int hh), (4, .int (nI (fb_ct (inP S pp) i))), (5, .int (nI i))] → W p l e rm_X3_train s m ([.ref (a 1), .int (nI pp), .int (nI jj), .int hh] : List Value).toArray below meth c H locs 0 0 Q (F0 m 6 ls []) := by
    intro n
    induction n with
    | zero => intro i h1 h2; exact absurd h2 (by omega)
    | succ n ih_6 =>
      intro i hle_6 hfu_6 H locs hP hD hS ls hl
      refine lv_iload hx hb dX3_train_6 (lv_at hl 5 rfl) ?_
      refine lv_aload_n hx hb dX3_train_8 rfl (lv_at hl 0 rfl) ?_
      refine va_get (D := (dC, dI)) (ci := 3) (v := .int (nI (c_ns S))) (C := RX3) (T := TX3) (N := 8) hx hb hts i_X3 hown hK hP 1 rfl rfl 1 (by decide) f_0 (fun _ h9 => h9) rfl dX3_train_9 ?_
      refine lv_icmp_ge (tgt := 51) hx hb dX3_train_12 (by decide) (fun c_12 => ?_) (fun c_12 => ?_)
      · have c_12 : (c_ns S) ≤ i := cb_ge (by omega) (by omega) c_12
        refine lv_iload hx hb dX3_train_51 (lv_at hl 4 rfl) ?_
        have ew : (cb_W a k (s_hrs S (trn S pp jj hh i)) (c_sl S) (c_pt S) (c_at S)) = (cb_w a k (s_hrs S (trn S pp jj hh (c_ns S)))) := (by rw [show i = c_ns S by omega]; rfl)
        have hP : va_P (dC, dI) vwCl (cb_w a k (s_hrs S (trn S pp jj hh (c_ns S)))) H := by rw [← ew]; exact hP
        have hD : va_D A (cb_w a k (s_hrs S (trn S pp jj hh (c_ns S)))) := by rw [← ew]; exact hD
        rw [hQ]
        refine W.widen (k := 0) (n := 0) (by omega) (by omega) ?_
        exact W.iret (v := nI (fb_ct (inP S pp) i)) hx hb hr (fun t9 ht9 hW9 => ⟨⟨nI (fb_ct (inP S pp) i), (), rfl, (by rw [show i = c_ns S by omega]), cB_of hP hK hD ht9 hW9⟩, hS.F ht9⟩) hS.2.2 dX3_train_53
      · have c_12 : i < (c_ns S) := cb_nge (by omega) (by omega) c_12
        refine lv_aload_n hx hb dX3_train_15 rfl (lv_at hl 0 rfl) ?_
        refine va_get (D := (dC, dI)) (ci := 3) (v := .ref (a 6)) (C := RX3) (T := TX3) (N := 8) hx hb hts i_X3 hown hK hP 1 rfl rfl 2 (by decide) f_1 (fun _ h9 => h9) rfl dX3_train_16 ?_
        refine lv_iload hx hb dX3_train_19 (lv_at hl 5 rfl) ?_
        refine cb_iald hx hb hK hP 6 0 (f := c_pat S) rfl rfl (j := i) (by omega) (Nat.le_of_ble_eq_true rfl) dX3_train_21 ?_
        refine lv_iload_n hx hb dX3_train_22 rfl (lv_at hl 1 rfl) ?_
        refine lv_icmp_ne (tgt := 45) hx hb dX3_train_23 (by decide) (fun c_23 => ?_) (fun c_23 => ?_)
        · skip
          refine lv_iinc (v := nI (i + 1)) (lv' := [(5, .int (nI (i + 1))), (0, .ref (a 1)), (1, .int (nI pp)), (2, .int (nI jj)), (3, .int hh), (4, .int (nI (fb_ct (inP S pp) i)))]) hx hb dX3_train_45 hl (k := 5) rfl (nI_1 _) (by decide) rfl (fun ls hl => ?_)
          refine lv_goto (tgt := 6) hx hb dX3_train_48 (by decide) ?_
          have hl : lv_has ls 6 [(5, .int (nI (i + 1))), (0, .ref (a 1)), (1, .int (nI pp)), (2, .int (nI jj)), (3, .int hh), (4, .int (nI (fb_ct (inP S pp) (i + 1))))] := cb_loc hl (e := Value.int (nI (fb_ct (inP S pp) (i + 1)))) 5 rfl (congrArg Value.int (show nI (fb_ct (inP S pp) i) = nI (fb_ct (inP S pp) (i + 1)) from (by simp [fb_ct_succ, inP, c_12, c_23])))
          have ew : (cb_W a k (s_hrs S (trn S pp jj hh i)) (c_sl S) (c_pt S) (c_at S)) = (cb_W a k (s_hrs S (trn S pp jj hh (i + 1))) (c_sl S) (c_pt S) (c_at S)) := (by rw [show trn S pp jj hh (i + 1) = _ from by first | exact if_pos c_23 | exact if_neg c_23])
          have hP : va_P (dC, dI) vwCl (cb_W a k (s_hrs S (trn S pp jj hh (i + 1))) (c_sl S) (c_pt S) (c_at S)) H := by rw [← ew]; exact hP
          have hD : va_D A (cb_W a k (s_hrs S (trn S pp jj hh (i + 1))) (c_sl S) (c_pt S) (c_at S)) := by rw [← ew]; exact hD
          exact ih_6 (i + 1) (by omega) (by omega) H locs hP hD hS ls (lv_sub hl [1, 2, 3, 4, 5, 0] rfl)
        · skip
          refine lv_aload_n hx hb dX3_train_26 rfl (lv_at hl 0 rfl) ?_
          refine va_get (D := (dC, dI)) (ci := 3) (v := .ref (a 11)) (C := RX3) (T := TX3) (N := 8) hx hb hts i_X3 hown hK hP 1 rfl rfl 7 (by decide) f_2 (fun _ h9 => h9) rfl dX3_train_27 ?_
          refine lv_iload hx hb dX3_train_30 (lv_at hl 5 rfl) ?_
          refine lv_bipush (v := nI 10) hx hb dX3_train_32 (by decide) ?_
          refine lv_imul hx hb dX3_train_34 ?_
          refine cb_topi (pk_mul _ _) ?_
          refine lv_iload_n hx hb dX3_train_35 rfl (lv_at hl 2 rfl) ?_
          refine lv_iadd hx hb dX3_train_36 ?_
          refine cb_topi (nI_add _ _) ?_
          refine lv_dup2_11 hx hb dX3_train_37 rfl rfl ?_
          refine cb_iald hx hb hK hP 11 5 (f := trn S pp jj hh i) rfl rfl (j := (i * 10) + jj) (by omega) (Nat.le_of_ble_eq_true rfl) dX3_train_38 ?_
          refine lv_iload_n hx hb dX3_train_39 rfl (lv_at hl 3 rfl) ?_
          refine lv_iadd hx hb dX3_train_40 ?_
          refine cb_iast hx hb hK hP hD hS 11 5 (f := trn S pp jj hh i) rfl rfl (j := (i * 10) + jj) (by omega) (Nat.le_of_ble_eq_true rfl) dX3_train_41 (fun H locs hP hD hS => ?_)
          rw [wsC_hrs, ss_hrs] at hP hD
          have hP : va_P (dC, dI) vwCl (cb_W a k (s_hrs S (upd (trn S pp jj hh i) ((i * 10) + jj) ((trn S pp jj hh i ((i * 10) + jj)) + hh))) (c_sl S) (c_pt S) (c_at S)) H := hP
          have hD : va_D A (cb_W a k (s_hrs S (upd (trn S pp jj hh i) ((i * 10) + jj) ((trn S pp jj hh i ((i * 10) + jj)) + hh))) (c_sl S) (c_pt S) (c_at S)) := hD
          refine lv_iinc (v := nI ((fb_ct (inP S pp) i) + 1)) (lv' := [(4, .int (nI ((fb_ct (inP S pp) i) + 1))), (0, .ref (a 1)), (1, .int (nI pp)), (2, .int (nI jj)), (3, .int hh), (5, .int (nI i))]) hx hb dX3_train_42 hl (k := 4) rfl (nI_1 _) (by decide) rfl (fun ls hl => ?_)
          refine lv_iinc (v := nI (i + 1)) (lv' := [(5, .int (nI (i + 1))), (4, .int (nI ((fb_ct (inP S pp) i) + 1))), (0, .ref (a 1)), (1, .int (nI pp)), (2, .int (nI jj)), (3, .int hh)]) hx hb dX3_train_45 hl (k := 5) rfl (nI_1 _) (by decide) rfl (fun ls hl => ?_)
          refine lv_goto (tgt := 6) hx hb dX3_train_48 (by decide) ?_
          have hl : lv_has ls 6 [(5, .int (nI (i + 1))), (4, .int (nI (fb_ct (inP S pp) (i + 1)))), (0, .ref (a 1)), (1, .int (nI pp)), (2, .int (nI jj)), (3, .int hh)] := cb_loc hl (e := Value.int (nI (fb_ct (inP S pp) (i + 1)))) 1 rfl (congrArg Value.int (show nI ((fb_ct (inP S pp) i) + 1) = nI (fb_ct (inP S pp) (i + 1)) from (by simp [fb_ct_succ, inP, c_12, c_23])))
          have ew : (cb_W a k (s_hrs S (upd (trn S pp jj hh i) ((i * 10) + jj) ((trn S pp jj hh i ((i * 10) + jj)) + hh))) (c_sl S) (c_pt S) (c_at S)) = (cb_W a k (s_hrs S (trn S pp jj hh (i + 1))) (c_sl S) (c_pt S) (c_at S)) := (by rw [show trn S pp jj hh (i + 1) = _ from by first | exact if_pos c_23 | exact if_neg c_23])
          have hP : va_P (dC, dI) vwCl (cb_W a k (s_hrs S (trn S pp jj hh (i + 1))) (c_sl S) (c_pt S) (c_at S)) H := by rw [← ew]; exact hP
          have hD : va_D A (cb_W a k (s_hrs S (trn S pp jj hh (i + 1))) (c_sl S) (c_pt S) (c_at S)) := by rw [← ew]; exact hD
          exact ih_6 (i + 1) (by omega) (by omega) H locs hP hD hS ls (lv_sub hl [2, 3, 4, 5, 1, 0] rfl)
  have hl : lv_has ls 6 [(5, .int (nI 0)), (4, .int (nI (fb_ct (inP S pp) 0))), (0, .ref (a 1)), (1, .int (nI pp)), (2, .int (nI jj)), (3, .int hh)] := cb_loc hl (e := Value.int (nI (fb_ct (inP S pp) 0))) 1 rfl (congrArg Value.int (show nI 0 = nI (fb_ct (inP S pp) 0) from rfl))
  have ew : (cb_W a k S (c_sl S) (c_pt S) (c_at S)) = (cb_W a k (s_hrs S (trn S pp jj hh 0)) (c_sl S) (c_pt S) (c_at S)) := rfl
  have hP : va_P (dC, dI) vwCl (cb_W a k (s_hrs S (trn S pp jj hh 0)) (c_sl S) (c_pt S) (c_at S)) s.heap := by rw [← ew]; exact hP
  have hD : va_D A (cb_W a k (s_hrs S (trn S pp jj hh 0)) (c_sl S) (c_pt S) (c_at S)) := by rw [← ew]; exact hD
  exact L_6 (c_ns S + 1) 0 (by omega) (by omega) s.heap [] hP hD hS ls (lv_sub hl [2, 3, 4, 5, 1, 0] rfl)
abbrev rm_X3_everyone : Room := { frames := 0, cells := 0, slots := 0, locals := 0 }
abbrev rm_X3_membersOf : Room := { frames := 0, cells := 0, slots := 0, locals := 0 }
set_option maxHeartbeats 4000000 in
set_option maxRecDepth 100000 in
theorem c_X3_membersOf (l : Launch) (dC : Nat → ClassId) (dI : Nat → Nat → Nat) (a : Nat → Nat) (k : Nat → ClassId) (S : cs_S) (pp : Nat) (hns : c_ns S ≤ 30) : Met l yX3_membersOf wsX3_membersOf rm_X3_membersOf (va_Pc [.ref (a 1), .int (nI pp)] (cR dC dI (cb_w a k S) (cb_ty k))) (vp_Sl (fun r => r = lN (bs (inP S pp) (c_ns S)))) 0 0 (fun _ => False) := by
  refine Met.ofW (cc := cX3_membersOf) (maxL := 5) (ret := (some .long)) (by decide) rfl ?_
  intro p e s m args below meth c s₁ B hml hv
  obtain ⟨rfl, hP, hK⟩ := hv
  have hx := B.exec
  have hb := B.bytes
  have hr := B.returns
  have hts := atoms_spec (ws := wsX3_membersOf) B.pre
  have hown : s.vm.findClass RX3 = some m.cls := findClass_of_methodNamed B.named
  have hlocks := B.notSynchronized
  obtain ⟨Q, hQ⟩ : ∃ Q, Q = MQ below (vp_Sl (fun r => r = lN (bs (inP S pp) (c_ns S)))) ([.ref (a 1), .int (nI pp)] : List Value).toArray s 0 0 (fun _ => False) := ⟨_, rfl⟩
  show W p l e rm_X3_membersOf s m _ below meth c s.heap [] 0 0 (MQ below _ _ _ _ _ _) _
  rw [← hQ]
  have i_X3 : ∀ w ∈ wsX30, w ∈ wsX3_membersOf := fun w h => List.mem_cons_of_mem _ (List.mem_append_right _ h)
  have f_0 := hts (.fieldLink RX3 30 "CampBook$People" "scouts" "I") (by decide +kernel)
  have f_1 := hts (.fieldLink RX3 9 "CampBook$People" "patrol" "[I") (by decide +kernel)
  have hl := lv_entry ([.ref (a 1), .int (nI pp)]) (n := 5) (Nat.le_of_ble_eq_true rfl)
  rw [lg_entry_eq]
  generalize (lg_sl ([.ref (a 1), .int (nI pp)]) ++ List.replicate (5 - (lg_sl ([.ref (a 1), .int (nI pp)])).length) Slot.unset).toArray = ls at hl ⊢
  have hl : lv_has ls 5 [(0, .ref (a 1)), (1, .int (nI pp))] := hl
  refine lv_lconst (v := lN 0) hx hb dX3_membersOf_0 rfl ?_
  refine lv_lstore_n (lv' := [(2, .long (lN 0)), (0, .ref (a 1)), (1, .int (nI pp))]) hx hb dX3_membersOf_1 rfl hl (by decide) rfl (fun ls hl => ?_)
  refine lv_iconst (v := nI 0) hx hb dX3_membersOf_2 (by decide) ?_
  refine lv_istore (lv' := [(4, .int (nI 0)), (2, .long (lN 0)), (0, .ref (a 1)), (1, .int (nI pp))]) hx hb dX3_membersOf_3 hl (by decide) rfl (fun ls hl => ?_)
  have L_5 : ∀ (n i : Nat), i ≤ c_ns S → c_ns S + 1 ≤ i + n → ∀ (ls : Array Slot), lv_has ls 5 [(0, .ref (a 1)), (1, .int (nI pp)), (2, .long (lN (bs (inP S pp) i))), (4, .int (nI i))] → W p l e rm_X3_membersOf s m ([.ref (a 1), .int (nI pp)] : List Value).toArray below meth c s.heap [] 0 0 Q (F0 m 5 ls []) := by
    intro n
    induction n with
    | zero => intro i h1 h2; exact absurd h2 (by omega)
    | succ n ih_5 =>
      intro i hle_5 hfu_5 ls hl
      refine lv_iload hx hb dX3_membersOf_5 (lv_at hl 3 rfl) ?_
      refine lv_aload_n hx hb dX3_membersOf_7 rfl (lv_at hl 0 rfl) ?_
      refine va_get (D := (dC, dI)) (ci := 3) (v := .int (nI (c_ns S))) (C := RX3) (T := TX3) (N := 8) hx hb hts i_X3 hown hK hP 1 rfl rfl 1 (by decide) f_0 (fun _ h9 => h9) rfl dX3_membersOf_8 ?_
      refine lv_icmp_ge (tgt := 38) hx hb dX3_membersOf_11 (by decide) (fun c_11 => ?_) (fun c_11 => ?_)
      · have c_11 : (c_ns S) ≤ i := cb_ge (by omega) (by omega) c_11
        refine lv_lload_n hx hb dX3_membersOf_38 rfl (lv_at hl 2 rfl) ?_
        rw [hQ]
        exact W.lret (v := lN (bs (inP S pp) i)) hx hb hr (fun t9 ht9 hW9 => ⟨lN (bs (inP S pp) i), rfl, (by rw [show i = c_ns S by omega]), ht9⟩) (fun q h => absurd h List.not_mem_nil) dX3_membersOf_39
      · have c_11 : i < (c_ns S) := cb_nge (by omega) (by omega) c_11
        refine lv_aload_n hx hb dX3_membersOf_14 rfl (lv_at hl 0 rfl) ?_
        refine va_get (D := (dC, dI)) (ci := 3) (v := .ref (a 6)) (C := RX3) (T := TX3) (N := 8) hx hb hts i_X3 hown hK hP 1 rfl rfl 2 (by decide) f_1 (fun _ h9 => h9) rfl dX3_membersOf_15 ?_
        refine lv_iload hx hb dX3_membersOf_18 (lv_at hl 3 rfl) ?_
        refine cb_iald hx hb hK hP 6 0 (f := c_pat S) rfl rfl (j := i) (by omega) (Nat.le_of_ble_eq_true rfl) dX3_membersOf_20 ?_
        refine lv_iload_n hx hb dX3_membersOf_21 rfl (lv_at hl 1 rfl) ?_
        refine lv_icmp_ne (tgt := 32) hx hb dX3_membersOf_22 (by decide) (fun c_22 => ?_) (fun c_22 => ?_)
        · skip
          refine lv_iinc (v := nI (i + 1)) (lv' := [(4, .int (nI (i + 1))), (0, .ref (a 1)), (1, .int (nI pp)), (2, .long (lN (bs (inP S pp) i)))]) hx hb dX3_membersOf_32 hl (k := 3) rfl (nI_1 _) (by decide) rfl (fun ls hl => ?_)
          refine lv_goto (tgt := 5) hx hb dX3_membersOf_35 (by decide) ?_
          have hl : lv_has ls 5 [(4, .int (nI (i + 1))), (0, .ref (a 1)), (1, .int (nI pp)), (2, .long (lN (bs (inP S pp) (i + 1))))] := cb_loc hl (e := Value.long (lN (bs (inP S pp) (i + 1)))) 3 rfl (congrArg Value.long (show lN (bs (inP S pp) i) = lN (bs (inP S pp) (i + 1)) from (bs_f (by simp [inP, c_11, c_22]))))
          exact ih_5 (i + 1) (by omega) (by omega) ls (lv_sub hl [1, 2, 3, 0] rfl)
        · skip
          refine lv_lload_n hx hb dX3_membersOf_25 rfl (lv_at hl 2 rfl) ?_
          refine lv_lconst (v := lN 1) hx hb dX3_membersOf_26 rfl ?_
          refine lv_iload hx hb dX3_membersOf_27 (lv_at hl 3 rfl) ?_
          refine lv_lshl hx hb dX3_membersOf_29 rfl ?_
          refine cb_topl (cb_shl (k := i) (by omega)) ?_
          refine lv_lor hx hb dX3_membersOf_30 ?_
          refine lv_lstore_n (lv' := [(2, .long ((lN (bs (inP S pp) i)) ||| (lN (2 ^ i)))), (0, .ref (a 1)), (1, .int (nI pp)), (4, .int (nI i))]) hx hb dX3_membersOf_31 rfl hl (by decide) rfl (fun ls hl => ?_)
          refine lv_iinc (v := nI (i + 1)) (lv' := [(4, .int (nI (i + 1))), (2, .long ((lN (bs (inP S pp) i)) ||| (lN (2 ^ i)))), (0, .ref (a 1)), (1, .int (nI pp))]) hx hb dX3_membersOf_32 hl (k := 3) rfl (nI_1 _) (by decide) rfl (fun ls hl => ?_)
          refine lv_goto (tgt := 5) hx hb dX3_membersOf_35 (by decide) ?_
          have hl : lv_has ls 5 [(4, .int (nI (i + 1))), (2, .long (lN (bs (inP S pp) (i + 1)))), (0, .ref (a 1)), (1, .int (nI pp))] := cb_loc hl (e := Value.long (lN (bs (inP S pp) (i + 1)))) 1 rfl (congrArg Value.long (show (lN (bs (inP S pp) i)) ||| (lN (2 ^ i)) = lN (bs (inP S pp) (i + 1)) from (bs_t (by simp [inP, c_11, c_22]))))
          exact ih_5 (i + 1) (by omega) (by omega) ls (lv_sub hl [2, 3, 1, 0] rfl)
  have hl : lv_has ls 5 [(4, .int (nI 0)), (2, .long (lN (bs (inP S pp) 0))), (0, .ref (a 1)), (1, .int (nI pp))] := cb_loc hl (e := Value.long (lN (bs (inP S pp) 0))) 1 rfl (congrArg Value.long (show lN 0 = lN (bs (inP S pp) 0) from rfl))
  exact L_5 (c_ns S + 1) 0 (by omega) (by omega) ls (lv_sub hl [2, 3, 1, 0] rfl)
abbrev rm_X3_agedAtLeast : Room := { frames := 0, cells := 0, slots := 0, locals := 0 }
set_option maxHeartbeats 4000000 in
set_option maxRecDepth 100000 in
theorem c_X3_agedAtLeast (l : Launch) (dC : Nat → ClassId) (dI : Nat → Nat → Nat) (a : Nat → Nat) (k : Nat → ClassId) (S : cs_S) (x : Int32) (hns : c_ns S ≤ 30) : Met l yX3_agedAtLeast wsX3_agedAtLeast rm_X3_agedAtLeast (va_Pc [.ref (a 1), .int x] (cR dC dI (cb_w a k S) (cb_ty k))) (vp_Sl (fun r => r = lN (bs (oldS S x) (c_ns S)))) 0 0 (fun _ => False) := by
  refine Met.ofW (cc := cX3_agedAtLeast) (maxL := 5) (ret := (some .long)) (by decide) rfl ?_
  intro p e s m args below meth c s₁ B hml hv
  obtain ⟨rfl, hP, hK⟩ := hv
  have hx := B.exec
  have hb := B.bytes
  have hr := B.returns
  have hts := atoms_spec (ws := wsX3_agedAtLeast) B.pre
  have hown : s.vm.findClass RX3 = some m.cls := findClass_of_methodNamed B.named
  have hlocks := B.notSynchronized
  obtain ⟨Q, hQ⟩ : ∃ Q, Q = MQ below (vp_Sl (fun r => r = lN (bs (oldS S x) (c_ns S)))) ([.ref (a 1), .int x] : List Value).toArray s 0 0 (fun _ => False) := ⟨_, rfl⟩
  show W p l e rm_X3_agedAtLeast s m _ below meth c s.heap [] 0 0 (MQ below _ _ _ _ _ _) _
  rw [← hQ]
  have i_X3 : ∀ w ∈ wsX30, w ∈ wsX3_agedAtLeast := fun w h => List.mem_cons_of_mem _ (List.mem_append_right _ h)
  have f_0 := hts (.fieldLink RX3 30 "CampBook$People" "scouts" "I") (by decide +kernel)
  have f_1 := hts (.fieldLink RX3 15 "CampBook$People" "age" "[I") (by decide +kernel)
  have hl := lv_entry ([.ref (a 1), .int x]) (n := 5) (Nat.le_of_ble_eq_true rfl)
  rw [lg_entry_eq]
  generalize (lg_sl ([.ref (a 1), .int x]) ++ List.replicate (5 - (lg_sl ([.ref (a 1), .int x])).length) Slot.unset).toArray = ls at hl ⊢
  have hl : lv_has ls 5 [(0, .ref (a 1)), (1, .int x)] := hl
  refine lv_lconst (v := lN 0) hx hb dX3_agedAtLeast_0 rfl ?_
  refine lv_lstore_n (lv' := [(2, .long (lN 0)), (0, .ref (a 1)), (1, .int x)]) hx hb dX3_agedAtLeast_1 rfl hl (by decide) rfl (fun ls hl => ?_)
  refine lv_iconst (v := nI 0) hx hb dX3_agedAtLeast_2 (by decide) ?_
  refine lv_istore (lv' := [(4, .int (nI 0)), (2, .long (lN 0)), (0, .ref (a 1)), (1, .int x)]) hx hb dX3_agedAtLeast_3 hl (by decide) rfl (fun ls hl => ?_)
  have L_5 : ∀ (n i : Nat), i ≤ c_ns S → c_ns S + 1 ≤ i + n → ∀ (ls : Array Slot), lv_has ls 5 [(0, .ref (a 1)), (1, .int x), (2, .long (lN (bs (oldS S x) i))), (4, .int (nI i))] → W p l e rm_X3_agedAtLeast s m ([.ref (a 1), .int x] : List Value).toArray below meth c s.heap [] 0 0 Q (F0 m 5 ls []) := by
    intro n
    induction n with
    | zero => intro i h1 h2; exact absurd h2 (by omega)
    | succ n ih_5 =>
      intro i hle_5 hfu_5 ls hl
      refine lv_iload hx hb dX3_agedAtLeast_5 (lv_at hl 3 rfl) ?_
      refine lv_aload_n hx hb dX3_agedAtLeast_7 rfl (lv_at hl 0 rfl) ?_
      refine va_get (D := (dC, dI)) (ci := 3) (v := .int (nI (c_ns S))) (C := RX3) (T := TX3) (N := 8) hx hb hts i_X3 hown hK hP 1 rfl rfl 1 (by decide) f_0 (fun _ h9 => h9) rfl dX3_agedAtLeast_8 ?_
      refine lv_icmp_ge (tgt := 38) hx hb dX3_agedAtLeast_11 (by decide) (fun c_11 => ?_) (fun c_11 => ?_)
      · have c_11 : (c_ns S) ≤ i := cb_ge (by omega) (by omega) c_11
        refine lv_lload_n hx hb dX3_agedAtLeast_38 rfl (lv_at hl 2 rfl) ?_
        rw [hQ]
        exact W.lret (v := lN (bs (oldS S x) i)) hx hb hr (fun t9 ht9 hW9 => ⟨lN (bs (oldS S x) i), rfl, (by rw [show i = c_ns S by omega]), ht9⟩) (fun q h => absurd h List.not_mem_nil) dX3_agedAtLeast_39
      · have c_11 : i < (c_ns S) := cb_nge (by omega) (by omega) c_11
        refine lv_aload_n hx hb dX3_agedAtLeast_14 rfl (lv_at hl 0 rfl) ?_
        refine va_get (D := (dC, dI)) (ci := 3) (v := .ref (a 7)) (C := RX3) (T := TX3) (N := 8) hx hb hts i_X3 hown hK hP 1 rfl rfl 3 (by decide) f_1 (fun _ h9 => h9) rfl dX3_agedAtLeast_15 ?_
        refine lv_iload hx hb dX3_agedAtLeast_18 (lv_at hl 3 rfl) ?_
        refine cb_iald hx hb hK hP 7 1 (f := c_age S) rfl rfl (j := i) (by omega) (Nat.le_of_ble_eq_true rfl) dX3_agedAtLeast_20 ?_
        refine lv_iload_n hx hb dX3_agedAtLeast_21 rfl (lv_at hl 1 rfl) ?_
        refine lv_icmp_lt (tgt := 32) hx hb dX3_agedAtLeast_22 (by decide) (fun c_22 => ?_) (fun c_22 => ?_)
        · skip
          refine lv_iinc (v := nI (i + 1)) (lv' := [(4, .int (nI (i + 1))), (0, .ref (a 1)), (1, .int x), (2, .long (lN (bs (oldS S x) i)))]) hx hb dX3_agedAtLeast_32 hl (k := 3) rfl (nI_1 _) (by decide) rfl (fun ls hl => ?_)
          refine lv_goto (tgt := 5) hx hb dX3_agedAtLeast_35 (by decide) ?_
          have hl : lv_has ls 5 [(4, .int (nI (i + 1))), (0, .ref (a 1)), (1, .int x), (2, .long (lN (bs (oldS S x) (i + 1))))] := cb_loc hl (e := Value.long (lN (bs (oldS S x) (i + 1)))) 3 rfl (congrArg Value.long (show lN (bs (oldS S x) i) = lN (bs (oldS S x) (i + 1)) from (bs_f (decide_eq_false (Int32.not_le.mpr c_22)))))
          exact ih_5 (i + 1) (by omega) (by omega) ls (lv_sub hl [1, 2, 3, 0] rfl)
        · skip
          refine lv_lload_n hx hb dX3_agedAtLeast_25 rfl (lv_at hl 2 rfl) ?_
          refine lv_lconst (v := lN 1) hx hb dX3_agedAtLeast_26 rfl ?_
          refine lv_iload hx hb dX3_agedAtLeast_27 (lv_at hl 3 rfl) ?_
          refine lv_lshl hx hb dX3_agedAtLeast_29 rfl ?_
          refine cb_topl (cb_shl (k := i) (by omega)) ?_
          refine lv_lor hx hb dX3_agedAtLeast_30 ?_
          refine lv_lstore_n (lv' := [(2, .long ((lN (bs (oldS S x) i)) ||| (lN (2 ^ i)))), (0, .ref (a 1)), (1, .int x), (4, .int (nI i))]) hx hb dX3_agedAtLeast_31 rfl hl (by decide) rfl (fun ls hl => ?_)
          refine lv_iinc (v := nI (i + 1)) (lv' := [(4, .int (nI (i + 1))), (2, .long ((lN (bs (oldS S x) i)) ||| (lN (2 ^ i)))), (0, .ref (a 1)), (1, .int x)]) hx hb dX3_agedAtLeast_32 hl (k := 3) rfl (nI_1 _) (by decide) rfl (fun ls hl => ?_)
          refine lv_goto (tgt := 5) hx hb dX3_agedAtLeast_35 (by decide) ?_
          have hl : lv_has ls 5 [(4, .int (nI (i + 1))), (2, .long (lN (bs (oldS S x) (i + 1)))), (0, .ref (a 1)), (1, .int x)] := cb_loc hl (e := Value.long (lN (bs (oldS S x) (i + 1)))) 1 rfl (congrArg Value.long (show (lN (bs (oldS S x) i)) ||| (lN (2 ^ i)) = lN (bs (oldS S x) (i + 1)) from (bs_t (decide_eq_true (Int32.not_lt.mp c_22)))))
          exact ih_5 (i + 1) (by omega) (by omega) ls (lv_sub hl [2, 3, 1, 0] rfl)
  have hl : lv_has ls 5 [(4, .int (nI 0)), (2, .long (lN (bs (oldS S x) 0))), (0, .ref (a 1)), (1, .int x)] := cb_loc hl (e := Value.long (lN (bs (oldS S x) 0))) 1 rfl (congrArg Value.long (show lN 0 = lN (bs (oldS S x) 0) from rfl))
  exact L_5 (c_ns S + 1) 0 (by omega) (by omega) ls (lv_sub hl [2, 3, 1, 0] rfl)
abbrev rm_X3_skilledIn : Room := { frames := 0, cells := 0, slots := 0, locals := 0 }
abbrev rm_X3_paceOf : Room := { frames := 1, cells := 0, slots := 0, locals := 21 }
abbrev rm_X3_slowestPace : Room := { frames := 2, cells := 0, slots := 0, locals := 43 }
end CBM
