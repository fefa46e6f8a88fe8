/-! what the law's entry gives of the statics, the texts and the classes -/
section CBG
abbrev gvn : Cond := Jvm.Cond.and given_1 narrow_1
theorem str_R {args : Array Value} {s : State} {kk : Nat} {tx : String} (h1 : (Cond.stringRef RX5 kk tx).before args s = true) (h2 : (Cond.exactly (.string RX5 kk) "java/lang/String").before args s = true) : ∃ sa : Nat, vk_R RX5 kk tx sa s := by
  have h3 : (Cond.exactly (.string RX5 kk) "java/lang/String").holds args s none s [] = true := h2
  obtain ⟨a, c, cell, k9, he, -⟩ := Cond.exactly_spec h3
  exact ⟨a, vk_R.of h1 he⟩
theorem mem_strs : ∀ q ∈ cb_strs, Cond.stringRef RX5 q.1 q.2 ∈ lw_tbl ∧ Cond.exactly (.string RX5 q.1) "java/lang/String" ∈ flatC gvn := by decide +kernel
theorem mem_nw : ∀ w ∈ cb_nw, w ∈ lw_tbl := by decide +kernel
theorem mem_nest : ∀ w ∈ cb_nest, w ∈ lw_tbl := by decide +kernel
theorem mem_n142 : Cond.fieldLinkNest RX5 142 RX1 "BY_POINTS" "[I" RX5 ∈ lw_tbl := by decide +kernel
theorem law_env {s : State} {b : Nat} (hts : ∀ w ∈ lw_tbl, w.before #[Value.ref b] s = true) (hgv : gvn.before #[Value.ref b] s = true) : cE (fun z => s.heap.size ≤ z) s ∧ ∀ w ∈ cb_nest, va_Nw w s := by
  have hg := flat_of_before gvn hgv
  have hA : ∀ a : Nat, a < s.heap.size → ¬ (fun z => s.heap.size ≤ z) a := fun a h => Nat.not_le.mpr h
  obtain ⟨t1, e1, hT1⟩ := va_Tof (args := #[Value.ref b]) (s := s) (tm := .static RX1 "POINTS" "[I") (ty := .int) (N := 5) (f := fun j => .int (dP j)) (by decide) (hg (.arrayOf (.static RX1 "POINTS" "[I") .int) (by decide +kernel)) (va_eqt (z := 5) (hg (.eq (.length (.static RX1 "POINTS" "[I")) (.int 5)) (by decide +kernel))) (fun j hj => by
    rcases (show j = 0 ∨ j = 1 ∨ j = 2 ∨ j = 3 ∨ j = 4 by omega) with rfl | rfl | rfl | rfl | rfl
    · exact va_eqt (z := 2) (hg (.eq (.elem (.static RX1 "POINTS" "[I") (.int 0)) (.int 2)) (by decide +kernel))
    · exact va_eqt (z := 3) (hg (.eq (.elem (.static RX1 "POINTS" "[I") (.int 1)) (.int 3)) (by decide +kernel))
    · exact va_eqt (z := 4) (hg (.eq (.elem (.static RX1 "POINTS" "[I") (.int 2)) (.int 4)) (by decide +kernel))
    · exact va_eqt (z := 2) (hg (.eq (.elem (.static RX1 "POINTS" "[I") (.int 3)) (.int 2)) (by decide +kernel))
    · exact va_eqt (z := 5) (hg (.eq (.elem (.static RX1 "POINTS" "[I") (.int 4)) (.int 5)) (by decide +kernel))) hA
  obtain ⟨t2, e2, hT2⟩ := va_Tof (args := #[Value.ref b]) (s := s) (tm := .static RX1 "BY_POINTS" "[I") (ty := .int) (N := 5) (f := fun j => .int (dO j)) (by decide) (hg (.arrayOf (.static RX1 "BY_POINTS" "[I") .int) (by decide +kernel)) (va_eqt (z := 5) (hg (.eq (.length (.static RX1 "BY_POINTS" "[I")) (.int 5)) (by decide +kernel))) (fun j hj => by
    rcases (show j = 0 ∨ j = 1 ∨ j = 2 ∨ j = 3 ∨ j = 4 by omega) with rfl | rfl | rfl | rfl | rfl
    · exact va_eqt (z := 4) (hg (.eq (.elem (.static RX1 "BY_POINTS" "[I") (.int 0)) (.int 4)) (by decide +kernel))
    · exact va_eqt (z := 2) (hg (.eq (.elem (.static RX1 "BY_POINTS" "[I") (.int 1)) (.int 2)) (by decide +kernel))
    · exact va_eqt (z := 1) (hg (.eq (.elem (.static RX1 "BY_POINTS" "[I") (.int 2)) (.int 1)) (by decide +kernel))
    · exact va_eqt (z := 0) (hg (.eq (.elem (.static RX1 "BY_POINTS" "[I") (.int 3)) (.int 0)) (by decide +kernel))
    · exact va_eqt (z := 3) (hg (.eq (.elem (.static RX1 "BY_POINTS" "[I") (.int 4)) (.int 3)) (by decide +kernel))) hA
  refine ⟨⟨vx_Zqof (hts (.laysStatic Bundle.tN "UNASSIGNED_STACK" Bundle.steD) (by decide +kernel)) (hts (.initialized Bundle.tN) (by decide +kernel)) (hg (.isRef (.static Bundle.tN "UNASSIGNED_STACK" Bundle.steD)) (by decide +kernel)) hA, vx_Zqof (hts (.laysStatic Bundle.tN "SUPPRESSED_SENTINEL" Bundle.listD) (by decide +kernel)) (hts (.initialized Bundle.tN) (by decide +kernel)) (hg (.isRef (.static Bundle.tN "SUPPRESSED_SENTINEL" Bundle.listD)) (by decide +kernel)) hA, fun w hw => va_Nw.of (cb_nw_tab w hw) (hts w (mem_nw w hw)), fun q hq => str_R (hts _ (mem_strs q hq).1) (hg _ (mem_strs q hq).2), t1, t2, va_Zref (hts (.laysStatic RX1 "POINTS" "[I") (by decide +kernel)) (hts (.initialized RX1) (by decide +kernel)) e1 hA, hT1, va_Zref (hts (.laysStatic RX1 "BY_POINTS" "[I") (by decide +kernel)) (hts (.initialized RX1) (by decide +kernel)) e2 hA, hT2, va_Nw.of rfl (hts _ mem_n142)⟩, fun w hw => va_Nw.of (cb_nest_tab w hw) (hts w (mem_nest w hw))⟩
end CBG
