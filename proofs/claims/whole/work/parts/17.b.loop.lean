/-! THE CLAIM OUT OF ONE WALK OF THE LAW'S BODY. Your part is whole_start (and what it stands on); all else here is the same for every law, but numbers. -/
def R_law : String := "CampBookLaw"
def lw_P (b : Addr) (xs : List Int32) (args : Array Value) (s : State) : Prop := args = #[.ref b] ∧ s.IntsAt b xs ∧ xs.length ≤ 2560 ∧ (Jvm.Cond.and given_1 narrow_1).before args s = true
/-- what a walk over the start with the record d0 says of its end, said of the start itself -/
theorem lw_closed {s t : State} {o : Outcome} {d0 : Drawn} {L : List Loc} {k n : Nat} (hd0 : s.drawn.sameBut d0 lw_cs) (hv : ∃ v, o = .returned v) (hW : (s.setDrawn d0).WarmedH t.vm) (hs : (s.setDrawn d0).sameButNew ({ t with vm := s.vm } : State) L k n) : State.butDraws s t lw_cs (fun t1 => Framed s o t1 L k n) := by
  have h2 : t.drawn = d0 := congrArg State.drawn hs.1
  refine ⟨⟨hv, hW, State.sameButNew.setDrawn hs s.drawn⟩, ?_, by decide⟩
  rw [h2]
  exact hd0
def lw_Q (rc rs : Nat) (_ : Array Value) (s : State) (o : Outcome) (t : State) : Prop := o = .returned (some (.int 1)) ∧ State.butDraws s t lw_cs (fun t1 => Framed s o t1 [] rc rs)
def lw_Z (rc rs : Nat) (below : List Frame) (a : Array Value) (s : State) : State → Prop := fun t => ∃ o, t.status = .running ∧ Ended t below o ∧ lw_Q rc rs a s o t
/-- the law's own end, with 1 on the stack, nothing written that was there before, its room as the claim has it; d0: the record of draws at this point (at the entry s.drawn: begin with 'refine W.base ?_' and 'have hd0 := Drawn.sameBut.refl s.drawn lw_cs') -/
theorem lw_ret {p : Program} {l : Launch} {e : Env} {s : State} {m : MethodId} {below : List Frame} {meth : Method} {c : Code} {b rc rs : Nat} {d0 : Drawn} (hd0 : s.drawn.sameBut d0 lw_cs) (hx : p.tables.exec = Jvm.exec) (hb : c.code = code) (hr : meth.sig.returnType = ret) (hlocks : meth.locks = false) {pc : Nat} {H : Heap} {ls : Array Slot} (hdg : decode code pc = .ok (.ireturn, 1)) : W p l e room_1 (s.setDrawn d0) m #[Value.ref b] below meth c H [] rc rs (lw_Z rc rs below #[Value.ref b] s) (F0 m pc ls [.int 1]) := by
  intro T hT X
  obtain ⟨fs, hret, hrun, hended, hW, hframe⟩ := X.leave (v := some (.int 1)) (hlocks := hlocks) (fun h => by rw [hr] at h; cases h)
  have hmeth' : T.vm.method? m = some meth := X.method'
  refine ⟨T.setFrames fs, ?_, .returned (some (.int 1)), hrun, hended, rfl, lw_closed hd0 ⟨_, rfl⟩ hW hframe⟩
  jvm_step X.here [X.here.top, hx, hb, hdg, hmeth', hr, ret, narrow_b1]
  (try refine ⟨rfl, ?_⟩); (try refine ⟨rfl, ?_⟩)
  first | (intro acts; rw [hret _ acts rfl rfl rfl]) | rw [hret _ _ rfl rfl rfl]
  exact Steps.refl _
/-- what holds at the law's entry: the machine, the code, the tables' words (any of lw_tbl by 'hts w (by decide +kernel)'), the script of L ints xs at the cell b, what the Statement gives of the start (any of its parts by flat_of_before) -/
def lw_At (p : Program) (s : State) (m : MethodId) (meth : Method) (c : Code) (b L : Nat) (xs : Nat → Int32) : Prop :=
  p.tables.exec = Jvm.exec ∧ c.code = code ∧ meth.sig.returnType = ret ∧ c.maxLocals = 9 ∧ s.vm.findClass R_law = some m.cls ∧ (∀ w ∈ lw_tbl, w.before #[Value.ref b] s = true) ∧ va_X b L xs s s.heap ∧ b < s.heap.size ∧ meth.locks = false ∧ (Jvm.Cond.and given_1 narrow_1).before #[Value.ref b] s = true
section CBH
theorem gt5 {n i : Nat} (hn : n < 2 ^ 30) (hi : i < 2 ^ 30) : nI n - nI 5 < nI i ↔ n < i + 5 := by
  rw [fa_lt, pk_sub_toInt hn (by omega), nI_toInt (by omega)]
  omega
set_option maxHeartbeats 4000000 in
set_option maxRecDepth 100000 in
theorem law_loop {rc rs : Nat} (hrc : 200000 ≤ rc) (hrs : 2000000 ≤ rs) {p : Program} {l : Launch} {e : Env} {s : State} {m : MethodId} {below : List Frame} {meth : Method} {c : Code} {b L : Nat} {xs : Nat → Int32} {dC : Nat → ClassId} {dI : Nat → Nat → Nat} {a : Nat → Nat} {k : Nat → ClassId} {am : Nat → Nat} {km : Nat → ClassId} {q : Nat} {kq : ClassId} (hl9 : l.stackTraces = false) (C0 : LC p s m c b L xs dC dI k km kq) (hr : meth.sig.returnType = ret) (hlocks : meth.locks = false) : ∀ (n j : Nat), 5 * j ≤ L + 4 → 513 + 1 ≤ j + n → ∀ (S : cs_S) (th : Nat) (f : Nat → Int64) (H : Heap) (locs : List Loc) (ls : Array Slot), Inv S → va_P (dC, dI) vwCl (cb_w a k S ++ (mb_w am km S th ++ [(q, .inl (kq, (1, .inr (.inl (f)))))])) H → va_D (fun z => s.heap.size ≤ z) (cb_w a k S ++ (mb_w am km S th ++ [(q, .inl (kq, (1, .inr (.inl (f)))))])) → va_S (fun z => s.heap.size ≤ z) s.heap H locs → lv_has ls 9 [(0, .ref b), (1, .ref (a 0)), (2, .ref (am 0)), (3, .ref q), (4, .int (nI (5 * j)))] → W p l e room_1 s m #[Value.ref b] below meth c H locs (36 + 231 * j) (2098 + 1597 * j) (lw_Z rc rs below #[Value.ref b] s) (F0 m 23 ls []) := by
  have C1 := C0
  obtain ⟨hx, hb, hml, hown, hts, hX, hbl, hL, hK, hE⟩ := C0
  have hbA : ¬ (fun z => s.heap.size ≤ z) b := Nat.not_le.mpr hbl
  intro n
  induction n with
  | zero => intro j h1 h2; exact absurd h2 (by omega)
  | succ n ih =>
    intro j hle hfu S th f H locs ls hI hP hD hS hl
    refine lv_iload hx hb dL_law_23 (lv_at hl 4 rfl) ?_
    refine lv_aload_n hx hb dL_law_25 rfl (lv_at hl 0 rfl) ?_
    refine va_slen hx hb hX hbl hbA hS dL_law_26 ?_
    refine cb_topi (z := nI L) rfl ?_
    refine lv_iconst (v := nI 5) hx hb dL_law_27 (by decide) ?_
    refine lv_isub hx hb dL_law_28 ?_
    refine lv_icmp_gt (tgt := 2073) hx hb dL_law_29 (by decide) (fun c_29 => ?_) (fun c_29 => ?_)
    · refine lv_iconst (v := nI 1) hx hb dL_law_2073 (by decide) ?_
      refine W.widen (k := rc) (n := rs) (by omega) (by omega) ?_
      refine va_forget (fun z hz => hS.2.2 z hz) ?_
      refine W.base ?_
      exact lw_ret (Drawn.sameBut.refl s.drawn lw_cs) hx hb hr hlocks dL_law_2074
    · have c_29 : 5 * j + 5 ≤ L := Nat.not_lt.mp (fun q9 => c_29 ((gt5 (by omega) (by omega)).mpr q9))
      refine lv_aload_n hx hb dL_law_32 rfl (lv_at hl 0 rfl) ?_
      refine lv_iload hx hb dL_law_33 (lv_at hl 4 rfl) ?_
      refine va_sld hx hb hX hbl hbA hS (i := nI (5 * j)) (vp_in_nI (show 5 * j < L by omega) (by omega)) dL_law_35 ?_
      refine lv_bipush (v := nI 31) hx hb dL_law_36 (by decide) ?_
      refine lv_iand hx hb dL_law_38 ?_
      obtain ⟨v, hv, ev⟩ := pk_andE (xs (nI (5 * j)).toNatClampNeg) (m := nI 31) 5 (by decide)
      refine cb_topi (z := nI v) ev ?_
      have kk : KK p l e s m below meth c b dC dI a k am km q kq j (36 + 231 * j) (2098 + 1597 * j) (lw_Z rc rs below #[Value.ref b] s) := by
        intro S2 th2 f2 H2 locs2 ls2 hI2 hP2 hD2 hS2 hl2
        refine lv_iinc (v := nI (5 * (j + 1))) (lv' := [(4, .int (nI (5 * (j + 1)))), (0, .ref b), (1, .ref (a 0)), (2, .ref (am 0)), (3, .ref q)]) hx hb dL_law_2067 hl2 (k := 4) rfl (by rw [show 5 * (j + 1) = 5 * j + 5 by omega]; exact nI_add _ 5) (by decide) rfl (fun ls hl => ?_)
        refine lv_goto (tgt := 23) hx hb dL_law_2070 (by decide) ?_
        refine W.widen (k := 36 + 231 * (j + 1)) (n := 2098 + 1597 * (j + 1)) (by omega) (by omega) ?_
        exact ih (j + 1) (by omega) (by omega) S2 th2 f2 H2 locs2 ls hI2 hP2 hD2 hS2 (lv_sub hl [1, 2, 3, 4, 0] rfl)
      have hc : 36 + 231 * j + 231 ≤ 200000 := by omega
      have hs : 2098 + 1597 * j + 1597 ≤ 2000000 := by omega
      rcases (show v = 0 ∨ v = 1 ∨ v = 2 ∨ v = 3 ∨ v = 4 ∨ v = 5 ∨ v = 6 ∨ v = 7 ∨ v = 8 ∨ v = 9 ∨ v = 10 ∨ v = 11 ∨ v = 12 ∨ v = 13 ∨ v = 14 ∨ v = 15 ∨ v = 16 ∨ v = 17 ∨ v = 18 ∨ v = 19 ∨ v = 20 ∨ v = 21 ∨ v = 22 ∨ v = 23 ∨ v = 24 ∨ v = 25 ∨ v = 26 ∨ v = 27 ∨ v = 28 ∨ v = 29 ∨ v = 30 ∨ v = 31 by omega) with rfl | rfl | rfl | rfl | rfl | rfl | rfl | rfl | rfl | rfl | rfl | rfl | rfl | rfl | rfl | rfl | rfl | rfl | rfl | rfl | rfl | rfl | rfl | rfl | rfl | rfl | rfl | rfl | rfl | rfl | rfl | rfl
      · refine lv_tableIn (tgt := 180) hx hb dL_law_39 (by decide) (by decide) rfl (by decide) ?_
        exact lc_addPatrol hl9 C1 hI hP hD hS c_29 hl hc hs kk
      · refine lv_tableIn (tgt := 224) hx hb dL_law_39 (by decide) (by decide) rfl (by decide) ?_
        exact lc_addScout hl9 C1 hI hP hD hS c_29 hl hc hs kk
      · refine lv_tableIn (tgt := 304) hx hb dL_law_39 (by decide) (by decide) rfl (by decide) ?_
        exact lc_scout hl9 C1 hI hP hD hS c_29 hl hc hs kk
      · refine lv_tableIn (tgt := 372) hx hb dL_law_39 (by decide) (by decide) rfl (by decide) ?_
        exact lc_addTent hl9 C1 hI hP hD hS c_29 hl hc hs kk
      · refine lv_tableIn (tgt := 428) hx hb dL_law_39 (by decide) (by decide) rfl (by decide) ?_
        exact lc_sleep hl9 C1 hI hP hD hS c_29 hl hc hs kk
      · refine lv_tableIn (tgt := 496) hx hb dL_law_39 (by decide) (by decide) rfl (by decide) ?_
        exact lc_inTent hl9 C1 hI hP hD hS c_29 hl hc hs kk
      · refine lv_tableIn (tgt := 551) hx hb dL_law_39 (by decide) (by decide) rfl (by decide) ?_
        exact lc_findTents hl9 C1 hI hP hD hS c_29 hl hc hs kk
      · refine lv_tableIn (tgt := 564) hx hb dL_law_39 (by decide) (by decide) rfl (by decide) ?_
        exact lc_count hl9 C1 hI hP hD hS c_29 hl hc hs kk
      · refine lv_tableIn (tgt := 620) hx hb dL_law_39 (by decide) (by decide) rfl (by decide) ?_
        exact lc_giveDuty hl9 C1 hI hP hD hS c_29 hl hc hs kk
      · refine lv_tableIn (tgt := 700) hx hb dL_law_39 (by decide) (by decide) rfl (by decide) ?_
        exact lc_duty hl9 C1 hI hP hD hS c_29 hl hc hs kk
      · refine lv_tableIn (tgt := 768) hx hb dL_law_39 (by decide) (by decide) rfl (by decide) ?_
        exact lc_points hl9 C1 hI hP hD hS c_29 hl hc hs kk
      · refine lv_tableIn (tgt := 824) hx hb dL_law_39 (by decide) (by decide) rfl (by decide) ?_
        exact lc_findDuties hl9 C1 hI hP hD hS c_29 hl hc hs kk
      · refine lv_tableIn (tgt := 837) hx hb dL_law_39 (by decide) (by decide) rfl (by decide) ?_
        exact lc_addFood hl9 C1 hI hP hD hS c_29 hl hc hs kk
      · refine lv_tableIn (tgt := 893) hx hb dL_law_39 (by decide) (by decide) rfl (by decide) ?_
        exact lc_buy hl9 C1 hI hP hD hS c_29 hl hc hs kk
      · refine lv_tableIn (tgt := 961) hx hb dL_law_39 (by decide) (by decide) rfl (by decide) ?_
        exact lc_store hl9 C1 hI hP hD hS c_29 hl hc hs kk
      · refine lv_tableIn (tgt := 1017) hx hb dL_law_39 (by decide) (by decide) rfl (by decide) ?_
        exact lc_diet hl9 C1 hI hP hD hS c_29 hl hc hs kk
      · refine lv_tableIn (tgt := 1120) hx hb dL_law_39 (by decide) (by decide) rfl (by decide) ?_
        exact lc_addMeal hl9 C1 hI hP hD hS c_29 hl hc hs kk
      · refine lv_tableIn (tgt := 1164) hx hb dL_law_39 (by decide) (by decide) rfl (by decide) ?_
        exact lc_need hl9 C1 hI hP hD hS c_29 hl hc hs kk
      · refine lv_tableIn (tgt := 1244) hx hb dL_law_39 (by decide) (by decide) rfl (by decide) ?_
        exact lc_eaters hl9 C1 hI hP hD hS c_29 hl hc hs kk
      · refine lv_tableIn (tgt := 1299) hx hb dL_law_39 (by decide) (by decide) rfl (by decide) ?_
        exact lc_lacks hl9 C1 hI hP hD hS c_29 hl hc hs kk
      · refine lv_tableIn (tgt := 1379) hx hb dL_law_39 (by decide) (by decide) rfl (by decide) ?_
        exact lc_eat hl9 C1 hI hP hD hS c_29 hl hc hs kk
      · refine lv_tableIn (tgt := 1435) hx hb dL_law_39 (by decide) (by decide) rfl (by decide) ?_
        exact lc_table hl9 C1 hI hP hD hS c_29 hl hc hs kk
      · refine lv_tableIn (tgt := 1491) hx hb dL_law_39 (by decide) (by decide) rfl (by decide) ?_
        exact lc_addBadge hl9 C1 hI hP hD hS c_29 hl hc hs kk
      · refine lv_tableIn (tgt := 1547) hx hb dL_law_39 (by decide) (by decide) rfl (by decide) ?_
        exact lc_want hl9 C1 hI hP hD hS c_29 hl hc hs kk
      · refine lv_tableIn (tgt := 1627) hx hb dL_law_39 (by decide) (by decide) rfl (by decide) ?_
        exact lc_practise hl9 C1 hI hP hD hS c_29 hl hc hs kk
      · refine lv_tableIn (tgt := 1707) hx hb dL_law_39 (by decide) (by decide) rfl (by decide) ?_
        exact lc_away hl9 C1 hI hP hD hS c_29 hl hc hs kk
      · refine lv_tableIn (tgt := 1775) hx hb dL_law_39 (by decide) (by decide) rfl (by decide) ?_
        exact lc_earn hl9 C1 hI hP hD hS c_29 hl hc hs kk
      · refine lv_tableIn (tgt := 1843) hx hb dL_law_39 (by decide) (by decide) rfl (by decide) ?_
        exact lc_hike hl9 C1 hI hP hD hS c_29 hl hc hs kk
      · refine lv_tableIn (tgt := 1955) hx hb dL_law_39 (by decide) (by decide) rfl (by decide) ?_
        exact lc_end hl9 C1 hI hP hD hS c_29 hl hc hs kk
      · refine lv_tableIn (tgt := 1999) hx hb dL_law_39 (by decide) (by decide) rfl (by decide) ?_
        exact lc_day hl9 C1 hI hP hD hS c_29 hl hc hs kk
      · refine lv_tableIn (tgt := 2012) hx hb dL_law_39 (by decide) (by decide) rfl (by decide) ?_
        exact lc_meanAge hl9 C1 hI hP hD hS c_29 hl hc hs kk
      · refine lv_tableIn (tgt := 2053) hx hb dL_law_39 (by decide) (by decide) rfl (by decide) ?_
        exact lc_digest hl9 C1 hI hP hD hS c_29 hl hc hs kk
end CBH
