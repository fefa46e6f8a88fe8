/-! the calls: which exception (0 for none), the answer, the state behind -/
section CBQ
abbrev toN (x : Int32) : Nat := x.toNatClampNeg
def k_addPatrol (S : cs_S) : Nat := if c_np S < 6 then 0 else 1
def S_addPatrol (S : cs_S) : cs_S := s_np S (c_np S + 1)
def k_addScout (S : cs_S) (x0 x1 x2 : Int32) : Nat := if ix x0 (c_np S) = true then (if inR x1 (nI 6) (nI 17) = true then (if inR x2 (nI 0) (nI 255) = true then (if c_ns S < 30 then 0 else 3) else 2) else 2) else 1
def S_addScout (S : cs_S) (x0 x1 x2 : Int32) : cs_S := s_ten (s_ns (s_skl (s_age (s_pat S (upd (c_pat S) (c_ns S) x0)) (upd (c_age S) (c_ns S) x1)) (upd (c_skl S) (c_ns S) x2)) (c_ns S + 1)) (upd (c_ten S) (c_ns S) (-1))
def k_scout (S : cs_S) (x0 x1 : Int32) : Nat := if ix x0 (c_ns S) = true then (if ix x1 7 = true then 0 else 1) else 1
def r_scout (S : cs_S) (x0 x1 : Int32) : Int32 := fct S (toN x0) (toN x1)
def k_addTent (S : cs_S) (x0 : Int32) : Nat := if inR x0 (nI 1) (nI 8) = true then (if c_nt S < 10 then 0 else 2) else 1
def S_addTent (S : cs_S) (x0 : Int32) : cs_S := s_nt (s_plc S (upd (c_plc S) (c_nt S) x0)) (c_nt S + 1)
def k_sleep (S : cs_S) (x0 x1 : Int32) : Nat := if ix x0 (c_ns S) = true then (if x1 = -1 ∨ ix x1 (c_nt S) = true then (if c_ten S (toN x0) = x1 then 2 else if x1 = -1 ∨ canT S (toN x0) (toN x1) = true then 0 else 2) else 1) else 1
def r_sleep (S : cs_S) (x0 : Int32) : Int32 := c_ten S (toN x0)
def S_sleep (S : cs_S) (x0 x1 : Int32) : cs_S := s_ten S (upd (c_ten S) (toN x0) x1)
def k_inTent (S : cs_S) (x0 : Int32) : Nat := if ix x0 (c_nt S) = true then 0 else 1
def r_inTent (S : cs_S) (x0 : Int32) : Int64 := setT S (toN x0)
def k_count (x0 : Int32) : Nat := if ix x0 7 = true then 0 else 1
def r_count (S : cs_S) (x0 : Int32) : Int32 := cnts S (toN x0)
def k_giveDuty (S : cs_S) (x0 x1 x2 : Int32) : Nat := if ix x1 5 = true then (if x2 = -1 ∨ ix x2 (c_np S) = true then (if inR x0 (nI (c_day S)) (nI 60) = true then (if x2 = -1 ∨ canG S (toN x0) (toN x1) (toN x2) = true then 0 else 3) else 2) else 1) else 1
def r_giveDuty (S : cs_S) (x0 x1 : Int32) : Int32 := c_hld S (toN x0 * 5 + toN x1)
def S_giveDuty (S : cs_S) (x0 x1 x2 : Int32) : cs_S := s_hld S (upd (c_hld S) (toN x0 * 5 + toN x1) x2)
def k_duty (x0 x1 : Int32) : Nat := if ix x1 5 = true then (if ix x0 61 = true then 0 else 1) else 1
def k_points (S : cs_S) (x0 : Int32) : Nat := if ix x0 (c_np S) = true then 0 else 1
def r_points (S : cs_S) (x0 : Int32) : Int32 := pts S (toN x0)
def k_addFood (S : cs_S) (x0 : Int32) : Nat := if inR x0 (nI 0) (nI 10000) = true then (if c_nf S < 12 then 0 else 2) else 1
def S_addFood (S : cs_S) (x0 : Int32) : cs_S := s_nf (s_sto S (upd (c_sto S) (c_nf S) x0)) (c_nf S + 1)
def k_buy (S : cs_S) (x0 x1 : Int32) : Nat := if ix x0 (c_nf S) = true then (if inR x1 (nI 1) (nI 10000) = true then (if c_sto S (toN x0) + x1 ≤ nI 10000 then 0 else 3) else 2) else 1
def r_buy (S : cs_S) (x0 x1 : Int32) : Int32 := c_sto S (toN x0) + x1
def S_buy (S : cs_S) (x0 x1 : Int32) : cs_S := s_sto S (upd (c_sto S) (toN x0) (c_sto S (toN x0) + x1))
def k_store (S : cs_S) (x0 : Int32) : Nat := if ix x0 (c_nf S) = true then 0 else 1
def r_store (S : cs_S) (x0 : Int32) : Int32 := c_sto S (toN x0)
def k_diet (S : cs_S) (x0 x1 : Int32) : Nat := if ix x0 (c_ns S) = true then (if ix x1 (c_nf S) = true then 0 else 1) else 1
def r_diet (S : cs_S) (x0 x1 : Int32) : Bool := !bt (c_ref S (toN x0)) (toN x1)
def S_diet (S : cs_S) (x0 x1 : Int32) (b : Bool) : cs_S := s_ref S (upd (c_ref S) (toN x0) (if b = true then c_ref S (toN x0) &&& ((nI 1 <<< (x1 &&& 31)) ^^^ (-1)) else c_ref S (toN x0) ||| (nI 1 <<< (x1 &&& 31))))
def k_addMeal (S : cs_S) : Nat := if c_nm S < 10 then 0 else 1
def S_addMeal (S : cs_S) : cs_S := s_nm S (c_nm S + 1)
def k_need (S : cs_S) (x0 x1 x2 : Int32) : Nat := if ix x0 (c_nm S) = true then (if ix x1 (c_nf S) = true then (if inR x2 (nI 0) (nI 50) = true then 0 else 2) else 1) else 1
def r_need (S : cs_S) (x0 x1 : Int32) : Int32 := c_ned S (toN x0 * 12 + toN x1)
def S_need (S : cs_S) (x0 x1 x2 : Int32) : cs_S := s_ned S (upd (c_ned S) (toN x0 * 12 + toN x1) x2)
def k_eaters (S : cs_S) (x0 : Int32) : Nat := if ix x0 (c_nm S) = true then 0 else 1
def r_eaters (S : cs_S) (x0 : Int32) : Int64 := setE S (toN x0)
def k_lacks (S : cs_S) (x0 x1 x2 : Int32) : Nat := if ix x0 (c_nm S) = true then (if ix x1 (c_nf S) = true then (if inR x2 (nI 1) (nI 100) = true then 0 else 2) else 1) else 1
def r_lacks (S : cs_S) (x0 x1 x2 : Int32) : Int32 := cMax (nI 0) (c_ned S (toN x0 * 12 + toN x1) * (nI (cntE S (toN x0)) * x2) - c_sto S (toN x1))
def k_eat (S : cs_S) (x0 : Int32) : Nat := if ix x0 (c_nm S) = true then (if canBE S (toN x0) = true then 0 else 2) else 1
def r_eat (S : cs_S) (x0 : Int32) : Int32 := nI (cntE S (toN x0))
def S_eat (S : cs_S) (x0 : Int32) : cs_S := s_eat (s_me (s_sto S (sv S (toN x0) (c_nf S))) (c_me S + 1)) (eatM S (toN x0))
def tabl (S : cs_S) (w : Nat) : Int32 := match w with
  | 0 => nI (c_hung S)
  | 1 => nI (c_me S)
  | _ => oI (bM S (c_nm S))
def k_table (x0 : Int32) : Nat := if ix x0 3 = true then 0 else 1
def r_table (S : cs_S) (x0 : Int32) : Int32 := tabl S (toN x0)
def k_addBadge (S : cs_S) (x0 : Int32) : Nat := if inR x0 (nI 6) (nI 17) = true then (if c_nb S < 8 then 0 else 2) else 1
def S_addBadge (S : cs_S) (x0 : Int32) : cs_S := s_nb (s_lag S (upd (c_lag S) (c_nb S) x0)) (c_nb S + 1)
def k_want (S : cs_S) (x0 x1 x2 : Int32) : Nat := if ix x0 (c_nb S) = true then (if ix x1 10 = true then (if inR x2 (nI 0) (nI 100) = true then 0 else 2) else 1) else 1
def r_want (S : cs_S) (x0 x1 : Int32) : Int32 := c_wnt S (toN x0 * 10 + toN x1)
def S_want (S : cs_S) (x0 x1 x2 : Int32) : cs_S := s_wnt S (upd (c_wnt S) (toN x0 * 10 + toN x1) x2)
def k_practise (S : cs_S) (x0 x1 x2 : Int32) : Nat := if ix x0 (c_np S) = true then (if ix x1 10 = true then (if inR x2 (nI 1) (nI 24) = true then 0 else 2) else 1) else 1
def r_practise (S : cs_S) (x0 : Int32) : Int32 := nI (fb_ct (inP S (toN x0)) (c_ns S))
def S_practise (S : cs_S) (x0 x1 x2 : Int32) : cs_S := s_hrs S (trn S (toN x0) (toN x1) x2 (c_ns S))
def k_away (S : cs_S) (x0 x1 : Int32) : Nat := if ix x0 (c_ns S) = true then (if ix x1 (c_nb S) = true then 0 else 1) else 1
def r_away (S : cs_S) (x0 x1 : Int32) : Int32 := dist S (toN x0) (toN x1)
def k_earn (S : cs_S) (x0 x1 : Int32) : Nat := if ix x0 (c_ns S) = true then (if ix x1 (c_nb S) = true then (if dist S (toN x0) (toN x1) = 0 then 0 else 2) else 1) else 1
def nbad (S : cs_S) (u b : Nat) : Int32 := c_bad S u ||| nI (2 ^ b)
def badN (x : Int32) : Nat := x.toBitVec.toNat
def r_earn (S : cs_S) (x0 x1 : Int32) : Int32 := nI (popc (badN (nbad S (toN x0) (toN x1))))
def S_earn (S : cs_S) (x0 x1 : Int32) : cs_S := s_bad S (upd (c_bad S) (toN x0) (nbad S (toN x0) (toN x1)))
def k_hike (S : cs_S) (y : Int64) (x1 x2 : Int32) : Nat := if y = lN 0 then 1 else if y &&& ((lN (2 ^ c_ns S) - lN 1) ^^^ (-1)) = lN 0 then (if inR x1 (nI 1) (nI 50) = true then (if inR x2 (nI 0) (nI 3000) = true then (if y &&& lN (bs (oldS S (nI 14)) (c_ns S)) = lN 0 then 2 else if y &&& lN (bs (sklS S 1) (c_ns S)) = lN 0 then 2 else 0) else 1) else 1) else 1
def walkS (S : cs_S) (y : Int64) (x1 x2 : Int32) : Int32 := slowS S y (c_ns S) * x1 + x2 / nI 100 * nI 10
def r_hike (S : cs_S) (y : Int64) (x1 x2 : Int32) : Int32 := walkS S y x1 x2 + walkS S y x1 x2 / nI 60 * nI 5
def k_end (S : cs_S) : Nat := if c_day S < 60 then 0 else 1
def S_end (S : cs_S) : cs_S := s_day (s_eat (s_me S 0) (fun _ => false)) (c_day S + 1)
theorem tn {j : Nat} (h : j < 2 ^ 31) : toN (nI j) = j := nI_clamp h
theorem toN_m1 : toN (-1) = 0 := by decide
theorem c_sl_new {S : cs_S} {f g h : Nat → Int32} (hI : Inv S) : c_sl (s_ten (s_ns (s_skl (s_age (s_pat S f) g) h) (c_ns S + 1)) (upd (c_ten S) (c_ns S) (-1))) = c_sl S := by
  funext j
  unfold c_sl
  by_cases h10 : j < 10
  · rw [if_pos h10, if_pos h10]
    congr 1
    show bs (fun s => decide (upd (c_ten S) (c_ns S) (-1) s = nI j)) (c_ns S + 1) = _
    have e : bs (fun s => decide (upd (c_ten S) (c_ns S) (-1) s = nI j)) (c_ns S + 1) = bs (fun s => decide (upd (c_ten S) (c_ns S) (-1) s = nI j)) (c_ns S) + (if decide (upd (c_ten S) (c_ns S) (-1) (c_ns S) = nI j) = true then 2 ^ c_ns S else 0) := rfl
    rw [e, pk_us, decide_eq_false (nI_m1 (by omega))]
    simp only [Bool.false_eq_true, if_false, Nat.add_zero]
    apply bs_cong
    intro i hi
    rw [pk_un (by omega)]
    rfl
  · rw [if_neg h10, if_neg h10]
theorem c_at_new {S : cs_S} (hI : Inv S) : lN (bs (c_eat S) (c_ns S + 1)) = c_at S := by
  unfold c_at
  congr 1
  show bs (c_eat S) (c_ns S) + _ = _
  have h : c_eat S (c_ns S) = false := by
    cases he : c_eat S (c_ns S) with
    | false => rfl
    | true => exact absurd (hI.2.2.2.2.2.2.1 _ he) (Nat.lt_irrefl _)
  rw [if_neg (by rw [h]; decide)]
  rfl
theorem enrol_w {a : Nat → Nat} {k : Nat → ClassId} {S : cs_S} {f g h : Nat → Int32} (hI : Inv S) : cb_W a k (s_ns (s_skl (s_age (s_pat S f) g) h) (c_ns S + 1)) (c_sl S) (c_pt S) (c_at S) = cb_w a k (s_ten (s_ns (s_skl (s_age (s_pat S f) g) h) (c_ns S + 1)) (upd (c_ten S) (c_ns S) (-1))) := by
  show _ = cb_W a k _ (c_sl _) (c_pt S) (lN (bs (c_eat S) (c_ns S + 1)))
  rw [c_sl_new hI, c_at_new hI]
  rfl
theorem ten_twice {S : cs_S} {u : Nat} {x y : Int32} : s_ten (s_ten S (upd (c_ten S) u y)) (upd (c_ten (s_ten S (upd (c_ten S) u y))) u x) = s_ten S (upd (c_ten S) u x) := by
  show s_ten S (upd (upd (c_ten S) u y) u x) = _
  rw [fa_upd_twice]
theorem inv_leave {S : cs_S} {u : Nat} (hI : Inv S) : Inv (s_ten S (upd (c_ten S) u (-1))) := by
  obtain ⟨h1, h2, h3, h4, h5, h6, h7, h8, h9, h10, h11, h12⟩ := hI
  refine ⟨h1, h2, h3, fun v hv => ?_, fun t ht => ?_, h6, h7, h8, h9, h10, h11, h12⟩
  · by_cases e : v = u
    · subst e; exact Or.inl pk_us
    · rcases h4 v hv with q | ⟨t, q1, q2⟩
      · exact Or.inl ((pk_un e).trans q)
      · exact Or.inr ⟨t, q1, (pk_un e).trans q2⟩
  · refine Nat.le_trans (fb_ct_sub (fun s _ hs => ?_)) (h5 t ht)
    have h := of_decide_eq_true hs
    have h' : upd (c_ten S) u (-1) s = nI t := h
    by_cases e : s = u
    · subst e
      rw [pk_us] at h'
      exact absurd h' (nI_m1 (by have := h1.2.2.2.1; have : t < c_nt S := ht; omega))
    · rw [pk_un e] at h'
      exact decide_eq_true h'
theorem cw_serve {a : Nat → Nat} {k : Nat → ClassId} {S : cs_S} {n : Nat} {f : Nat → Bool} {d : Nat} : cb_W a k (s_day (s_eat (s_me S n) f) d) (c_sl (s_eat (s_me S n) f)) (c_pt (s_eat (s_me S n) f)) (c_at (s_eat (s_me S n) f)) = cb_w a k (s_day (s_eat (s_me S n) f) d) := rfl
theorem badlt {S : cs_S} (hI : Inv S) {u b : Nat} (hb : b < 8) : ∃ x, x < 256 ∧ nbad S u b = nI x := by
  obtain ⟨x, hx, e⟩ := hI.2.2.2.2.2.2.2.2.2.1 u
  have h8 : c_nb S ≤ 8 := hI.1.2.2.2.2.2.2.1
  have hx8 : x < 2 ^ 8 := Nat.lt_of_lt_of_le hx (Nat.pow_le_pow_right (by omega) h8)
  refine ⟨x ||| 2 ^ b, Nat.or_lt_two_pow hx8 (Nat.pow_lt_pow_right (by omega) hb), ?_⟩
  unfold nbad
  rw [e, fa_or]
theorem badN_nI {x : Nat} (h : x < 256) : badN (nI x) = x := pk_tn (by omega)
end CBQ
