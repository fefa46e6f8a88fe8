/-! the calls as functions of the state: the code that is thrown (0 for none), the answer, the state behind it -/
section CBO
def fct (S : cs_S) (u w : Nat) : Int32 := match w with
  | 0 => c_pat S u
  | 1 => c_age S u
  | 2 => c_skl S u
  | 3 => c_ref S u
  | 4 => c_ten S u
  | 5 => c_bad S u
  | _ => allH S u
def cnts (S : cs_S) (w : Nat) : Int32 := match w with
  | 0 => nI (c_np S)
  | 1 => nI (c_ns S)
  | 2 => nI (c_nt S)
  | 3 => nI (c_out S)
  | 4 => nI (c_nf S)
  | 5 => nI (c_nm S)
  | _ => nI (c_nb S)
def c_hung (S : cs_S) : Nat := fb_ct (fun s => !c_eat S s) (c_ns S)
def mix (d x : Int64) : Int64 := d * 31 + x
def mixF (f : Nat → Int32) (d : Int64) : Nat → Int64
  | 0 => d
  | j + 1 => mix (mixF f d j) (f j).toInt64
def mixG (f : Nat → Int64) (d : Int64) : Nat → Int64
  | 0 => d
  | j + 1 => mix (mixG f d j) (f j)
def mixS (S : cs_S) (d : Int64) : Nat → Int64
  | 0 => d
  | u + 1 => mixF (fct S u) (mixS S d u) 7
theorem mixS_s {S : cs_S} {d : Int64} {u : Nat} : mixF (fct S u) (mixS S d u) 7 = mixS S d (u + 1) := rfl
def setE (S : cs_S) : Nat → Int64 := fun mm => lN (bs (canE S mm) (c_ns S))
def setT (S : cs_S) : Nat → Int64 := fun t => lN (bs (inT S t) (c_ns S))
def holF (S : cs_S) : Nat → Int32 := fun q => c_hld S (c_day S * 5 + q)
def dig (S : cs_S) : Int64 := mix (mix (mixG (setE S) (mixF (c_sto S) (mixF (holF S) (mixG (setT S) (mixS S (mixF (pts S) (mixF (cnts S) (mix 353 (nI (c_day S)).toInt64) 7) (c_np S)) (c_ns S)) (c_nt S)) 5) (c_nf S)) (c_nm S)) (nI (c_hung S)).toInt64) (nI (c_me S)).toInt64
def px (L : List String) (kk : Nat) (E : String) : Prop := 0 < kk ∧ L[kk - 1]? = some E
theorem px_of {L : List String} {kk n : Nat} {E : String} (h : kk = n + 1) (hl : L[n]? = some E) : px L kk E := by subst h; exact ⟨Nat.succ_pos n, hl⟩
theorem ix_t {x : Int32} {n : Nat} (h : ix x n = true) (hn : n < 2 ^ 31) : ∃ j, j < n ∧ x = nI j := by
  have h1 := of_decide_eq_true h
  have h2 : ¬ x < 0 := fun q => by
    have := (fa_lt _ _).mp q
    have h0 : (0 : Int32).toInt = 0 := by decide
    omega
  obtain ⟨j, hj, e⟩ := nI_of h2
  subst e
  rw [nI_toInt hj] at h1
  exact ⟨j, by omega, rfl⟩
theorem ix_nI {j n : Nat} (hj : j < n) (hn : n ≤ 2 ^ 31) : ix (nI j) n = true := by
  unfold ix
  rw [nI_toInt (by omega)]
  exact decide_eq_true (by omega)
theorem ix_ok {x : Int32} {n : Nat} (hn : n < 2 ^ 31) (h1 : ¬ x < 0) (h2 : x < nI n) : ix x n = true := by
  unfold ix
  have a := (fa_lt _ _).mp h2
  rw [nI_toInt hn] at a
  have b : 0 ≤ x.toInt := by
    have := mt (fa_lt _ _).mpr h1
    have h0 : (0 : Int32).toInt = 0 := by decide
    omega
  exact decide_eq_true ⟨b, a⟩
theorem ix_no1 {x : Int32} {n : Nat} (h : x < 0) : ix x n = false := by
  unfold ix
  have := (fa_lt _ _).mp h
  have h0 : (0 : Int32).toInt = 0 := by decide
  exact decide_eq_false (by omega)
theorem ix_no2 {x : Int32} {n : Nat} (hn : n < 2 ^ 31) (h : ¬ x < nI n) : ix x n = false := by
  unfold ix
  have := mt (fa_lt _ _).mpr h
  rw [nI_toInt hn] at this
  exact decide_eq_false (by omega)
theorem inR_ok {x a b : Int32} (h1 : ¬ x < a) (h2 : x ≤ b) : inR x a b = true := decide_eq_true ⟨Int32.not_lt.mp h1, h2⟩
theorem inR_no1 {x a b : Int32} (h : x < a) : inR x a b = false := decide_eq_false (fun q => absurd q.1 (Int32.not_le.mpr h))
theorem inR_no2 {x a b : Int32} (h : ¬ x ≤ b) : inR x a b = false := decide_eq_false (fun q => h q.2)
theorem inR_t {x a b : Int32} (h : inR x a b = true) : a ≤ x ∧ x ≤ b := of_decide_eq_true h
theorem ind_sum (x : Int32) : ∀ m : Nat, m ≤ 2 ^ 30 → (∀ t, t < m → ¬ x = nI t) → fb_sm (fun t => if decide (x = nI t) = true then 1 else 0) m = 0
  | 0, _, _ => rfl
  | m + 1, hm, h => by
    rw [fb_sm_succ, ind_sum x m (by omega) (fun t ht => h t (by omega)), decide_eq_false (h m (by omega))]
    rfl
theorem ind_sum1 {t0 : Nat} : ∀ m : Nat, m ≤ 2 ^ 30 → t0 < m → fb_sm (fun t => if decide (nI t0 = nI t) = true then 1 else 0) m = 1
  | 0, _, h => absurd h (Nat.not_lt_zero _)
  | m + 1, hm, h => by
    rw [fb_sm_succ]
    by_cases e : t0 = m
    · subst e
      rw [ind_sum (nI t0) t0 (by omega) (fun t ht q => absurd ((nI_eq (by omega) (by omega)).mp q) (by omega)), decide_eq_true rfl]
      rfl
    · rw [ind_sum1 m (by omega) (by omega), decide_eq_false (fun q => e ((nI_eq (by omega) (by omega)).mp q))]
      rfl
theorem out_sum {S : cs_S} (hnt : c_nt S ≤ 10) : ∀ n : Nat, (∀ u, u < n → vten S u) → fb_sm (fun t => fb_ct (inT S t) n) (c_nt S) + fb_ct (fun s => decide (c_ten S s = -1)) n = n
  | 0, _ => by
    have : ∀ m, fb_sm (fun t => fb_ct (inT S t) 0) m = 0 := by
      intro m
      induction m with
      | zero => rfl
      | succ m ih => rw [fb_sm_succ, ih]; rfl
    rw [this]
    rfl
  | n + 1, h => by
    have ih := out_sum hnt n (fun u hu => h u (by omega))
    have e1 : fb_sm (fun t => fb_ct (inT S t) (n + 1)) (c_nt S) = fb_sm (fun t => fb_ct (inT S t) n) (c_nt S) + fb_sm (fun t => if decide (c_ten S n = nI t) = true then 1 else 0) (c_nt S) := by
      rw [← fb_sm_add]
      exact fb_sm_cong (fun t _ => by rw [fb_ct_succ]; rfl)
    rw [e1, fb_ct_succ]
    rcases h n (by omega) with q | ⟨t, ht, q⟩
    · rw [q, ind_sum (-1) (c_nt S) (by omega) (fun t ht => nI_m1 (by omega)), decide_eq_true rfl]
      simp only [if_true]
      omega
    · rw [q, ind_sum1 (c_nt S) (by omega) ht, decide_eq_false (fun e => nI_m1 (by omega) e.symm)]
      have : (if false = true then 1 else 0 : Nat) = 0 := rfl
      rw [this]
      omega
theorem out_eq {S : cs_S} (hI : Inv S) : nI (c_ns S) - nI (fb_sm (cntT S) (c_nt S)) = nI (c_out S) := by
  have h := out_sum hI.1.2.2.2.1 (c_ns S) hI.2.2.2.1
  have e : fb_sm (cntT S) (c_nt S) = fb_sm (fun t => fb_ct (inT S t) (c_ns S)) (c_nt S) := rfl
  rw [e, pk_sub (by omega)]
  congr 1
  unfold c_out
  omega
theorem hung_eq {S : cs_S} (hns : c_ns S ≤ 30) : nI (c_ns S) - nI (popc (bs (c_eat S) (c_ns S))) = nI (c_hung S) := by
  rw [popc_bs (by omega)]
  have h := fb_ct_not (c_eat S) (c_ns S)
  rw [pk_sub (by omega)]
  congr 1
  unfold c_hung
  omega
end CBO
