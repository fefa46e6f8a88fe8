/-! the tents as functions of the state; what holds of every state that a run comes to -/
section CBI
def bitI (x : Int32) (i : Nat) : Bool := bt x i
def cntT (S : cs_S) (t : Nat) : Nat := fb_ct (inT S t) (c_ns S)
def agF (S : cs_S) (u t : Nat) : Nat → Bool := fun o => !(inT S t o) || decide (cAbs (c_age S o - c_age S u) ≤ nI 3)
def canT (S : cs_S) (u t : Nat) : Bool := decide (nI (cntT S t) < c_plc S t) && al (agF S u t) (c_ns S)
def matesU (S : cs_S) (u : Nat) : Nat → Bool := fun s => decide (c_pat S s = c_pat S u)
def rank (S : cs_S) (u t : Nat) : Nat := fb_ct (fun s => inT S t s && matesU S u s) (c_ns S) * 9 + cntT S t
def rkO (S : cs_S) (u : Nat) (o : Option Nat) : Int32 := match o with
  | none => -1
  | some b => nI (rank S u b)
def bT (S : cs_S) (u : Nat) : Nat → Option Nat
  | 0 => none
  | i + 1 => if ¬ nI (rank S u i) ≤ rkO S u (bT S u i) ∧ canT S u i = true then some i else bT S u i
def vten (S : cs_S) (u : Nat) : Prop := c_ten S u = -1 ∨ ∃ t, t < c_nt S ∧ c_ten S u = nI t
def c_out (S : cs_S) : Nat := fb_ct (fun s => decide (c_ten S s = -1)) (c_ns S)
def Inv (S : cs_S) : Prop :=
  (c_day S ≤ 60 ∧ c_np S ≤ 6 ∧ c_ns S ≤ 30 ∧ c_nt S ≤ 10 ∧ c_nf S ≤ 12 ∧ c_nm S ≤ 10 ∧ c_nb S ≤ 8 ∧ c_me S ≤ 3) ∧
  (∀ u, u < c_ns S → ∃ p, p < c_np S ∧ c_pat S u = nI p) ∧
  (∀ u, u < c_ns S → nI 6 ≤ c_age S u ∧ c_age S u ≤ nI 17) ∧
  (∀ u, u < c_ns S → vten S u) ∧
  (∀ t, t < c_nt S → cntT S t ≤ 8) ∧
  (∀ t, t < c_nt S → c_plc S t ≤ nI 8) ∧
  (∀ u, c_eat S u = true → u < c_ns S) ∧
  (∀ j, j < 120 → nI 0 ≤ c_ned S j) ∧
  (∀ j, j < 305 → c_hld S j = -1 ∨ ∃ p, p < c_np S ∧ c_hld S j = nI p) ∧
  (∀ u, ∃ x, x < 2 ^ c_nb S ∧ c_bad S u = nI x) ∧
  (∀ u, c_ns S ≤ u → c_bad S u = nI 0) ∧
  (∀ u b, u < c_ns S → b < c_nb S → bitI (c_bad S u) b = true → c_lag S b ≤ c_age S u)
theorem c_sl_at {S : cs_S} {t : Nat} (h : t < 10) : c_sl S t = lN (bs (inT S t) (c_ns S)) := if_pos h
theorem nI_m1 {t : Nat} (h : t < 2 ^ 31) : ¬ (-1 : Int32) = nI t := fun e => by
  have h1 := congrArg Int32.toInt e
  rw [nI_toInt h] at h1
  have h2 : (-1 : Int32).toInt = -1 := by decide
  omega
theorem lN_m1_bit (i : Nat) : ((-1 : Int64)).toBitVec.getLsbD i = decide (i < 64) := by
  have e : ((-1 : Int64)).toBitVec = BitVec.allOnes 64 := by decide
  rw [e, BitVec.getLsbD_allOnes]
theorem bs_andn {p : Nat → Bool} {n y : Nat} (hn : n ≤ 63) : lN (bs p n) &&& (lN y ^^^ (-1)) = lN (bs (fun i => p i && !y.testBit i) n) := by
  apply wb_inj
  rw [Int64.toBitVec_and, Int64.toBitVec_xor, wb_tb, wb_tb, wb_tb]
  apply BitVec.eq_of_getLsbD_eq
  intro i hi
  rw [BitVec.getLsbD_and, BitVec.getLsbD_xor, lN_m1_bit, BitVec.getLsbD_ofNat, BitVec.getLsbD_ofNat, BitVec.getLsbD_ofNat, bs_bit, bs_bit]
  simp only [hi, decide_true, Bool.true_and, Bool.xor_true]
  cases decide (i < n) <;> simp
theorem tb_pow (u i : Nat) : (2 ^ u).testBit i = decide (i = u) := by
  rw [Nat.testBit_two_pow]
  by_cases h : u = i
  · subst h; simp
  · rw [decide_eq_false h, decide_eq_false (fun e => h e.symm)]
theorem bs_or1 {p : Nat → Bool} {n u : Nat} (hu : u < n) : lN (bs p n) ||| lN (2 ^ u) = lN (bs (fun i => p i || decide (i = u)) n) := by
  rw [fb_orL]
  congr 1
  apply bs_eq_of_bits
  intro i
  rw [Nat.testBit_or, bs_bit, tb_pow]
  by_cases h : i = u
  · subst h; simp [hu]
  · simp [h]
theorem sl_leave {S : cs_S} {u t : Nat} (hu : u < c_ns S) (hn : c_ns S ≤ 30) (ht : t < 10) (h : c_ten S u = nI t) : vp_updL (c_sl S) t (c_sl S t &&& (lN (2 ^ u) ^^^ (-1))) = c_sl (s_ten S (upd (c_ten S) u (-1))) := by
  funext j
  unfold vp_updL
  by_cases hj : j = t
  · subst hj
    rw [if_pos rfl, c_sl_at ht, c_sl_at ht, bs_andn (by omega)]
    show _ = lN (bs (fun s => decide (upd (c_ten S) u (-1) s = nI j)) (c_ns S))
    congr 1
    apply bs_cong
    intro i hi
    rw [tb_pow]
    unfold inT upd
    by_cases hiu : i = u
    · subst hiu
      rw [if_pos rfl, decide_eq_false (nI_m1 (by omega))]
      simp
    · rw [if_neg hiu]
      simp [hiu]
  · rw [if_neg hj]
    unfold c_sl
    by_cases h10 : j < 10
    · rw [if_pos h10, if_pos h10]
      congr 1
      apply bs_cong
      intro i hi
      show decide (c_ten S i = nI j) = decide (upd (c_ten S) u (-1) i = nI j)
      unfold upd
      by_cases hiu : i = u
      · subst hiu
        rw [if_pos rfl, h, decide_eq_false (fun e => hj ((nI_eq (by omega) (by omega)).mp e).symm), decide_eq_false (nI_m1 (by omega))]
      · rw [if_neg hiu]
    · rw [if_neg h10, if_neg h10]
theorem sl_enter {S : cs_S} {u t : Nat} (hu : u < c_ns S) (hn : c_ns S ≤ 30) (ht : t < 10) (h : c_ten S u = -1) : vp_updL (c_sl S) t (c_sl S t ||| lN (2 ^ u)) = c_sl (s_ten S (upd (c_ten S) u (nI t))) := by
  funext j
  unfold vp_updL
  by_cases hj : j = t
  · subst hj
    rw [if_pos rfl, c_sl_at ht, c_sl_at ht, bs_or1 hu]
    show _ = lN (bs (fun s => decide (upd (c_ten S) u (nI j) s = nI j)) (c_ns S))
    congr 1
    apply bs_cong
    intro i hi
    unfold inT upd
    by_cases hiu : i = u
    · subst hiu
      simp
    · rw [if_neg hiu]
      simp [hiu]
  · rw [if_neg hj]
    unfold c_sl
    by_cases h10 : j < 10
    · rw [if_pos h10, if_pos h10]
      congr 1
      apply bs_cong
      intro i hi
      show decide (c_ten S i = nI j) = decide (upd (c_ten S) u (nI t) i = nI j)
      unfold upd
      by_cases hiu : i = u
      · subst hiu
        rw [if_pos rfl, h, decide_eq_false (fun e => hj ((nI_eq (by omega) (by omega)).mp e).symm), decide_eq_false (nI_m1 (by omega))]
      · rw [if_neg hiu]
    · rw [if_neg h10, if_neg h10]
theorem ten_same {S : cs_S} {u : Nat} {x : Int32} (h : c_ten S u = x) : s_ten S (upd (c_ten S) u x) = S := by rw [fa_upd_same h]; rfl
end CBI
