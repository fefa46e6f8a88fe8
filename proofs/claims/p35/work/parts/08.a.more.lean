/-! sleeping, finding tents and duties: what they do to the state, and that the state stays sound -/
section CBZ
theorem inR_ex {x : Int32} {a b : Nat} (ha : a < 2 ^ 31) (hb : b < 2 ^ 31) (h : inR x (nI a) (nI b) = true) : ∃ d, a ≤ d ∧ d ≤ b ∧ x = nI d := by
  obtain ⟨h1, h2⟩ := inR_t h
  have h0 : ¬ x < 0 := fun q => by
    have h3 := (fa_lt _ _).mp (Int32.lt_of_le_of_lt h1 q)
    rw [nI_toInt ha] at h3
    have h0 : (0 : Int32).toInt = 0 := by decide
    omega
  obtain ⟨j, hj, e⟩ := nI_of h0
  subst e
  exact ⟨j, (nI_leI ha hj).mp h1, (nI_leI hj hb).mp h2, rfl⟩
theorem bT_can {S : cs_S} {u : Nat} : ∀ {i b : Nat}, bT S u i = some b → b < i ∧ canT S u b = true
  | 0, b, h => by simp [bT] at h
  | i + 1, b, h => by
    unfold bT at h
    split at h
    · next q => cases h; exact ⟨Nat.lt_succ_self _, q.2⟩
    · obtain ⟨h1, h2⟩ := bT_can h; exact ⟨Nat.lt_succ_of_lt h1, h2⟩
theorem bT_or {S : cs_S} {u : Nat} : oI (bT S u (c_nt S)) = -1 ∨ ∃ t, t < c_nt S ∧ oI (bT S u (c_nt S)) = nI t := by
  cases h : bT S u (c_nt S) with
  | none => exact Or.inl rfl
  | some b => exact Or.inr ⟨b, bT_lt h, rfl⟩
theorem bD_or {S : cs_S} {d q : Nat} : oI (bD S d q (c_np S)) = -1 ∨ ∃ t, t < c_np S ∧ oI (bD S d q (c_np S)) = nI t := by
  cases h : bD S d q (c_np S) with
  | none => exact Or.inl rfl
  | some b => exact Or.inr ⟨b, bD_lt h, rfl⟩
theorem ct_add1 {p q : Nat → Bool} {u : Nat} (h : ∀ s, s ≠ u → q s = true → p s = true) : ∀ n, fb_ct q n ≤ fb_ct p n + (if u < n then 1 else 0)
  | 0 => Nat.zero_le _
  | n + 1 => by
    have ih := ct_add1 h n
    rw [fb_ct_succ, fb_ct_succ]
    by_cases e : n = u
    · subst e
      rw [if_neg (Nat.lt_irrefl n)] at ih
      rw [if_pos (Nat.lt_succ_self n)]
      split <;> split <;> omega
    · have h1 : (if q n = true then 1 else 0) ≤ (if p n = true then 1 else 0 : Nat) := by
        by_cases hq : q n = true
        · rw [if_pos hq, if_pos (h n e hq)]; exact Nat.le_refl 1
        · rw [if_neg hq]; exact Nat.zero_le _
      by_cases hu : u < n
      · rw [if_pos hu] at ih
        rw [if_pos (show u < n + 1 by omega)]
        omega
      · rw [if_neg hu] at ih
        rw [if_neg (show ¬ u < n + 1 by omega)]
        omega
/-- a scout comes to another tent, or to none -/
theorem inv_ten {S : cs_S} {u : Nat} {x : Int32} (hI : Inv S) (hx : x = -1 ∨ ∃ t, t < c_nt S ∧ x = nI t ∧ canT S u t = true) : Inv (s_ten S (upd (c_ten S) u x)) := by
  obtain ⟨h1, h2, h3, h4, h5, h6, h7, h8, h9, h10, h11, h12⟩ := hI
  have hnt : c_nt S ≤ 10 := h1.2.2.2.1
  refine ⟨h1, h2, h3, fun v hv => ?_, fun t ht => ?_, h6, h7, h8, h9, h10, h11, h12⟩
  · by_cases e : v = u
    · subst e
      rcases hx with q | ⟨t, q1, q2, -⟩
      · exact Or.inl (pk_us.trans q)
      · exact Or.inr ⟨t, q1, pk_us.trans q2⟩
    · rcases h4 v hv with q | ⟨t, q1, q2⟩
      · exact Or.inl ((pk_un e).trans q)
      · exact Or.inr ⟨t, q1, (pk_un e).trans q2⟩
  · have ht' : t < c_nt S := ht
    have key : ∀ s, s ≠ u → inT (s_ten S (upd (c_ten S) u x)) t s = true → inT S t s = true := fun s hs hq => by
      have h : upd (c_ten S) u x s = nI t := of_decide_eq_true hq
      rw [pk_un hs] at h
      exact decide_eq_true h
    by_cases e : x = nI t
    · rcases hx with q | ⟨t0, q1, q2, q3⟩
      · exact absurd (q.symm.trans e) (nI_m1 (by omega))
      · have e0 : t0 = t := (nI_eq (by omega) (by omega)).mp (q2.symm.trans e)
        subst e0
        have h13 := ct_add1 (p := inT S t0) (q := inT (s_ten S (upd (c_ten S) u x)) t0) key (c_ns S)
        have h14 : nI (cntT S t0) < c_plc S t0 := of_decide_eq_true ((Bool.and_eq_true _ _).mp q3).1
        have h15 := Int32.lt_of_lt_of_le h14 (h6 t0 q1)
        have h16 : cntT S t0 < 8 := (nI_ltI (Nat.lt_of_le_of_lt (h5 t0 q1) (by omega)) (by omega)).mp h15
        have h17 : cntT (s_ten S (upd (c_ten S) u x)) t0 ≤ cntT S t0 + (if u < c_ns S then 1 else 0) := h13
        split at h17 <;> omega
    · refine Nat.le_trans (fb_ct_sub (fun s _ hq => ?_)) (h5 t ht')
      by_cases hs : s = u
      · subst hs
        have h : upd (c_ten S) s x s = nI t := of_decide_eq_true hq
        rw [pk_us] at h
        exact absurd h e
      · exact key s hs hq
theorem inv_hld {S : cs_S} {j : Nat} {x : Int32} (hI : Inv S) (hx : x = -1 ∨ ∃ p, p < c_np S ∧ x = nI p) : Inv (s_hld S (upd (c_hld S) j x)) := by
  obtain ⟨h1, h2, h3, h4, h5, h6, h7, h8, h9, h10, h11, h12⟩ := hI
  refine ⟨h1, h2, h3, h4, h5, h6, h7, h8, fun i hi => ?_, h10, h11, h12⟩
  by_cases e : i = j
  · subst e
    rcases hx with q | ⟨t, q1, q2⟩
    · exact Or.inl (pk_us.trans q)
    · exact Or.inr ⟨t, q1, pk_us.trans q2⟩
  · rcases h9 i hi with q | ⟨t, q1, q2⟩
    · exact Or.inl ((pk_un e).trans q)
    · exact Or.inr ⟨t, q1, (pk_un e).trans q2⟩
def ft1 (S : cs_S) (u : Nat) : cs_S := s_ten S (upd (c_ten S) u (oI (bT S u (c_nt S))))
def ftIn (S : cs_S) (g : Nat) : Nat → cs_S
  | 0 => S
  | u + 1 => if c_age (ftIn S g u) u = nI g ∧ c_ten (ftIn S g u) u = -1 then ft1 (ftIn S g u) u else ftIn S g u
def ftOut (S : cs_S) : Nat → cs_S
  | 0 => S
  | g + 1 => ftIn (ftOut S g) (17 - g) (c_ns S)
def S_findTents (S : cs_S) : cs_S := ftOut S 12
theorem inv_ft1 {S : cs_S} {u : Nat} (hI : Inv S) : Inv (ft1 S u) := inv_ten hI (by
  cases h : bT S u (c_nt S) with
  | none => exact Or.inl rfl
  | some b => exact Or.inr ⟨b, (bT_can h).1, rfl, (bT_can h).2⟩)
theorem ftIn_t {S T : cs_S} {g u : Nat} (h : T = ftIn S g u) (h1 : c_age T u = nI g) (h2 : c_ten T u = -1) : ft1 T u = ftIn S g (u + 1) := by
  subst h
  exact (if_pos ⟨h1, h2⟩).symm
theorem ftIn_f {S T : cs_S} {g u : Nat} (h : T = ftIn S g u) (h1 : ¬ (c_age T u = nI g ∧ c_ten T u = -1)) : T = ftIn S g (u + 1) := by
  subst h
  exact (if_neg h1).symm
theorem nI_dec {n : Nat} (h : n < 17) : nI (17 - n) + Int32.ofInt (-1) = nI (17 - (n + 1)) := by
  have h2 : ∀ j, j < 17 → nI (17 - j) + Int32.ofInt (-1) = nI (17 - (j + 1)) := by decide +kernel
  exact h2 n h
def dON (k : Nat) : Nat := match k with
  | 0 => 4
  | 1 => 2
  | 2 => 1
  | 3 => 0
  | _ => 3
theorem dO_nI (k : Nat) : dO k = nI (dON k) := by
  match k with
  | 0 => rfl
  | 1 => rfl
  | 2 => rfl
  | 3 => rfl
  | k + 4 => rfl
theorem dON_lt (k : Nat) : dON k < 5 := by
  match k with
  | 0 => decide
  | 1 => decide
  | 2 => decide
  | 3 => decide
  | k + 4 => exact (by decide : 3 < 5)
def fd1 (S : cs_S) (q : Nat) : cs_S := s_hld S (upd (c_hld S) (c_day S * 5 + q) (oI (bD S (c_day S) q (c_np S))))
def fdF (S : cs_S) : Nat → cs_S
  | 0 => S
  | i + 1 => if c_hld (fdF S i) (c_day (fdF S i) * 5 + dON i) = -1 then fd1 (fdF S i) (dON i) else fdF S i
def S_findDuties (S : cs_S) : cs_S := fdF S 5
def r_findDuties (S : cs_S) : Int32 := nI (fb_ct (opS (fdF S 5) (c_day (fdF S 5))) 5)
theorem inv_fd1 {S : cs_S} {q : Nat} (hI : Inv S) : Inv (fd1 S q) := inv_hld hI bD_or
theorem fdF_t {S T : cs_S} {i : Nat} (h : T = fdF S i) (h1 : c_hld T (c_day T * 5 + dON i) = -1) : fd1 T (dON i) = fdF S (i + 1) := by
  subst h
  exact (if_pos h1).symm
theorem fdF_f {S T : cs_S} {i : Nat} (h : T = fdF S i) (h1 : ¬ c_hld T (c_day T * 5 + dON i) = -1) : T = fdF S (i + 1) := by
  subst h
  exact (if_neg h1).symm
end CBZ
