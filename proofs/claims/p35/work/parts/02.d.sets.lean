/-! sets as numbers -/
section CBS2
theorem cb_shl {k : Nat} (hk : k < 64) : lN 1 <<< ((nI k).toInt64 &&& 63) = lN (2 ^ k) := by
  rw [wb_shl 1 hk, Nat.one_mul]
theorem bs_lt (p : Nat → Bool) : ∀ n, bs p n < 2 ^ n
  | 0 => by simp [bs]
  | n + 1 => by
    have h := bs_lt p n
    have e : 2 ^ (n + 1) = 2 ^ n + 2 ^ n := by rw [Nat.pow_succ]; omega
    unfold bs
    split <;> omega
theorem bs_bit (p : Nat → Bool) : ∀ n i, (bs p n).testBit i = (decide (i < n) && p i)
  | 0, i => by simp [bs]
  | n + 1, i => by
    have ih := bs_bit p n i
    have hl := bs_lt p n
    unfold bs
    by_cases hp : p n = true
    · rw [if_pos hp, Nat.add_comm]
      by_cases hi : i < n
      · rw [Nat.testBit_two_pow_add_gt hi, ih]
        simp [hi, Nat.lt_succ_of_lt hi]
      · by_cases he : i = n
        · subst he
          rw [Nat.testBit_two_pow_add_eq, ih]
          simp [hp]
        · have h2 : 2 ^ n + bs p n < 2 ^ i := by
            have : 2 ^ (n + 1) ≤ 2 ^ i := Nat.pow_le_pow_right (by omega) (by omega)
            have e : 2 ^ (n + 1) = 2 ^ n + 2 ^ n := by rw [Nat.pow_succ]; omega
            omega
          rw [Nat.testBit_lt_two_pow h2]
          simp [show ¬ i < n + 1 by omega]
    · rw [if_neg hp, Nat.add_zero, ih]
      by_cases he : i = n
      · subst he; simp [hp]
      · by_cases hi : i < n
        · simp [hi, Nat.lt_succ_of_lt hi]
        · simp [hi, show ¬ i < n + 1 by omega]
theorem bs_t {p : Nat → Bool} {k : Nat} (h : p k = true) : lN (bs p k) ||| lN (2 ^ k) = lN (bs p (k + 1)) := by
  rw [fb_orL]
  congr 1
  have e : 2 ^ k ||| bs p k = 2 ^ k + bs p k := by
    have := Nat.two_pow_add_eq_or_of_lt (bs_lt p k) 1
    rw [Nat.mul_one] at this
    exact this.symm
  rw [Nat.or_comm, e]
  show _ = bs p k + (if p k = true then 2 ^ k else 0)
  rw [if_pos h, Nat.add_comm]
theorem bs_f {p : Nat → Bool} {k : Nat} (h : p k = false) : lN (bs p k) = lN (bs p (k + 1)) := by
  congr 1
  show _ = bs p k + (if p k = true then 2 ^ k else 0)
  rw [if_neg (by rw [h]; decide)]
  rfl
theorem bs_cong {p q : Nat → Bool} : ∀ {n : Nat}, (∀ k, k < n → p k = q k) → bs p n = bs q n
  | 0, _ => rfl
  | n + 1, h => by
    unfold bs
    rw [bs_cong (fun k hk => h k (Nat.lt_succ_of_lt hk)), h n (Nat.lt_succ_self n)]
theorem bs_eq_of_bits {x n : Nat} {p : Nat → Bool} (h : ∀ i, x.testBit i = (decide (i < n) && p i)) : x = bs p n := Nat.eq_of_testBit_eq (fun i => by rw [h, bs_bit])
theorem bs_and (p q : Nat → Bool) (n : Nat) : bs p n &&& bs q n = bs (fun i => p i && q i) n := bs_eq_of_bits (fun i => by
  rw [Nat.testBit_and, bs_bit, bs_bit]
  cases decide (i < n) <;> simp)
theorem bs_zero {p : Nat → Bool} {n : Nat} : bs p n = 0 ↔ ∀ i, i < n → p i = false := by
  constructor
  · intro h i hi
    have := bs_bit p n i
    rw [h] at this
    simp [hi] at this
    exact this
  · intro h
    apply Nat.eq_of_testBit_eq
    intro i
    rw [bs_bit]
    by_cases hi : i < n
    · simp [h i hi]
    · simp [hi]
/-- one bit asked -/
theorem bs_ask {p : Nat → Bool} {n i : Nat} (hn : n ≤ 62) (hi : i < n) : lN (bs p n) &&& lN (2 ^ i) = lN 0 ↔ p i = false := by
  have h := fb_bitL (n := bs p n) (j := i) (by omega)
  rw [bs_bit, decide_eq_true hi, Bool.true_and] at h
  exact h
theorem bs_ask_t {p : Nat → Bool} {n i : Nat} (hn : n ≤ 62) (hi : i < n) (h : ¬ lN (bs p n) &&& lN (2 ^ i) = lN 0) : p i = true := by
  cases hp : p i with
  | true => rfl
  | false => exact absurd ((bs_ask hn hi).mpr hp) h
theorem al_f {p : Nat → Bool} : ∀ {n j : Nat}, j < n → p j = false → al p n = false
  | 0, j, h, _ => absurd h (Nat.not_lt_zero j)
  | n + 1, j, h, hp => by
    unfold al
    rcases Nat.lt_or_eq_of_le (Nat.le_of_lt_succ h) with q | q
    · rw [al_f q hp]; rfl
    · subst q; rw [hp]; exact Bool.and_false _
theorem al_t {p : Nat → Bool} : ∀ {n : Nat}, (∀ j, j < n → p j = true) → al p n = true
  | 0, _ => rfl
  | n + 1, h => by
    unfold al
    rw [al_t (fun j hj => h j (Nat.lt_succ_of_lt hj)), h n (Nat.lt_succ_self n)]
    rfl
theorem al_all {p : Nat → Bool} {n : Nat} (h : al p n = true) {j : Nat} (hj : j < n) : p j = true := by
  cases hp : p j with
  | true => rfl
  | false => rw [al_f hj hp] at h; exact absurd h (by decide)
theorem ex_t {p : Nat → Bool} : ∀ {n j : Nat}, j < n → p j = true → ex p n = true
  | 0, j, h, _ => absurd h (Nat.not_lt_zero j)
  | n + 1, j, h, hp => by
    unfold ex
    rcases Nat.lt_or_eq_of_le (Nat.le_of_lt_succ h) with q | q
    · rw [ex_t q hp]; rfl
    · subst q; rw [hp]; exact Bool.or_true _
theorem ex_f {p : Nat → Bool} : ∀ {n : Nat}, (∀ j, j < n → p j = false) → ex p n = false
  | 0, _ => rfl
  | n + 1, h => by
    unfold ex
    rw [ex_f (fun j hj => h j (Nat.lt_succ_of_lt hj)), h n (Nat.lt_succ_self n)]
    rfl
theorem ex_some {p : Nat → Bool} {n : Nat} (h : ex p n = true) : ∃ j, j < n ∧ p j = true := by
  apply Classical.byContradiction
  intro hc
  rw [ex_f (fun j hj => by
    cases hp : p j with
    | false => rfl
    | true => exact absurd ⟨j, hj, hp⟩ hc)] at h
  exact absurd h (by decide)
end CBS2
