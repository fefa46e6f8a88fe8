/-! a call that may refuse: the state behind it -/
section CBN
def kS (n : Nat) (T S : cs_S) : cs_S := if n = 0 then T else S
theorem kS_0 {T S : cs_S} : kS 0 T S = T := rfl
theorem i2dz {x : Int32} (h : x ≠ 0) : ¬ Jvm.FP.Core.DZero (FP.i2d x) := fun q => Jvm.FP.Core.i2d_ne_zero h ((Jvm.FP.Core.zero_bits2 _).mp q)
/-- the mean of the ages is a number -/
theorem mean_num {x y : Int32} (h : y ≠ 0) : vf_n64 (FP.ddiv (FP.i2d x) (FP.i2d y)) := by
  have h1 : Jvm.FP.Core.dIsNaN (FP.ddiv (FP.i2d x) (FP.i2d y)) = false := Jvm.FP.Core.ddiv_out ((Jvm.FP.Core.notNaN_iff _).mpr (Jvm.FP.Core.i2d_fin x).ne_nan) (Jvm.FP.Core.i2d_fin y) (i2dz h)
  revert h1
  generalize FP.ddiv (FP.i2d x) (FP.i2d y) = r
  intro h1
  unfold vf_n64
  rw [UInt64.le_iff_toNat_le, UInt64.toNat_and]
  have e : (0x7fffffffffffffff : UInt64).toNat = 2 ^ 63 - 1 := by decide
  have e2 : (0x7ff0000000000000 : UInt64).toNat = 2047 * 2 ^ 52 := by decide
  rw [e, e2, Nat.and_two_pow_sub_one_eq_mod]
  exact Nat.le_trans ((Jvm.FP.Core.ne_nan _).mp ((Jvm.FP.Core.notNaN_iff _).mp h1)) (by decide)
theorem ns_nz {n : Nat} (hn : n ≤ 30) (h : n ≠ 0) : nI n ≠ 0 := fun q => h ((nI_eq (by omega) (by omega)).mp q)
def mean (S : cs_S) : UInt64 := if c_ns S = 0 then FP.dconst0 else FP.ddiv (FP.i2d (sm (c_age S) (c_ns S))) (FP.i2d (nI (c_ns S)))
theorem mean_0 {S : cs_S} (h : c_ns S = 0) : mean S = FP.dconst0 := if_pos h
theorem mean_n {S : cs_S} (h : ¬ c_ns S = 0) : mean S = FP.ddiv (FP.i2d (sm (c_age S) (c_ns S))) (FP.i2d (nI (c_ns S))) := if_neg h
/-- what the hike asks, step by step -/
def eldK (S : cs_S) (y : Int64) (k : Nat) : Bool := ex (fun s => !decide (y &&& lN (2 ^ s) = lN 0) && oldS S (nI 14) s) k
def sk1K (S : cs_S) (y : Int64) (k : Nat) : Bool := ex (fun s => !decide (y &&& lN (2 ^ s) = lN 0) && sklS S 1 s) k
theorem eldK_f {S : cs_S} {y : Int64} {k : Nat} (h : y &&& lN (2 ^ k) = lN 0) : eldK S y k = eldK S y (k + 1) := by
  show _ = (eldK S y k || (!decide _ && _))
  rw [decide_eq_true h]
  exact (Bool.or_false _).symm
theorem sk1K_f {S : cs_S} {y : Int64} {k : Nat} (h : y &&& lN (2 ^ k) = lN 0) : sk1K S y k = sk1K S y (k + 1) := by
  show _ = (sk1K S y k || (!decide _ && _))
  rw [decide_eq_true h]
  exact (Bool.or_false _).symm
theorem eldK_t {S : cs_S} {y : Int64} {k : Nat} (h : ¬ y &&& lN (2 ^ k) = lN 0) : eldK S y (k + 1) = (eldK S y k || oldS S (nI 14) k) := by
  show (eldK S y k || (!decide _ && _)) = _
  rw [decide_eq_false h]
  rfl
theorem sk1K_t {S : cs_S} {y : Int64} {k : Nat} (h : ¬ y &&& lN (2 ^ k) = lN 0) : sk1K S y (k + 1) = (sk1K S y k || sklS S 1 k) := by
  show (sk1K S y k || (!decide _ && _)) = _
  rw [decide_eq_false h]
  rfl
theorem skl1 {S : cs_S} {k : Nat} : sklS S 1 k = bt (c_skl S k) 1 := by
  unfold sklS
  cases h : bt (c_skl S k) 1 with
  | false => rw [decide_eq_true ((andbit (by omega)).mpr h)]; rfl
  | true => rw [decide_eq_false (fun q => by rw [(andbit (by omega)).mp q] at h; exact absurd h (by decide))]; rfl
theorem and1_or (x : Int32) : x &&& nI 1 = nI 0 ∨ x &&& nI 1 = nI 1 := by
  obtain ⟨j, hj, e⟩ := pk_andE x (m := nI 1) 1 (by decide)
  rw [e]
  rcases (show j = 0 ∨ j = 1 by omega) with q | q <;> subst q
  · exact Or.inl rfl
  · exact Or.inr rfl
theorem pace_m {S : cs_S} {s : Nat} : (nI 12 + cMax (nI 0) (nI 14 - c_age S s)) - nI 2 * (c_skl S s &&& nI 1) = paceS S s := by
  unfold paceS
  generalize nI 12 + cMax (nI 0) (nI 14 - c_age S s) = v
  rcases and1_or (c_skl S s) with q | q
  · rw [q, if_pos (show nI 0 = 0 from rfl)]
    show v - 0 = v
    exact Int32.sub_zero v
  · rw [q, if_neg (by decide)]
    rfl
theorem slow_f {S : cs_S} {y : Int64} {k : Nat} (h : y &&& lN (2 ^ k) = lN 0) : slowS S y k = slowS S y (k + 1) := (if_pos h).symm
theorem slow_t {S : cs_S} {y : Int64} {k : Nat} (h : ¬ y &&& lN (2 ^ k) = lN 0) : cMax (slowS S y k) ((nI 12 + cMax (nI 0) (nI 14 - c_age S k)) - nI 2 * (c_skl S k &&& nI 1)) = slowS S y (k + 1) := by
  rw [pace_m]
  exact (if_neg h).symm
theorem ss_nsten {S : cs_S} {n : Nat} {f : Nat → Int32} : s_ten (s_ns S n) f = s_ns (s_ten S f) n := rfl
theorem ss_eatme {S : cs_S} {n : Nat} {f : Nat → Bool} : s_eat (s_me S n) f = s_me (s_eat S f) n := rfl
theorem ss_end {S : cs_S} {n d : Nat} {f : Nat → Bool} : s_day (s_eat (s_me S n) f) d = s_eat (s_me (s_day S d) n) f := rfl
theorem ss_eat0 {S T : cs_S} {f : Nat → Bool} (h : f = c_eat T) : s_eat T f = T := by
  subst h
  rfl
theorem eat_in {S : cs_S} {f : Nat → Int32} {mm : Nat} : s_eat (s_sto S f) (eatK S mm 0) = s_sto S f := ss_eat0 (S := S) (eatK_0).symm
theorem end_in {S : cs_S} {d n : Nat} : s_eat (s_me (s_day S d) n) (endK S 0) = s_me (s_day S d) n := ss_eat0 (S := S) (endK_0).symm
theorem eatK_i {S : cs_S} {mm i : Nat} : eatK S mm i i = c_eat S i := by simp [eatK]
theorem inv_se {S : cs_S} {f : Nat → Int32} {mm k : Nat} (hI : Inv S) (hk : k ≤ c_ns S) : Inv (s_eat (s_sto S f) (eatK S mm k)) := by
  obtain ⟨h1, h2, h3, h4, h5, h6, h7, h8, h9, h10, h11, h12⟩ := hI
  refine ⟨h1, h2, h3, h4, h5, h6, fun u hu => ?_, h8, h9, h10, h11, h12⟩
  have hu2 : (c_eat S u || (decide (u < k) && canE S mm u)) = true := hu
  show u < c_ns S
  rcases (Bool.or_eq_true _ _).mp hu2 with q | q
  · exact h7 u q
  · have := of_decide_eq_true ((Bool.and_eq_true _ _).mp q).1
    omega
theorem khA {S : cs_S} {y : Int64} {x1 x2 : Int32} (h : y = lN 0 ∨ ¬ y &&& ((lN (2 ^ c_ns S) - lN 1) ^^^ (-1)) = lN 0) : k_hike S y x1 x2 = 1 := by
  unfold k_hike
  by_cases h0 : y = lN 0
  · exact if_pos h0
  · rw [if_neg h0]
    exact if_neg (h.resolve_left h0)
theorem khB {S : cs_S} {y : Int64} (hns : c_ns S ≤ 30) (h1 : ¬ y ≤ lN 0) (h2 : y >>> ((nI (c_ns S)).toInt64 &&& 63) = lN 0) : ¬ y = lN 0 ∧ y &&& ((lN (2 ^ c_ns S) - lN 1) ^^^ (-1)) = lN 0 := by
  have h := (l_there (y := y) hns).mpr
  refine ⟨fun q => ?_, ?_⟩
  · rcases h (Or.inl q) with z | z
    · exact h1 z
    · exact z h2
  · apply Classical.byContradiction
    intro q
    rcases h (Or.inr q) with z | z
    · exact h1 z
    · exact z h2
end CBN
