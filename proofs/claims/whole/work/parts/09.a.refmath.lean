/-! what the reference computes, and that it is the same -/
section CBM1
theorem inR_ixm (x : Int32) {m : Nat} (hm : m < 2 ^ 31) : inR x (nI 0) (nI m) = ix x (m + 1) := by
  unfold inR ix
  apply decide_eq_decide.mpr
  rw [fa_le, fa_le, nI_toInt (by omega), nI_toInt hm]
  omega
theorem inR_ix (x : Int32) {n : Nat} (hn : n < 2 ^ 31) : inR x (nI 0) (nI n - nI 1) = ix x n := by
  cases n with
  | zero =>
    unfold inR ix
    apply decide_eq_decide.mpr
    have h1 : (nI 0 - nI 1).toInt = -1 := by decide
    rw [fa_le, fa_le, nI_toInt (by omega), h1]
    omega
  | succ m =>
    rw [pk_sub (by omega)]
    exact inR_ixm x (by omega)
theorem bt_one {j : Nat} (hj : j < 32) : bt (nI 1) j = decide (j = 0) := by
  rw [bt_nI 1 hj]
  exact tb_pow 0 j
theorem sar_bit {x : Int32} {i : Nat} (hi : i < 32) : (x >>> (nI i &&& 31)) &&& nI 1 = nI (if bt x i = true then 1 else 0) := by
  apply b_ext
  intro j hj
  rw [b_and, b_sshr i hi x hj, bt_one hj]
  by_cases h0 : j = 0
  · subst h0
    rw [Nat.add_zero, if_pos hi]
    by_cases h : bt x i = true
    · rw [h, if_pos rfl, bt_one (by omega)]
      rfl
    · rw [if_neg h, Bool.eq_false_iff.mpr h]
      exact (b_0 0).symm
  · rw [decide_eq_false h0, Bool.and_false]
    by_cases h : bt x i = true
    · rw [if_pos h, bt_one hj, decide_eq_false h0]
    · rw [if_neg h]
      exact (b_0 j).symm
theorem sar0 {x : Int32} {i : Nat} (hi : i < 32) : (x >>> (nI i &&& 31)) &&& nI 1 = 0 ↔ bt x i = false := by
  rw [sar_bit hi]
  cases bt x i <;> decide
theorem sar1 {x : Int32} {i : Nat} (hi : i < 32) : (x >>> (nI i &&& 31)) &&& nI 1 = nI 1 ↔ bt x i = true := by
  rw [sar_bit hi]
  cases bt x i <;> decide
theorem bsA_t {p : Nat → Bool} {k : Nat} (h : p k = true) : lN (bs p k) + lN (2 ^ k) = lN (bs p (k + 1)) := by
  rw [lN_add]
  congr 1
  show _ = bs p k + (if p k = true then 2 ^ k else 0)
  rw [if_pos h]
theorem bsA_f {p : Nat → Bool} {k : Nat} (h : p k = false) : lN (bs p k) + lN 0 = lN (bs p (k + 1)) := by
  rw [lN_add]
  congr 1
  show _ = bs p k + (if p k = true then 2 ^ k else 0)
  rw [if_neg (by rw [h]; decide)]
/-- sleepers of a tent, of one patrol or of all -/
def slp (S : cs_S) (x y : Int32) : Nat → Bool := fun s => decide (c_ten S s = x) && (decide (y = -1) || decide (c_pat S s = y))
def mt (S : cs_S) (u t : Nat) : Nat := fb_ct (fun s => inT S t s && matesU S u s) (c_ns S)
theorem slp_in {S : cs_S} {t : Nat} : slp S (nI t) (-1) = inT S t := by
  funext s
  simp [slp, inT]
theorem slp_cnt {S : cs_S} {t : Nat} : fb_ct (slp S (nI t) (-1)) (c_ns S) = cntT S t := by rw [slp_in]; rfl
theorem slp_out {S : cs_S} : fb_ct (slp S (-1) (-1)) (c_ns S) = c_out S := by
  apply fb_ct_cong
  intro s _
  simp [slp]
theorem slp_mt {S : cs_S} {t u : Nat} (h : ¬ c_pat S u = -1) : fb_ct (slp S (nI t) (c_pat S u)) (c_ns S) = mt S u t := by
  apply fb_ct_cong
  intro s _
  simp [slp, inT, matesU, h]
theorem pat_no {S : cs_S} (hI : Inv S) {u : Nat} (hu : u < c_ns S) : ¬ c_pat S u = -1 := by
  obtain ⟨p, hp, e⟩ := hI.2.1 u hu
  have h6 := hI.1.2.1
  rw [e]
  exact fun q => nI_m1 (by omega) q.symm
def canK (S : cs_S) (u t k : Nat) : Bool := decide (nI (cntT S t) < c_plc S t) && al (agF S u t) k
theorem canK_s {S : cs_S} {u t k : Nat} : canK S u t (k + 1) = (canK S u t k && agF S u t k) := (Bool.and_assoc _ _ _).symm
theorem canK_0 {S : cs_S} {u t : Nat} : canK S u t 0 = decide (nI (cntT S t) < c_plc S t) := Bool.and_true _
theorem agF_out {S : cs_S} {u t o : Nat} (h : ¬ c_ten S o = nI t) : agF S u t o = true := by
  unfold agF inT
  rw [decide_eq_false h]
  rfl
theorem agF_t {S : cs_S} {u t o : Nat} (h : cAbs (c_age S o - c_age S u) ≤ nI 3) : agF S u t o = true := by
  unfold agF
  rw [decide_eq_true h, Bool.or_true]
theorem agF_f {S : cs_S} {u t o : Nat} (h1 : c_ten S o = nI t) (h : ¬ cAbs (c_age S o - c_age S u) ≤ nI 3) : agF S u t o = false := by
  unfold agF inT
  rw [decide_eq_true h1, decide_eq_false h]
  rfl
theorem mt_le {S : cs_S} {u t : Nat} : mt S u t ≤ c_ns S := fb_ct_le _ _
theorem cntT_le {S : cs_S} {t : Nat} : cntT S t ≤ c_ns S := fb_ct_le _ _
theorem rank_eq {S : cs_S} {u t : Nat} : rank S u t = mt S u t * 9 + cntT S t := rfl
theorem rk_none {S : cs_S} {u i : Nat} (hn : c_ns S ≤ 30) {o : Option Nat} (h : o = none) : ¬ nI (rank S u i) ≤ rkO S u o := by
  subst h
  intro q
  have h1 := (fa_le _ _).mp q
  have h2 : (rkO S u none).toInt = -1 := by show (-1 : Int32).toInt = -1; decide
  have h3 := mt_le (S := S) (u := u) (t := i)
  have h4 := cntT_le (S := S) (t := i)
  rw [nI_toInt (by rw [rank_eq]; omega), h2] at h1
  omega
theorem rk_some {S : cs_S} {u i b : Nat} (hn : c_ns S ≤ 30) {o : Option Nat} (h : o = some b) : nI (rank S u i) ≤ rkO S u o ↔ rank S u i ≤ rank S u b := by
  subst h
  have h3 := mt_le (S := S) (u := u) (t := i)
  have h4 := cntT_le (S := S) (t := i)
  have h5 := mt_le (S := S) (u := u) (t := b)
  have h6 := cntT_le (S := S) (t := b)
  exact nI_leI (by rw [rank_eq]; omega) (by rw [rank_eq]; omega)
theorem sub_pos {a b : Nat} (ha : a < 2 ^ 30) (hb : b < 2 ^ 30) : 0 < nI a - nI b ↔ b < a := by
  rw [fa_lt, pk_sub_toInt ha hb]
  have h0 : (0 : Int32).toInt = 0 := by decide
  rw [h0]
  omega
theorem sub_zero {a b : Nat} (ha : a < 2 ^ 30) (hb : b < 2 ^ 30) : nI a - nI b = 0 ↔ a = b := by
  rw [fa_eq, pk_sub_toInt ha hb]
  have h0 : (0 : Int32).toInt = 0 := by decide
  rw [h0]
  omega
theorem bT_yes {S : cs_S} {u i : Nat} (h1 : ¬ nI (rank S u i) ≤ rkO S u (bT S u i)) (h2 : canT S u i = true) : nI i = oI (bT S u (i + 1)) := by
  rw [show bT S u (i + 1) = some i from if_pos ⟨h1, h2⟩]
  rfl
theorem bT_no1 {S : cs_S} {u i : Nat} (h2 : canT S u i = false) : oI (bT S u i) = oI (bT S u (i + 1)) := by
  rw [show bT S u (i + 1) = bT S u i from if_neg (fun q => by rw [h2] at q; exact absurd q.2 (by decide))]
theorem bT_no2 {S : cs_S} {u i : Nat} (h1 : nI (rank S u i) ≤ rkO S u (bT S u i)) : oI (bT S u i) = oI (bT S u (i + 1)) := by
  rw [show bT S u (i + 1) = bT S u i from if_neg (fun q => q.1 h1)]
theorem ex_cong {p q : Nat → Bool} : ∀ {n : Nat}, (∀ k, k < n → p k = q k) → ex p n = ex q n
  | 0, _ => rfl
  | n + 1, h => by
    unfold ex
    rw [ex_cong (fun k hk => h k (Nat.lt_succ_of_lt hk)), h n (Nat.lt_succ_self n)]
theorem al_not {p : Nat → Bool} : ∀ n, al (fun o => !p o) n = !ex p n
  | 0 => rfl
  | n + 1 => by
    unfold al ex
    rw [al_not n, Bool.not_or]
theorem hasF0 {S : cs_S} (hI : Inv S) {pp : Nat} : hasF S pp (nI 0) = hasF S pp (nI 6) := by
  apply ex_cong
  intro s hs
  have h := (hI.2.2.1 s hs).1
  have h1 : oldS S (nI 6) s = true := decide_eq_true h
  have h0 : oldS S (nI 0) s = true := decide_eq_true (Int32.le_trans (by decide) h)
  rw [h0, h1]
theorem hol_out {S : cs_S} {x : Int32} {q : Nat} (h : inR x (nI 0) (nI 60) = false) : hol S x.toInt q = -1 := by
  have h1 := of_decide_eq_false h
  rw [fa_le, fa_le, nI_toInt (by omega), nI_toInt (by omega)] at h1
  unfold hol
  exact if_neg (fun q => h1 (by omega))
def cgK (S : cs_S) (d q pp k : Nat) : Bool := hasF S pp (leastA q) && !decide (hol S (nI d - nI 1).toInt q = nI pp) && !decide (hol S (nI (d + 1)).toInt q = nI pp) && al (fun o => !dOt S d q pp o) k
theorem cgK_s {S : cs_S} {d q pp k : Nat} : cgK S d q pp (k + 1) = (cgK S d q pp k && !dOt S d q pp k) := (Bool.and_assoc _ _ _).symm
theorem cgK_5 {S : cs_S} {d q pp : Nat} : cgK S d q pp 5 = canG S d q pp := by
  unfold cgK canG
  rw [al_not]
  generalize hasF S pp (leastA q) = b1
  generalize decide (hol S (nI d - nI 1).toInt q = nI pp) = b2
  generalize decide (hol S (nI (d + 1)).toInt q = nI pp) = b3
  generalize ex (dOt S d q pp) 5 = b4
  cases b1 <;> cases b2 <;> cases b3 <;> cases b4 <;> rfl
theorem dOt_same {S : cs_S} {d q pp o : Nat} (h : o = q) : dOt S d q pp o = false := by
  unfold dOt
  rw [decide_eq_true h]
  rfl
theorem dOt_oth {S : cs_S} {d q pp o : Nat} (h : ¬ o = q) : dOt S d q pp o = decide (c_hld S (d * 5 + o) = nI pp) := by
  unfold dOt
  rw [decide_eq_false h]
  rfl
theorem rem5 {k : Nat} (h : k < 2 ^ 31) : nI k - nI k / nI 5 * nI 5 = nI (k % 5) := pk_rem h (by omega) (by omega)
/-- the sum of the points, step by step -/
def ptF (S : cs_S) (pp : Nat) : Nat → Int32 := fun k => if c_hld S k = nI pp then dP (k % 5) else 0
theorem ptF_t {S : cs_S} {pp k : Nat} (h : c_hld S k = nI pp) : sm (ptF S pp) k + dP (k % 5) = sm (ptF S pp) (k + 1) := by
  show _ = sm (ptF S pp) k + ptF S pp k
  rw [show ptF S pp k = dP (k % 5) from if_pos h]
theorem ptF_f {S : cs_S} {pp k : Nat} (h : ¬ c_hld S k = nI pp) : sm (ptF S pp) k + nI 0 = sm (ptF S pp) (k + 1) := by
  show _ = sm (ptF S pp) k + ptF S pp k
  rw [show ptF S pp k = 0 from if_neg h]
  rfl
theorem lt5 {P : Nat → Prop} (h0 : P 0) (h1 : P 1) (h2 : P 2) (h3 : P 3) (h4 : P 4) : ∀ j, j < 5 → P j := by
  intro j hj
  rcases (show j = 0 ∨ j = 1 ∨ j = 2 ∨ j = 3 ∨ j = 4 by omega) with e | e | e | e | e <;> subst e <;> assumption
/-- food -/
theorem inM_0 {S : cs_S} (hI : Inv S) {mm f : Nat} (hm : mm < 10) (hf : f < 12) : inM S mm f = false ↔ c_ned S (mm * 12 + f) = 0 := by
  have h := hI.2.2.2.2.2.2.2.1 (mm * 12 + f) (by omega)
  have h1 := (fa_le _ _).mp h
  unfold inM
  rw [nI_toInt (by omega)] at h1
  constructor
  · intro q
    have q1 := of_decide_eq_false q
    rw [fa_lt, nI_toInt (by omega)] at q1
    rw [fa_eq]
    have h0 : (0 : Int32).toInt = 0 := by decide
    omega
  · intro q
    rw [q]
    decide
def caF (S : cs_S) (u mm : Nat) : Nat → Bool := fun f => !(inM S mm f && bt (c_ref S u) f)
theorem caF_s {S : cs_S} {u mm k : Nat} : al (caF S u mm) (k + 1) = (al (caF S u mm) k && caF S u mm k) := rfl
theorem caF_z {S : cs_S} {u mm f : Nat} (h : inM S mm f = false) : caF S u mm f = true := by
  unfold caF
  rw [h]
  rfl
theorem caF_b {S : cs_S} {u mm f : Nat} (h : bt (c_ref S u) f = false) : caF S u mm f = true := by
  unfold caF
  rw [h, Bool.and_false]
  rfl
theorem caF_n {S : cs_S} {u mm f : Nat} (h : ¬ inM S mm f = false) (h2 : ¬ bt (c_ref S u) f = false) : caF S u mm f = false := by
  unfold caF
  rw [ts_nf h, ts_nf h2]
  rfl
def eaF (S : cs_S) (mm : Nat) (b : Bool) : Nat → Bool := fun s => canE S mm s && !(b && c_eat S s)
theorem eaF_f {S : cs_S} {mm n : Nat} : fb_ct (eaF S mm false) n = fb_ct (canE S mm) n := fb_ct_cong (fun k _ => Bool.and_true _)
theorem eaF_t {S : cs_S} {mm : Nat} : fb_ct (eaF S mm true) (c_ns S) = hun S mm := rfl
def beK (S : cs_S) (mm k : Nat) : Bool := decide (c_me S < 3) && decide (0 < cntE S mm) && al (stkE S mm (cntE S mm)) k
theorem beK_s {S : cs_S} {mm k : Nat} : beK S mm (k + 1) = (beK S mm k && stkE S mm (cntE S mm) k) := (Bool.and_assoc _ _ _).symm
theorem ex_ct {p : Nat → Bool} {n : Nat} : ex p n = decide (0 < fb_ct p n) := by
  cases h : ex p n with
  | true =>
    obtain ⟨j, hj, hp⟩ := ex_some h
    exact (decide_eq_true (fb_ct_pos.mpr ⟨j, hj, hp⟩)).symm
  | false =>
    refine (decide_eq_false (fun q => ?_)).symm
    obtain ⟨j, hj, hp⟩ := fb_ct_pos.mp q
    rw [ex_t hj hp] at h
    exact absurd h (by decide)
theorem beK_n {S : cs_S} {mm : Nat} : (beK S mm (c_nf S) && decide (0 < fb_ct (inM S mm) (c_nf S))) = canBE S mm := by
  unfold beK canBE
  rw [ex_ct]
  generalize decide (c_me S < 3) = b1
  generalize decide (0 < cntE S mm) = b2
  generalize al (stkE S mm (cntE S mm)) (c_nf S) = b3
  generalize decide (0 < fb_ct (inM S mm) (c_nf S)) = b4
  cases b1 <;> cases b2 <;> cases b3 <;> cases b4 <;> rfl
theorem bM_yes {S : cs_S} {i : Nat} (h1 : ¬ nI (hun S i) ≤ hunO S (bM S i)) (h2 : canBE S i = true) : nI i = oI (bM S (i + 1)) := by
  rw [show bM S (i + 1) = some i from if_pos ⟨h1, h2⟩]
  rfl
theorem bM_no1 {S : cs_S} {i : Nat} (h2 : canBE S i = false) : oI (bM S i) = oI (bM S (i + 1)) := by
  rw [show bM S (i + 1) = bM S i from if_neg (fun q => by rw [h2] at q; exact absurd q.2 (by decide))]
theorem bM_no2 {S : cs_S} {i : Nat} (h1 : nI (hun S i) ≤ hunO S (bM S i)) : oI (bM S i) = oI (bM S (i + 1)) := by
  rw [show bM S (i + 1) = bM S i from if_neg (fun q => q.1 h1)]
theorem hun_le {S : cs_S} {mm : Nat} : hun S mm ≤ c_ns S := fb_ct_le _ _
theorem hu_none {S : cs_S} {i : Nat} (hn : c_ns S ≤ 30) {o : Option Nat} (h : o = none) : ¬ nI (hun S i) ≤ hunO S o := by
  subst h
  intro q
  have h1 := (fa_le _ _).mp q
  have h2 : (hunO S none).toInt = -1 := by show (-1 : Int32).toInt = -1; decide
  have h3 := hun_le (S := S) (mm := i)
  rw [nI_toInt (by omega), h2] at h1
  omega
theorem hu_some {S : cs_S} {i b : Nat} (hn : c_ns S ≤ 30) {o : Option Nat} (h : o = some b) : nI (hun S i) ≤ hunO S o ↔ hun S i ≤ hun S b := by
  subst h
  have h3 := hun_le (S := S) (mm := i)
  have h4 := hun_le (S := S) (mm := b)
  exact nI_leI (by omega) (by omega)
/-- badges -/
theorem age_bad {S : cs_S} (hI : Inv S) {u b : Nat} (hu : u < c_ns S) (hb : b < c_nb S) (h : bt (c_bad S u) b = true) : ¬ c_age S u < c_lag S b := Int32.not_lt.mpr (hI.2.2.2.2.2.2.2.2.2.2.2 u b hu hb h)
theorem dist_b {S : cs_S} (hI : Inv S) {u b : Nat} (hu : u < c_ns S) (hb : b < c_nb S) (h : bt (c_bad S u) b = true) : dist S u b = -2 := by rw [dist, if_neg (age_bad hI hu hb h), if_pos h]
theorem dist_y {S : cs_S} {u b : Nat} (h : c_age S u < c_lag S b) : dist S u b = -1 := if_pos h
theorem dist_n {S : cs_S} {u b : Nat} (h : ¬ c_age S u < c_lag S b) (h2 : ¬ bt (c_bad S u) b = true) : dist S u b = lack S u b := by rw [dist, if_neg h, if_neg h2]
theorem cnt8 : ∀ z, z < 256 → fb_ct (fun j => z.testBit j) 8 = popc z := by decide +kernel
theorem addor8 : ∀ z, z < 256 → ∀ b, b < 8 → z.testBit b = false → z + 2 ^ b = z ||| 2 ^ b := by decide +kernel
theorem dist0 {S : cs_S} (hI : Inv S) {u b : Nat} (hb : b < 8) (h : dist S u b = 0) : c_bad S u + nI (2 ^ b) = nbad S u b := by
  obtain ⟨z, hz, e⟩ := hI.2.2.2.2.2.2.2.2.2.1 u
  have hz8 : z < 2 ^ 8 := Nat.lt_of_lt_of_le hz (Nat.pow_le_pow_right (by omega) hI.1.2.2.2.2.2.2.1)
  have hbit : bt (c_bad S u) b = false := by
    cases hq : bt (c_bad S u) b with
    | false => rfl
    | true =>
      unfold dist at h
      rw [hq] at h
      split at h
      · exact absurd h (by decide)
      · rw [if_pos rfl] at h
        exact absurd h (by decide)
  unfold nbad
  rw [e] at hbit ⊢
  rw [bt_nI _ (by omega)] at hbit
  rw [fa_or, nI_add, addor8 z hz8 b hb hbit]
/-- long sets, bit by bit -/
theorem l_sar (k : Nat) (hk : k < 64) (y : Int64) {i : Nat} (hi : i < 64) : (y >>> ((nI k).toInt64 &&& 63)).toBitVec.getLsbD i = if k + i < 64 then y.toBitVec.getLsbD (k + i) else y.toBitVec.getLsbD 63 := by
  rw [wb_c k hk, Int64.toBitVec_shiftRight]
  show (y.toBitVec.sshiftRight ((BitVec.ofNat 64 k).smod 64).toNat).getLsbD i = _
  rw [wb_sm k hk, BitVec.toNat_ofNat, Nat.mod_eq_of_lt (by omega), BitVec.getLsbD_sshiftRight, BitVec.msb_eq_getLsbD_last]
  simp [hi]
theorem l_bit1 {k : Nat} (hk : k < 64) {y : Int64} : (y >>> ((nI k).toInt64 &&& 63)) &&& lN 1 = lN 0 ↔ y.toBitVec.getLsbD k = false := by
  constructor
  · intro h
    have h1 := congrArg (fun z : Int64 => z.toBitVec.getLsbD 0) h
    simp only [Int64.toBitVec_and, BitVec.getLsbD_and] at h1
    rw [l_sar k hk y (by omega), Nat.add_zero, if_pos hk] at h1
    have h2 : (lN 1).toBitVec.getLsbD 0 = true := by decide
    have h3 : (lN 0).toBitVec.getLsbD 0 = false := by decide
    rw [h2, h3, Bool.and_true] at h1
    exact h1
  · intro h
    apply wb_inj
    apply BitVec.eq_of_getLsbD_eq
    intro i hi
    rw [Int64.toBitVec_and, BitVec.getLsbD_and, l_sar k hk y hi, wb_tb, wb_tb, BitVec.getLsbD_ofNat, BitVec.getLsbD_ofNat, Nat.zero_testBit, Bool.and_false]
    by_cases h0 : i = 0
    · subst h0
      rw [Nat.add_zero, if_pos hk, h]
      rfl
    · have h1 : (1 : Nat).testBit i = false := by
        have := tb_pow 0 i
        rw [decide_eq_false h0] at this
        exact this
      rw [h1, Bool.and_false, Bool.and_false]
theorem l_bit2 {k : Nat} (hk : k < 64) {y : Int64} : y &&& lN (2 ^ k) = lN 0 ↔ y.toBitVec.getLsbD k = false := by
  constructor
  · intro h
    have h1 := congrArg (fun z : Int64 => z.toBitVec.getLsbD k) h
    simp only [Int64.toBitVec_and, BitVec.getLsbD_and, wb_tb, BitVec.getLsbD_ofNat, Nat.zero_testBit, Bool.and_false, tb_pow, decide_true, Bool.and_true] at h1
    simpa [hk] using h1
  · intro h
    apply wb_inj
    apply BitVec.eq_of_getLsbD_eq
    intro i hi
    rw [Int64.toBitVec_and, BitVec.getLsbD_and, wb_tb, wb_tb, BitVec.getLsbD_ofNat, BitVec.getLsbD_ofNat, Nat.zero_testBit, Bool.and_false, tb_pow]
    by_cases h0 : i = k
    · subst h0
      rw [h]
      rfl
    · rw [decide_eq_false h0, Bool.and_false, Bool.and_false]
theorem l_bits {k : Nat} (hk : k < 64) {y : Int64} : (y >>> ((nI k).toInt64 &&& 63)) &&& lN 1 = lN 0 ↔ y &&& lN (2 ^ k) = lN 0 := (l_bit1 hk).trans (l_bit2 hk).symm
/-- a set and some of it: whether any is in both -/
theorem l_and_set {y : Int64} {p : Nat → Bool} {n : Nat} (hn : n ≤ 62) : y &&& lN (bs p n) = lN 0 ↔ ex (fun s => !decide (y &&& lN (2 ^ s) = lN 0) && p s) n = false := by
  constructor
  · intro h
    apply ex_f
    intro j hj
    have h1 := congrArg (fun z : Int64 => z.toBitVec.getLsbD j) h
    simp only [Int64.toBitVec_and, BitVec.getLsbD_and, wb_tb, BitVec.getLsbD_ofNat, Nat.zero_testBit, Bool.and_false, bs_bit] at h1
    rw [decide_eq_true (show j < 64 by omega), decide_eq_true hj, Bool.true_and, Bool.true_and] at h1
    cases hp : p j with
    | false => exact Bool.and_false _
    | true =>
      rw [hp, Bool.and_true] at h1
      rw [decide_eq_true ((l_bit2 (by omega)).mpr h1)]
      rfl
  · intro h
    apply wb_inj
    apply BitVec.eq_of_getLsbD_eq
    intro i hi
    rw [Int64.toBitVec_and, BitVec.getLsbD_and, wb_tb, wb_tb, BitVec.getLsbD_ofNat, BitVec.getLsbD_ofNat, Nat.zero_testBit, Bool.and_false, bs_bit]
    by_cases hj : i < n
    · cases hp : p i with
      | false => simp
      | true =>
        cases hq : y.toBitVec.getLsbD i with
        | false => rfl
        | true =>
          rw [ex_t hj (by
            rw [decide_eq_false (fun z => by rw [(l_bit2 (by omega)).mp z] at hq; exact absurd hq (by decide)), hp]
            rfl)] at h
          exact absurd h (by decide)
    · rw [decide_eq_false hj]
      simp
theorem l_all {y : Int64} {n : Nat} (hn : n ≤ 62) : (lN (2 ^ n) - lN 1) = lN (2 ^ n - 1) := lN_sub (Nat.two_pow_pos n)
/-- nobody but those that are there: the two ways to ask -/
theorem l_there {y : Int64} {n : Nat} (hn : n ≤ 30) : (y ≤ lN 0 ∨ ¬ y >>> ((nI n).toInt64 &&& 63) = lN 0) ↔ (y = lN 0 ∨ ¬ y &&& ((lN (2 ^ n) - lN 1) ^^^ (-1)) = lN 0) := by
  obtain ⟨z, hz, e⟩ := wb_of y
  subst e
  have ht := lN_ti hz
  have hpn : 2 ^ n ≤ 2 ^ 30 := Nat.pow_le_pow_right (by omega) hn
  have hp0 : 0 < 2 ^ n := Nat.two_pow_pos n
  have h0 : (lN 0).toInt = 0 := by decide
  have hle : lN z ≤ lN 0 ↔ z = 0 ∨ 2 ^ 63 ≤ z := by
    rw [fa_le64, h0, ht]
    split <;> omega
  have hz0 : lN z = lN 0 ↔ z = 0 := by
    rw [fa_eq64, h0, ht]
    split <;> omega
  have hsh : (lN z >>> ((nI n).toInt64 &&& 63)).toInt = (lN z).toInt / 2 ^ n := by
    rw [wb_c n (by omega)]
    have e : (lN z >>> lN n).toInt = (lN z).toInt >>> ((lN n).toBitVec.smod 64).toNat := BitVec.toInt_sshiftRight ..
    rw [e, wb_tb, wb_sm n (by omega), BitVec.toNat_ofNat, Nat.mod_eq_of_lt (by omega), Int.shiftRight_eq_div_pow]
    rfl
  have hq : lN z >>> ((nI n).toInt64 &&& 63) = lN 0 ↔ 0 ≤ (lN z).toInt ∧ (lN z).toInt < (2 ^ n : Int) := by
    rw [fa_eq64, hsh, h0]
    have hpi : (0 : Int) < 2 ^ n := Int.pow_pos (by decide)
    constructor
    · intro q
      have h2 := Int.mul_ediv_add_emod (lN z).toInt (2 ^ n)
      rw [q] at h2
      have h3 := Int.emod_nonneg (lN z).toInt (Int.ne_of_gt hpi)
      have h4 := Int.emod_lt_of_pos (lN z).toInt hpi
      omega
    · intro q
      exact Int.ediv_eq_zero_of_lt q.1 q.2
  have hm : lN z &&& ((lN (2 ^ n) - lN 1) ^^^ (-1)) = lN 0 ↔ z < 2 ^ n := by
    rw [l_all (y := lN 0) (by omega)]
    constructor
    · intro h
      rw [← Nat.mod_eq_of_lt hz]
      apply Nat.lt_pow_two_of_testBit
      intro i hi
      rw [Nat.mod_eq_of_lt hz]
      by_cases h64 : i < 64
      · have h1 := congrArg (fun w : Int64 => w.toBitVec.getLsbD i) h
        simp only [Int64.toBitVec_and, Int64.toBitVec_xor, BitVec.getLsbD_and, BitVec.getLsbD_xor, lN_m1_bit, wb_tb, BitVec.getLsbD_ofNat, Nat.zero_testBit, Bool.and_false, Nat.testBit_two_pow_sub_one, decide_eq_true h64, decide_eq_false (Nat.not_lt.mpr hi), Bool.true_and, Bool.false_xor, Bool.and_true] at h1
        exact h1
      · exact Nat.testBit_lt_two_pow (Nat.lt_of_lt_of_le hz (Nat.pow_le_pow_right (by omega) (by omega)))
    · intro h
      apply wb_inj
      apply BitVec.eq_of_getLsbD_eq
      intro i hi
      rw [Int64.toBitVec_and, Int64.toBitVec_xor, BitVec.getLsbD_and, BitVec.getLsbD_xor, lN_m1_bit, wb_tb, wb_tb, wb_tb, BitVec.getLsbD_ofNat, BitVec.getLsbD_ofNat, BitVec.getLsbD_ofNat, Nat.zero_testBit, Bool.and_false, Nat.testBit_two_pow_sub_one]
      by_cases hi2 : i < n
      · simp [hi, hi2]
      · rw [Nat.testBit_lt_two_pow (Nat.lt_of_lt_of_le h (Nat.pow_le_pow_right (by omega) (by omega)))]
        simp
  rw [hle, hz0, hq, hm, ht]
  have hcast : ((2 ^ n : Nat) : Int) = (2 ^ n : Int) := by simp
  split
  · rw [← hcast]
    omega
  · omega
/-- booleans of a row -/
def updB (g : Nat → Bool) (i : Nat) (b : Bool) : Nat → Bool := fun j => if j = i then b else g j
theorem updB_I {g : Nat → Bool} {i : Nat} {b : Bool} : upd (fun j => bI (g j)) i (bI b) = fun j => bI (updB g i b j) := by
  funext j
  unfold upd updB
  by_cases h : j = i
  · rw [if_pos h, if_pos h]
  · rw [if_neg h, if_neg h]
def endK (S : cs_S) (k : Nat) : Nat → Bool := fun j => if j < k then false else c_eat S j
theorem endK_s {S : cs_S} {k : Nat} : updB (endK S k) k false = endK S (k + 1) := by
  funext j
  unfold updB endK
  by_cases h : j = k
  · rw [if_pos h, if_pos (by omega)]
  · rw [if_neg h]
    by_cases h2 : j < k
    · rw [if_pos h2, if_pos (by omega)]
    · rw [if_neg h2, if_neg (by omega)]
theorem endK_0 {S : cs_S} : c_eat S = endK S 0 := rfl
theorem endK_30 {S : cs_S} (hI : Inv S) : endK S 30 = fun _ => false := by
  funext j
  unfold endK
  by_cases h : j < 30
  · rw [if_pos h]
  · rw [if_neg h]
    cases he : c_eat S j with
    | false => rfl
    | true => exact absurd (hI.2.2.2.2.2.2.1 j he) (by have := hI.1.2.2.1; omega)
def eatK (S : cs_S) (mm k : Nat) : Nat → Bool := fun j => c_eat S j || (decide (j < k) && canE S mm j)
theorem eatK_0 {S : cs_S} {mm : Nat} : c_eat S = eatK S mm 0 := by
  funext j
  simp [eatK]
theorem eatK_s {S : cs_S} {mm k : Nat} {b : Bool} (h : b = (c_eat S k || canE S mm k)) : updB (eatK S mm k) k b = eatK S mm (k + 1) := by
  subst h
  funext j
  unfold updB eatK
  by_cases h : j = k
  · subst h
    simp
  · rw [if_neg h]
    by_cases h2 : j < k
    · simp [h2, Nat.lt_succ_of_lt h2]
    · simp [h2, show ¬ j < k + 1 by omega]
theorem eatK_n {S : cs_S} {mm : Nat} : eatK S mm (c_ns S) = eatM S mm := rfl
/-- duties that stay open, in the order of the search -/
def lfF (T : cs_S) : Nat → Bool := fun j => decide (c_hld T (c_day T * 5 + dON j) = -1)
theorem dON_inj {i j : Nat} (hi : i < 5) (hj : j < i) : dON j ≠ dON i := by
  have h : ∀ i, i < 5 → ∀ j, j < i → dON j ≠ dON i := by decide
  exact h i hi j hj
theorem lf_fd1 {T : cs_S} {i : Nat} (hi : i < 5) : fb_ct (lfF (fd1 T (dON i))) i = fb_ct (lfF T) i := by
  apply fb_ct_cong
  intro j hj
  have h := dON_inj hi hj
  show decide (upd (c_hld T) (c_day T * 5 + dON i) _ (c_day T * 5 + dON j) = -1) = _
  rw [pk_un (by omega)]
  rfl
theorem lf_last {T : cs_S} {i : Nat} : lfF (fd1 T (dON i)) i = decide (oI (bD T (c_day T) (dON i) (c_np T)) = -1) := by
  show decide (upd (c_hld T) (c_day T * 5 + dON i) _ (c_day T * 5 + dON i) = -1) = _
  rw [pk_us]
theorem lf_5 {T : cs_S} : fb_ct (lfF T) 5 = fb_ct (opS T (c_day T)) 5 := by
  have key : ∀ a b c d e : Nat, ((((0 + a) + b) + c) + d) + e = ((((0 + d) + c) + b) + e) + a := by omega
  exact key (if lfF T 0 then 1 else 0) (if lfF T 1 then 1 else 0) (if lfF T 2 then 1 else 0) (if lfF T 3 then 1 else 0) (if lfF T 4 then 1 else 0)
end CBM1
