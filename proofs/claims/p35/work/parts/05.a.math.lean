/-! duties, kitchen, badges as functions of the state -/
section CBK
def leastA (q : Nat) : Int32 := if q = 4 then nI 12 else nI 6
def hasF (S : cs_S) (pp : Nat) (x : Int32) : Bool := ex (fun s => inP S pp s && oldS S x s) (c_ns S)
def dOt (S : cs_S) (d q pp : Nat) : Nat → Bool := fun o => !decide (o = q) && decide (c_hld S (d * 5 + o) = nI pp)
def canG (S : cs_S) (d q pp : Nat) : Bool := hasF S pp (leastA q) && !ex (dOt S d q pp) 5 && !decide (hol S (nI d - nI 1).toInt q = nI pp) && !decide (hol S (nI (d + 1)).toInt q = nI pp)
def opS (S : cs_S) (d : Nat) : Nat → Bool := fun o => decide (c_hld S (d * 5 + o) = -1)
def bLt (S : cs_S) (o : Option Nat) (i : Nat) : Bool := match o with
  | none => true
  | some b => decide (pts S i < pts S b)
def bD (S : cs_S) (d q : Nat) : Nat → Option Nat
  | 0 => none
  | i + 1 => if bLt S (bD S d q i) i = true ∧ canG S d q i = true then some i else bD S d q i
def inM (S : cs_S) (mm : Nat) : Nat → Bool := fun f => decide (nI 0 < c_ned S (mm * 12 + f))
def canE (S : cs_S) (mm : Nat) : Nat → Bool := fun s => al (fun f => !(inM S mm f && bt (c_ref S s) f)) (c_nf S)
def cntE (S : cs_S) (mm : Nat) : Nat := fb_ct (canE S mm) (c_ns S)
def stkE (S : cs_S) (mm e : Nat) : Nat → Bool := fun f => decide (c_ned S (mm * 12 + f) * nI e ≤ c_sto S f)
def canBE (S : cs_S) (mm : Nat) : Bool := decide (c_me S < 3) && ex (inM S mm) (c_nf S) && decide (0 < cntE S mm) && al (stkE S mm (cntE S mm)) (c_nf S)
def sv (S : cs_S) (mm : Nat) : Nat → (Nat → Int32)
  | 0 => c_sto S
  | i + 1 => upd (sv S mm i) i (sv S mm i i - c_ned S (mm * 12 + i) * nI (cntE S mm))
def eatM (S : cs_S) (mm : Nat) : Nat → Bool := fun s => c_eat S s || (decide (s < c_ns S) && canE S mm s)
def hun (S : cs_S) (mm : Nat) : Nat := fb_ct (fun s => canE S mm s && !c_eat S s) (c_ns S)
def hunO (S : cs_S) (o : Option Nat) : Int32 := match o with
  | none => -1
  | some b => nI (hun S b)
def bM (S : cs_S) : Nat → Option Nat
  | 0 => none
  | i + 1 => if ¬ nI (hun S i) ≤ hunO S (bM S i) ∧ canBE S i = true then some i else bM S i
def lackF (S : cs_S) (u b : Nat) : Nat → Int32 := fun j => cMax (nI 0) (c_wnt S (b * 10 + j) - c_hrs S (u * 10 + j))
def lack (S : cs_S) (u b : Nat) : Int32 := sm (lackF S u b) 10
def dist (S : cs_S) (u b : Nat) : Int32 := if c_age S u < c_lag S b then -1 else if bt (c_bad S u) b = true then -2 else lack S u b
theorem hol_nI {S : cs_S} {d q : Nat} (h : d ≤ 60) : hol S (nI d).toInt q = c_hld S (d * 5 + q) := by
  unfold hol
  rw [nI_toInt (by omega), if_pos (by omega)]
  rfl
theorem hol_lo {S : cs_S} {x : Int32} {q : Nat} (h : x < 0) : hol S x.toInt q = -1 := by
  unfold hol
  have h1 := (fa_lt _ _).mp h
  have h0 : (0 : Int32).toInt = 0 := by decide
  rw [if_neg (by omega)]
theorem hol_hi {S : cs_S} {x : Int32} {q : Nat} (h : nI 60 < x) : hol S x.toInt q = -1 := by
  unfold hol
  have h1 := (fa_lt _ _).mp h
  rw [nI_toInt (by omega)] at h1
  rw [if_neg (by omega)]
theorem bs_z {p : Nat → Bool} {n : Nat} (h : bs p n = 0) : ex p n = false := ex_f (bs_zero.mp h)
theorem bs_nz {p : Nat → Bool} {n : Nat} (h : bs p n ≠ 0) : ex p n = true := by
  cases he : ex p n with
  | true => rfl
  | false =>
    refine absurd (bs_zero.mpr (fun i hi => ?_)) h
    cases hp : p i with
    | false => rfl
    | true => rw [ex_t hi hp] at he; exact absurd he (by decide)
theorem bs_lt62 {p : Nat → Bool} {n : Nat} (hn : n ≤ 62) : bs p n < 2 ^ 63 := Nat.lt_of_lt_of_le (bs_lt p n) (Nat.pow_le_pow_right (by omega) (by omega))
theorem bs_lt31 {p : Nat → Bool} {n : Nat} (hn : n ≤ 31) : bs p n < 2 ^ 31 := Nat.lt_of_lt_of_le (bs_lt p n) (Nat.pow_le_pow_right (by omega) hn)
theorem bs_lz {p : Nat → Bool} {n : Nat} (hn : n ≤ 62) (h : lN (bs p n) = lN 0) : ex p n = false := bs_z ((fb_lN_inj (bs_lt62 hn) (by omega)).mp h)
theorem bs_lnz {p : Nat → Bool} {n : Nat} (h : ¬ lN (bs p n) = lN 0) : ex p n = true := bs_nz (fun e => h (by rw [e]))
theorem oI_some {o : Option Nat} (h : ¬ oI o = -1) : ∃ b, o = some b := by
  cases o with
  | none => exact absurd rfl h
  | some b => exact ⟨b, rfl⟩
theorem oI_none {o : Option Nat} (h : oI o = -1) (hb : ∀ b, o = some b → b < 2 ^ 31) : o = none := by
  cases o with
  | none => rfl
  | some b => exact absurd h.symm (nI_m1 (hb b rfl))
theorem bD_lt {S : cs_S} {d q : Nat} : ∀ {i b : Nat}, bD S d q i = some b → b < i
  | 0, b, h => by simp [bD] at h
  | i + 1, b, h => by
    unfold bD at h
    split at h
    · cases h; omega
    · exact Nat.lt_succ_of_lt (bD_lt h)
theorem bT_lt {S : cs_S} {u : Nat} : ∀ {i b : Nat}, bT S u i = some b → b < i
  | 0, b, h => by simp [bT] at h
  | i + 1, b, h => by
    unfold bT at h
    split at h
    · cases h; omega
    · exact Nat.lt_succ_of_lt (bT_lt h)
theorem bM_lt {S : cs_S} : ∀ {i b : Nat}, bM S i = some b → b < i
  | 0, b, h => by simp [bM] at h
  | i + 1, b, h => by
    unfold bM at h
    split at h
    · cases h; omega
    · exact Nat.lt_succ_of_lt (bM_lt h)
theorem c_pt_at {S : cs_S} {p : Nat} (h : p < 6) : c_pt S p = pts S p := if_pos h
/-- one bit of an int -/
theorem cb_ishl {k : Nat} (hk : k < 31) : nI 1 <<< (nI k &&& 31) = nI (2 ^ k) := by
  apply b_ext
  intro i hi
  rw [b_shl k (by omega) (nI 1) hi]
  show (decide (k ≤ i) && (BitVec.ofNat 32 1).getLsbD (i - k)) = (BitVec.ofNat 32 (2 ^ k)).getLsbD i
  rw [BitVec.getLsbD_ofNat, BitVec.getLsbD_ofNat, tb_pow]
  have e1 : (1 : Nat) = 2 ^ 0 := rfl
  rw [e1, tb_pow]
  by_cases h : i = k
  · subst h; simp [hi]
  · by_cases h2 : k ≤ i
    · have h3 : i - k ≠ 0 := by omega
      simp [h, h3]
    · simp [h, h2]
theorem bsI_t {p : Nat → Bool} {k : Nat} (h : p k = true) : nI (bs p k) ||| nI (2 ^ k) = nI (bs p (k + 1)) := by
  rw [fa_or]
  congr 1
  have e := Nat.two_pow_add_eq_or_of_lt (bs_lt p k) 1
  rw [Nat.mul_one] at e
  rw [Nat.or_comm, ← e]
  show _ = bs p k + (if p k = true then 2 ^ k else 0)
  rw [if_pos h, Nat.add_comm]
theorem bsI_f {p : Nat → Bool} {k : Nat} (h : p k = false) : nI (bs p k) = nI (bs p (k + 1)) := by
  congr 1
  show _ = bs p k + (if p k = true then 2 ^ k else 0)
  rw [if_neg (by rw [h]; decide)]
  rfl
theorem bt_nI (n : Nat) {i : Nat} (hi : i < 32) : bt (nI n) i = n.testBit i := by
  show (BitVec.ofNat 32 n).getLsbD i = _
  rw [BitVec.getLsbD_ofNat, decide_eq_true hi, Bool.true_and]
theorem and0_iff {x : Int32} {p : Nat → Bool} {n : Nat} (hn : n ≤ 31) : x &&& nI (bs p n) = 0 ↔ al (fun f => !(p f && bt x f)) n = true := by
  constructor
  · intro h
    apply al_t
    intro j hj
    have h1 : bt (x &&& nI (bs p n)) j = false := by rw [h]; exact b_0 j
    rw [b_and, bt_nI _ (by omega), bs_bit, decide_eq_true hj, Bool.true_and] at h1
    rw [Bool.and_comm, h1]
    rfl
  · intro h
    apply b_ext
    intro i hi
    rw [b_and, bt_nI _ hi, bs_bit, b_0]
    by_cases hj : i < n
    · have h1 := al_all h hj
      simp only [hj, decide_true, Bool.true_and]
      revert h1
      cases p i <;> cases bt x i <;> simp
    · simp [hj]
theorem andbit {x : Int32} {b : Nat} (hb : b < 31) : x &&& (nI 1 <<< (nI b &&& 31)) = 0 ↔ bt x b = false := by
  rw [cb_ishl hb]
  constructor
  · intro h
    have h1 : bt (x &&& nI (2 ^ b)) b = false := by rw [h]; exact b_0 b
    rw [b_and, bt_nI _ (by omega), tb_pow] at h1
    simpa using h1
  · intro h
    apply b_ext
    intro i hi
    rw [b_and, bt_nI _ hi, tb_pow, b_0]
    by_cases hj : i = b
    · subst hj; simp [h]
    · simp [hj]
theorem sm_upd {f g : Nat → Int32} {j : Nat} (h : ∀ i, i ≠ j → g i = f i) : ∀ {n : Nat}, j < n → sm g n = sm f n - f j + g j
  | 0, hj => absurd hj (Nat.not_lt_zero j)
  | n + 1, hj => by
    unfold sm
    by_cases e : j = n
    · subst e
      have h2 : sm g j = sm f j := by
        have : ∀ m, m ≤ j → sm g m = sm f m := by
          intro m
          induction m with
          | zero => intro _; rfl
          | succ m ih => intro hm; unfold sm; rw [ih (by omega), h m (by omega)]
        exact this j (Nat.le_refl j)
      rw [h2]
      rw [Int32.add_sub_cancel]
    · rw [sm_upd h (show j < n by omega), h n (fun q => e q.symm)]
      rw [Int32.add_assoc, Int32.add_comm (g j) (f n), ← Int32.add_assoc]
      congr 1
      rw [Int32.sub_eq_add_neg, Int32.sub_eq_add_neg, Int32.add_assoc, Int32.add_assoc, Int32.add_comm (-f j) (f n)]
theorem sm_cong {f g : Nat → Int32} : ∀ {n : Nat}, (∀ i, i < n → f i = g i) → sm f n = sm g n
  | 0, _ => rfl
  | n + 1, h => by
    unfold sm
    rw [sm_cong (fun i hi => h i (Nat.lt_succ_of_lt hi)), h n (Nat.lt_succ_self n)]
theorem pts_set {S : cs_S} {d q p : Nat} {x : Int32} (hd : d ≤ 60) (hq : q < 5) : pts (s_hld S (upd (c_hld S) (d * 5 + q) x)) p = pts S p - (if c_hld S (d * 5 + q) = nI p then dP q else 0) + (if x = nI p then dP q else 0) := by
  unfold pts
  rw [sm_upd (f := fun k => if c_hld S k = nI p then dP (k % 5) else 0) (j := d * 5 + q) (fun i hi => ?_) (by omega)]
  · have e : (d * 5 + q) % 5 = q := by omega
    have e2 : c_hld (s_hld S (upd (c_hld S) (d * 5 + q) x)) (d * 5 + q) = x := pk_us
    simp only [e, e2]
  · have e2 : c_hld (s_hld S (upd (c_hld S) (d * 5 + q) x)) i = c_hld S i := pk_un hi
    simp only [e2]
theorem c_at_or {S : cs_S} {mm : Nat} (hn : c_ns S ≤ 30) : c_at S ||| lN (bs (canE S mm) (c_ns S)) = lN (bs (eatM S mm) (c_ns S)) := by
  unfold c_at
  rw [fb_orL]
  congr 1
  apply bs_eq_of_bits
  intro i
  rw [Nat.testBit_or, bs_bit, bs_bit]
  unfold eatM
  cases decide (i < c_ns S) <;> simp
theorem c_at_hun {S : cs_S} {mm : Nat} (hn : c_ns S ≤ 30) : lN (bs (canE S mm) (c_ns S)) &&& (c_at S ^^^ (-1)) = lN (bs (fun s => canE S mm s && !c_eat S s) (c_ns S)) := by
  unfold c_at
  rw [bs_andn (by omega)]
  congr 1
  apply bs_cong
  intro i hi
  rw [bs_bit, decide_eq_true hi, Bool.true_and]
theorem cw_sto {a : Nat → Nat} {k : Nat → ClassId} {S : cs_S} {f : Nat → Int32} : cb_w a k (s_sto S f) = cb_W a k (s_sto S f) (c_sl S) (c_pt S) (c_at S) := rfl
theorem sv_s {S : cs_S} {mm i : Nat} : sv S mm (i + 1) = upd (sv S mm i) i (sv S mm i i - c_ned S (mm * 12 + i) * nI (cntE S mm)) := rfl
theorem serve_w {a : Nat → Nat} {k : Nat → ClassId} {S : cs_S} {f : Nat → Int32} {n : Nat} {g : Nat → Bool} : cb_W a k (s_me (s_sto S f) n) (c_sl S) (c_pt S) (lN (bs g (c_ns S))) = cb_w a k (s_eat (s_me (s_sto S f) n) g) := rfl
theorem bs_none (n : Nat) : bs (fun _ => false) n = 0 := bs_zero.mpr (fun _ _ => rfl)
theorem c_pt_set {S : cs_S} {d q p : Nat} {x : Int32} (hd : d ≤ 60) (hq : q < 5) : c_pt (s_hld S (upd (c_hld S) (d * 5 + q) x)) p = if p < 6 then pts S p - (if c_hld S (d * 5 + q) = nI p then dP q else 0) + (if x = nI p then dP q else 0) else 0 := by
  unfold c_pt
  by_cases hp : p < 6
  · rw [if_pos hp, if_pos hp, pts_set hd hq]
  · rw [if_neg hp, if_neg hp]
theorem nIm {p : Nat} (hp : p < 6) : ¬ (-1 : Int32) = nI p := nI_m1 (by omega)
theorem if6 {b p : Nat} (hb : b < 6) (hp : p < 6) (z : Int32) : (if nI b = nI p then z else 0) = if p = b then z else 0 := by
  by_cases h : p = b
  · subst h; rw [if_pos rfl, if_pos rfl]
  · rw [if_neg h, if_neg (fun q => h ((nI_eq (by omega) (by omega)).mp q).symm)]
theorem pa_A {S : cs_S} {d q : Nat} (hd : d ≤ 60) (hq : q < 5) (eb : c_hld S (d * 5 + q) = -1) : c_pt S = c_pt (s_hld S (upd (c_hld S) (d * 5 + q) (-1))) := by
  funext p
  rw [c_pt_set hd hq, eb]
  unfold c_pt
  by_cases hp : p < 6
  · rw [if_pos hp, if_pos hp, if_neg (nIm hp), Int32.sub_zero, Int32.add_zero]
  · rw [if_neg hp, if_neg hp]
theorem pa_B {S : cs_S} {d q b : Nat} (hd : d ≤ 60) (hq : q < 5) (eb : c_hld S (d * 5 + q) = nI b) (hb : b < 6) : upd (c_pt S) b (c_pt S b - dP q) = c_pt (s_hld S (upd (c_hld S) (d * 5 + q) (-1))) := by
  funext p
  rw [c_pt_set hd hq, eb]
  unfold upd
  by_cases hp : p < 6
  · rw [if_pos hp, if_neg (nIm hp), Int32.add_zero, if6 hb hp]
    by_cases h : p = b
    · subst h; rw [if_pos rfl, if_pos rfl, c_pt_at hp]
    · rw [if_neg h, if_neg h, c_pt_at hp, Int32.sub_zero]
  · rw [if_neg hp, if_neg (by omega)]
    exact if_neg hp
theorem pa_C {S : cs_S} {d q t : Nat} (hd : d ≤ 60) (hq : q < 5) (eb : c_hld S (d * 5 + q) = -1) (ht : t < 6) : upd (c_pt S) t (c_pt S t + dP q) = c_pt (s_hld S (upd (c_hld S) (d * 5 + q) (nI t))) := by
  funext p
  rw [c_pt_set hd hq, eb]
  unfold upd
  by_cases hp : p < 6
  · rw [if_pos hp, if_neg (nIm hp), Int32.sub_zero, if6 ht hp]
    by_cases h : p = t
    · subst h; rw [if_pos rfl, if_pos rfl, c_pt_at hp]
    · rw [if_neg h, if_neg h, c_pt_at hp, Int32.add_zero]
  · rw [if_neg hp, if_neg (by omega)]
    exact if_neg hp
theorem pa_D {S : cs_S} {d q b t : Nat} (hd : d ≤ 60) (hq : q < 5) (eb : c_hld S (d * 5 + q) = nI b) (hb : b < 6) (ht : t < 6) : upd (upd (c_pt S) b (c_pt S b - dP q)) t (upd (c_pt S) b (c_pt S b - dP q) t + dP q) = c_pt (s_hld S (upd (c_hld S) (d * 5 + q) (nI t))) := by
  funext p
  rw [c_pt_set hd hq, eb]
  unfold upd
  by_cases hp : p < 6
  · rw [if_pos hp, if6 hb hp, if6 ht hp]
    by_cases h : p = t
    · subst h
      rw [if_pos rfl, if_pos rfl]
      by_cases h2 : p = b
      · subst h2; rw [if_pos rfl, if_pos rfl, c_pt_at hp]
      · rw [if_neg h2, if_neg h2, c_pt_at hp, Int32.sub_zero]
    · rw [if_neg h, if_neg h, Int32.add_zero]
      by_cases h2 : p = b
      · subst h2; rw [if_pos rfl, if_pos rfl, c_pt_at hp]
      · rw [if_neg h2, if_neg h2, c_pt_at hp, Int32.sub_zero]
  · rw [if_neg hp, if_neg (by omega), if_neg (by omega)]
    exact if_neg hp
end CBK
section CBT
variable {p : Program} {l : Launch} {e : Env} {R : Room} {s : State} {m : MethodId} {args : Array Value} {below : List Frame} {meth : Method} {c : Code} {H : Heap} {locs : List Loc} {cells slots : Nat} {Q : State → Prop}
variable {cc : ByteArray} {pc : Nat} {ls : Array Slot} {rest : List Value} {A : Nat → Prop}
theorem cb_ti (hexec : p.tables.exec = Jvm.exec) (hb : c.code = cc) {t N : Nat} {f : Nat → Int32} (hT : va_T .int t N (fun j => .int (f j)) A s s.heap) (hS : va_S A s.heap H locs) {j : Nat} (hj : j < N) (hN : N < 2 ^ 31) (hdg : decode cc pc = .ok (.iaload, 1))
    (kk : W p l e R s m args below meth c H locs cells slots Q (F0 m (pc + 1) ls (.int (f j) :: rest))) : W p l e R s m args below meth c H locs cells slots Q (F0 m pc ls (.int (nI j) :: .ref t :: rest)) :=
  va_ti hexec hb hT hS (vp_in_nI hj hN) (v := .int (f j)) (by rw [nI_clamp (Nat.lt_trans hj hN)]) hdg kk
end CBT
