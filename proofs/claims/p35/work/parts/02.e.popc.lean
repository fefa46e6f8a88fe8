/-! how many bits: Long.bitCount, Integer.bitCount -/
section CBP
def popc (n : Nat) : Nat := fb_ct (fun i => n.testBit i) 32
def q1 (m n : Nat) : Nat := n - (n / 2 ^ 1 &&& m)
def q2 (m x : Nat) : Nat := (x &&& m) + (x / 2 ^ 2 &&& m)
def q3 (m x : Nat) : Nat := (x + x / 2 ^ 4) &&& m
def q4 (x : Nat) : Nat := x + x / 2 ^ 8
def q5 (x : Nat) : Nat := x + x / 2 ^ 16
def q6 (x : Nat) : Nat := x + x / 2 ^ 32
theorem and_split (x m : Nat) : (x &&& m) = (x % 256 &&& m % 256) + 256 * (x / 256 &&& m / 256) := by
  have h1 : (x &&& m) % 2 ^ 8 = x % 2 ^ 8 &&& m % 2 ^ 8 := Nat.and_mod_two_pow
  have h2 : (x &&& m) / 2 ^ 8 = x / 2 ^ 8 &&& m / 2 ^ 8 := Nat.and_div_two_pow
  have e : (2 : Nat) ^ 8 = 256 := rfl
  rw [e] at h1 h2
  rw [← h1, ← h2]
  omega
theorem pc_b1 : ∀ a, a < 256 → ∀ r, r < 2 → (a / 2 + 128 * r) &&& 85 = a / 2 &&& 85 := by decide +kernel
theorem pc_b2 : ∀ b, b < 256 → ∀ r, r < 4 → (b / 4 + 64 * r) &&& 51 = b / 4 &&& 51 := by decide +kernel
theorem pc_b3 : ∀ c, c < 256 → c % 16 ≤ 4 → c / 16 ≤ 4 → ∀ r, r < 5 → (c + c / 16 + 16 * r) &&& 15 = (c + c / 16) &&& 15 := by decide +kernel
def pf1 (a : Nat) : Nat := a - (a / 2 &&& 85)
def pf2 (b : Nat) : Nat := (b &&& 51) + (b / 4 &&& 51)
def pf3 (c : Nat) : Nat := (c + c / 16) &&& 15
theorem pc_byte : ∀ a, a < 256 → pf1 a < 256 ∧ pf2 (pf1 a) % 16 ≤ 4 ∧ pf2 (pf1 a) / 16 ≤ 4 ∧ pf2 (pf1 a) < 256 ∧ pf3 (pf2 (pf1 a)) = fb_ct (fun i => a.testBit i) 8 := by decide +kernel
theorem q1_step {m n : Nat} (hm : m % 256 = 85) : q1 m n % 256 = pf1 (n % 256) ∧ q1 m n / 256 = q1 (m / 256) (n / 256) := by
  have e2 : (2 : Nat) ^ 1 = 2 := rfl
  unfold q1
  rw [e2, and_split (n / 2) m, hm]
  have ha : n % 256 < 256 := Nat.mod_lt _ (by omega)
  have h1 : n / 2 % 256 = n % 256 / 2 + 128 * (n / 256 % 2) := by omega
  rw [h1, pc_b1 _ ha _ (Nat.mod_lt _ (by omega))]
  have h2 : n / 2 / 256 = n / 256 / 2 := by omega
  rw [h2]
  have h3 : (n % 256 / 2 &&& 85) ≤ n % 256 / 2 := Nat.and_le_left
  have h4 : (n / 256 / 2 &&& m / 256) ≤ n / 256 / 2 := Nat.and_le_left
  unfold pf1
  generalize (n % 256 / 2 &&& 85) = u at h3 ⊢
  generalize (n / 256 / 2 &&& m / 256) = v at h4 ⊢
  constructor <;> omega
theorem q2_step {m x : Nat} (hm : m % 256 = 51) : q2 m x % 256 = pf2 (x % 256) ∧ q2 m x / 256 = q2 (m / 256) (x / 256) := by
  have e2 : (2 : Nat) ^ 2 = 4 := rfl
  unfold q2
  rw [e2, and_split x m, and_split (x / 4) m, hm]
  have ha : x % 256 < 256 := Nat.mod_lt _ (by omega)
  have h1 : x / 4 % 256 = x % 256 / 4 + 64 * (x / 256 % 4) := by omega
  rw [h1, pc_b2 _ ha _ (Nat.mod_lt _ (by omega))]
  have h2 : x / 4 / 256 = x / 256 / 4 := by omega
  rw [h2]
  have h3 : (x % 256 &&& 51) ≤ 51 := Nat.and_le_right
  have h4 : (x % 256 / 4 &&& 51) ≤ 51 := Nat.and_le_right
  unfold pf2
  generalize (x % 256 &&& 51) = u at h3 ⊢
  generalize (x % 256 / 4 &&& 51) = v at h4 ⊢
  constructor <;> omega
theorem q3_step {m x : Nat} (hm : m % 256 = 15) (h1 : x % 256 % 16 ≤ 4) (h2 : x % 256 / 16 ≤ 4) (h3 : x / 256 % 16 ≤ 4) : q3 m x % 256 = pf3 (x % 256) ∧ q3 m x / 256 = q3 (m / 256) (x / 256) := by
  have e2 : (2 : Nat) ^ 4 = 16 := rfl
  unfold q3
  rw [e2, and_split (x + x / 16) m, hm]
  have ha : x % 256 < 256 := Nat.mod_lt _ (by omega)
  have h4 : (x + x / 16) % 256 = x % 256 + x % 256 / 16 + 16 * (x / 256 % 16) := by omega
  have h5 : (x + x / 16) / 256 = x / 256 + x / 256 / 16 := by omega
  rw [h4, h5, pc_b3 _ ha h1 h2 _ (by omega)]
  have h6 : (x % 256 + x % 256 / 16 &&& 15) ≤ 15 := Nat.and_le_right
  unfold pf3
  generalize (x % 256 + x % 256 / 16 &&& 15) = u at h6 ⊢
  constructor <;> omega
def q123 (m5 m3 mf n : Nat) : Nat := q3 mf (q2 m3 (q1 m5 n))
theorem q2_nib {m3 m5 n : Nat} (h5 : m5 % 256 = 85) (h3 : m3 % 256 = 51) : q2 m3 (q1 m5 n) % 256 % 16 ≤ 4 ∧ q2 m3 (q1 m5 n) % 256 / 16 ≤ 4 := by
  rw [(q2_step h3).1, (q1_step h5).1]
  have := pc_byte (n % 256) (Nat.mod_lt _ (by omega))
  exact ⟨this.2.1, this.2.2.1⟩
theorem q123_step {m5 m3 mf n : Nat} (h5 : m5 % 256 = 85) (h3 : m3 % 256 = 51) (hf : mf % 256 = 15) (h5b : m5 / 256 % 256 = 85) (h3b : m3 / 256 % 256 = 51) : q123 m5 m3 mf n % 256 = fb_ct (fun i => (n % 256).testBit i) 8 ∧ q123 m5 m3 mf n / 256 = q123 (m5 / 256) (m3 / 256) (mf / 256) (n / 256) := by
  unfold q123
  have a1 := q1_step (n := n) h5
  have a2 := q2_step (x := q1 m5 n) h3
  have hn := q2_nib (n := n) h5 h3
  have hb := q2_nib (n := n / 256) h5b h3b
  have h16 : q2 m3 (q1 m5 n) / 256 % 16 ≤ 4 := by
    rw [a2.2, a1.2]
    have e : ∀ z : Nat, z % 256 % 16 = z % 16 := fun z => by omega
    rw [← e]
    exact hb.1
  have a3 := q3_step (x := q2 m3 (q1 m5 n)) hf hn.1 hn.2 h16
  refine ⟨?_, ?_⟩
  · rw [a3.1, a2.1, a1.1]
    exact (pc_byte (n % 256) (Nat.mod_lt _ (by omega))).2.2.2.2
  · rw [a3.2, a2.2, a1.2]
theorem ct_byte (n : Nat) : fb_ct (fun i => (n % 256).testBit i) 8 = fb_ct (fun i => n.testBit i) 8 := fb_ct_cong (fun k hk => by
  have e : (256 : Nat) = 2 ^ 8 := rfl
  rw [e, Nat.testBit_mod_two_pow]
  simp [hk])
theorem ct_shift (n m k : Nat) : fb_ct (fun i => (n / 2 ^ m).testBit i) k = fb_ct (fun i => n.testBit (m + i)) k := fb_ct_cong (fun j _ => by rw [Nat.testBit_div_two_pow, Nat.add_comm])
theorem popc_bytes (n : Nat) : popc n = fb_ct (fun i => (n % 256).testBit i) 8 + fb_ct (fun i => (n / 256 % 256).testBit i) 8 + fb_ct (fun i => (n / 65536 % 256).testBit i) 8 + fb_ct (fun i => (n / 16777216 % 256).testBit i) 8 := by
  rw [ct_byte, ct_byte, ct_byte, ct_byte]
  have e1 := ct_shift n 8 8
  have e2 := ct_shift n 16 8
  have e3 := ct_shift n 24 8
  have s1 : fb_ct (fun i => n.testBit i) 32 = fb_ct (fun i => n.testBit i) 8 + fb_ct (fun k => n.testBit (8 + k)) 24 := fb_ct_split (fun i => n.testBit i) 8 24
  have s2 : fb_ct (fun k => n.testBit (8 + k)) 24 = fb_ct (fun k => n.testBit (8 + k)) 8 + fb_ct (fun k => n.testBit (8 + (8 + k))) 16 := fb_ct_split (fun k => n.testBit (8 + k)) 8 16
  have s3 : fb_ct (fun k => n.testBit (8 + (8 + k))) 16 = fb_ct (fun k => n.testBit (8 + (8 + k))) 8 + fb_ct (fun k => n.testBit (8 + (8 + (8 + k)))) 8 := fb_ct_split (fun k => n.testBit (8 + (8 + k))) 8 8
  have c2 : fb_ct (fun k => n.testBit (8 + (8 + k))) 8 = fb_ct (fun i => n.testBit (16 + i)) 8 := fb_ct_cong (fun j _ => by congr 1; omega)
  have c3 : fb_ct (fun k => n.testBit (8 + (8 + (8 + k)))) 8 = fb_ct (fun i => n.testBit (24 + i)) 8 := fb_ct_cong (fun j _ => by congr 1; omega)
  have p1 : (2 : Nat) ^ 8 = 256 := rfl
  have p2 : (2 : Nat) ^ 16 = 65536 := rfl
  have p3 : (2 : Nat) ^ 24 = 16777216 := rfl
  rw [p1] at e1; rw [p2] at e2; rw [p3] at e3
  unfold popc
  rw [e1, e2, e3, ← c2, ← c3]
  omega
theorem fb8 (n : Nat) : fb_ct (fun i => n.testBit i) 8 ≤ 8 := fb_ct_le _ 8
abbrev qM5 : Nat := 6148914691236517205
abbrev qM3 : Nat := 3689348814741910323
abbrev qMF : Nat := 1085102592571150095
theorem bc_ok {n : Nat} (hn : n < 2 ^ 32) : q6 (q5 (q4 (q3 qMF (q2 qM3 (q1 qM5 n))))) &&& 127 = popc n := by
  have s0 := q123_step (m5 := qM5) (m3 := qM3) (mf := qMF) (n := n) (by decide) (by decide) (by decide) (by decide) (by decide)
  have s1 := q123_step (m5 := qM5 / 256) (m3 := qM3 / 256) (mf := qMF / 256) (n := n / 256) (by decide) (by decide) (by decide) (by decide) (by decide)
  have s2 := q123_step (m5 := qM5 / 256 / 256) (m3 := qM3 / 256 / 256) (mf := qMF / 256 / 256) (n := n / 256 / 256) (by decide) (by decide) (by decide) (by decide) (by decide)
  have s3 := q123_step (m5 := qM5 / 256 / 256 / 256) (m3 := qM3 / 256 / 256 / 256) (mf := qMF / 256 / 256 / 256) (n := n / 256 / 256 / 256) (by decide) (by decide) (by decide) (by decide) (by decide)
  have z0 : n / 256 / 256 / 256 / 256 = 0 := by omega
  have z1 : ∀ a b c, q123 a b c 0 = 0 := fun a b c => by simp [q123, q1, q2, q3]
  rw [z0, z1] at s3
  have hp := popc_bytes n
  have b0 := fb8 (n % 256)
  have b1 := fb8 (n / 256 % 256)
  have b2 := fb8 (n / 65536 % 256)
  have b3 := fb8 (n / 16777216 % 256)
  have d2 : n / 65536 = n / 256 / 256 := by omega
  have d3 : n / 16777216 = n / 256 / 256 / 256 := by omega
  rw [d2, d3] at hp
  rw [d2] at b2; rw [d3] at b3
  show q6 (q5 (q4 (q123 qM5 qM3 qMF n))) &&& 127 = popc n
  generalize q123 qM5 qM3 qMF n = x0 at s0 ⊢
  generalize q123 (qM5 / 256) (qM3 / 256) (qMF / 256) (n / 256) = x1 at s0 s1
  generalize q123 (qM5 / 256 / 256) (qM3 / 256 / 256) (qMF / 256 / 256) (n / 256 / 256) = x2 at s1 s2
  generalize q123 (qM5 / 256 / 256 / 256) (qM3 / 256 / 256 / 256) (qMF / 256 / 256 / 256) (n / 256 / 256 / 256) = x3 at s2 s3
  generalize fb_ct (fun i => (n % 256).testBit i) 8 = f0 at *
  generalize fb_ct (fun i => (n / 256 % 256).testBit i) 8 = f1 at *
  generalize fb_ct (fun i => (n / 256 / 256 % 256).testBit i) 8 = f2 at *
  generalize fb_ct (fun i => (n / 256 / 256 / 256 % 256).testBit i) 8 = f3 at *
  have hx : x0 = f0 + 256 * (f1 + 256 * (f2 + 256 * f3)) := by omega
  have m127 : ∀ z : Nat, z &&& 127 = z % 128 := fun z => Nat.and_two_pow_sub_one_eq_mod z 7
  rw [m127, hp]
  have p8 : (2 : Nat) ^ 8 = 256 := rfl
  have p16 : (2 : Nat) ^ 16 = 65536 := rfl
  have p32 : (2 : Nat) ^ 32 = 4294967296 := rfl
  have h4 : q4 x0 = (f0 + f1) + 256 * ((f1 + f2) + 256 * ((f2 + f3) + 256 * f3)) := by
    unfold q4
    rw [p8]
    omega
  have h5 : q5 (q4 x0) = (f0 + f1 + f2 + f3) + 256 * ((f1 + f2 + f3) + 256 * ((f2 + f3) + 256 * f3)) := by
    rw [h4]
    unfold q5
    rw [p16]
    omega
  have h6 : q6 (q5 (q4 x0)) = (f0 + f1 + f2 + f3) + 256 * ((f1 + f2 + f3) + 256 * ((f2 + f3) + 256 * f3)) := by
    rw [h5]
    unfold q6
    rw [p32]
    omega
  rw [h6]
  omega
theorem popc_bs {p : Nat → Bool} {n : Nat} (hn : n ≤ 32) : popc (bs p n) = fb_ct p n := by
  have h1 : popc (bs p n) = fb_ct (fun i => decide (i < n) && p i) 32 := fb_ct_cong (fun i _ => bs_bit p n i)
  rw [h1, show 32 = n + (32 - n) by omega, fb_ct_split]
  have h2 : fb_ct (fun k => decide (n + k < n) && p (n + k)) (32 - n) = 0 := fb_ct_zero.mpr (fun k _ => by rw [decide_eq_false (by omega), Bool.false_and])
  rw [h2, Nat.add_zero]
  exact fb_ct_cong (fun k hk => by simp [hk])
theorem bs_lt32 {p : Nat → Bool} {n : Nat} (hn : n ≤ 32) : bs p n < 2 ^ 32 := Nat.lt_of_lt_of_le (bs_lt p n) (Nat.pow_le_pow_right (by omega) hn)
theorem q1_b {n : Nat} (h : n < 2 ^ 32) : q1 qM5 n < 2 ^ 32 := Nat.lt_of_le_of_lt (Nat.sub_le _ _) h
theorem q1_s (n : Nat) : (n / 2 ^ 1 &&& qM5) ≤ n := Nat.le_trans Nat.and_le_left (Nat.div_le_self _ _)
theorem q2_b {x : Nat} (h : x < 2 ^ 32) : q2 qM3 x < 2 ^ 33 := by
  have h1 : (x &&& qM3) ≤ x := Nat.and_le_left
  have h2 : (x / 2 ^ 2 &&& qM3) ≤ x / 2 ^ 2 := Nat.and_le_left
  unfold q2
  omega
theorem q3_b {x : Nat} (h : x < 2 ^ 33) : q3 qMF x < 2 ^ 34 := by
  have h1 : (x + x / 2 ^ 4 &&& qMF) ≤ x + x / 2 ^ 4 := Nat.and_le_left
  unfold q3
  omega
theorem q4_b {x : Nat} (h : x < 2 ^ 34) : q4 x < 2 ^ 35 := by unfold q4; omega
theorem q5_b {x : Nat} (h : x < 2 ^ 35) : q5 x < 2 ^ 36 := by unfold q5; omega
end CBP
