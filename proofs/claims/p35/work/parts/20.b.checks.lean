/-! p35: what each check of the law rests on -/
section CBZ2
def bl (b : Bool) : Nat := if b = true then 1 else 0
theorem bl_1 {b : Bool} (h : lN (bl b) = lN 1) : b = true := by
  cases b with
  | true => rfl
  | false => exact absurd h (by decide)
theorem bl_n1 {b : Bool} (h : ¬ lN (bl b) = lN 1) : b = false := by
  cases b with
  | false => rfl
  | true => exact absurd rfl h
theorem bl_0 {b : Bool} (h : lN (bl b) = lN 0) : b = false := by
  cases b with
  | false => rfl
  | true => exact absurd h (by decide)
theorem bl_n0 {b : Bool} (h : ¬ lN (bl b) = lN 0) : b = true := by
  cases b with
  | true => rfl
  | false => exact absurd rfl h
theorem shr_bit {p : Nat → Bool} {n k : Nat} (hn : n ≤ 30) (hk : k < n) : (lN (bs p n) >>> ((nI k).toInt64 &&& 63)) &&& lN 1 = lN (bl (p k)) := by
  have h1 : bs p n < 2 ^ 62 := Nat.lt_of_lt_of_le (bs_lt p n) (Nat.pow_le_pow_right (by omega) (by omega))
  have h2 : ((lN k).toBitVec.smod 64).toNat = k := by
    show ((BitVec.ofNat 64 k).smod 64).toNat = k
    rw [wb_sm k (by omega), BitVec.toNat_ofNat, Nat.mod_eq_of_lt (by omega)]
  rw [wb_c k (by omega), pf_shr h2 h1, fb_andL]
  congr 1
  have h3 := bs_bit p n k
  rw [Nat.testBit_eq_decide_div_mod_eq, decide_eq_true hk, Bool.true_and] at h3
  rw [Nat.and_one_is_mod]
  unfold bl
  rw [← h3]
  by_cases h4 : bs p n / 2 ^ k % 2 = 1
  · rw [decide_eq_true h4, if_pos rfl]; exact h4
  · rw [decide_eq_false h4, if_neg (by decide)]
    omega
/-! the ages in a tent -/
def cMin (x y : Int32) : Int32 := if y < x then y else x
def YE (S : cs_S) (t : Nat) (y o : Int32) : Prop := (y = nI 99 ∧ o = nI 0) ∨ ∃ u v, u < c_ns S ∧ v < c_ns S ∧ c_ten S u = nI t ∧ c_ten S v = nI t ∧ y = c_age S u ∧ o = c_age S v
theorem ye_0 {S : cs_S} {t : Nat} : YE S t (nI 99) (nI 0) := Or.inl ⟨rfl, rfl⟩
theorem ye_step {S : cs_S} {t k : Nat} {y o : Int32} (hI : Inv S) (hk : k < c_ns S) (ht : c_ten S k = nI t) (h : YE S t y o) : YE S t (cMin y (c_age S k)) (cMax o (c_age S k)) := by
  obtain ⟨d, hd, hd2, ed⟩ := age_of hI hk
  rcases h with ⟨h1, h2⟩ | ⟨u, v, hu, hv, tu, tv, h1, h2⟩
  · refine Or.inr ⟨k, k, hk, hk, ht, ht, ?_, ?_⟩
    · rw [h1, ed]; exact if_pos (nI_lt (by omega) (by omega))
    · rw [h2, ed]; exact if_pos (nI_lt (by omega) (by omega))
  · have hy : cMin y (c_age S k) = c_age S k ∨ cMin y (c_age S k) = c_age S u := by
      unfold cMin
      split
      · exact Or.inl rfl
      · exact Or.inr h1
    have ho : cMax o (c_age S k) = c_age S k ∨ cMax o (c_age S k) = c_age S v := by
      unfold cMax
      split
      · exact Or.inl rfl
      · exact Or.inr h2
    rcases hy with a | a <;> rcases ho with b | b
    · exact Or.inr ⟨k, k, hk, hk, ht, ht, a, b⟩
    · exact Or.inr ⟨k, v, hk, hv, ht, tv, a, b⟩
    · exact Or.inr ⟨u, k, hu, hk, tu, ht, a, b⟩
    · exact Or.inr ⟨u, v, hu, hv, tu, tv, a, b⟩
theorem sub3 : ∀ a, a < 18 → ∀ b, b < 18 → a ≤ b + 3 → nI a - nI b ≤ nI 3 := by decide +kernel
theorem ye_end {S : cs_S} {t : Nat} {pl : Nat → Int32} {y o : Int32} (hI : Inv S) (hT : Tn pl S) (ht : t < c_nt S) (h : YE S t y o) : o - y ≤ nI 3 := by
  rcases h with ⟨h1, h2⟩ | ⟨u, v, hu, hv, tu, tv, h1, h2⟩
  · rw [h1, h2]; decide
  · obtain ⟨a, -, ha, ea⟩ := age_of hI hu
    obtain ⟨b, -, hb, eb⟩ := age_of hI hv
    have h3 := hT.2.2 v u t hv hu ht tv tu
    rw [ea, eb, show toN (nI a) = a from tn (by omega), show toN (nI b) = b from tn (by omega)] at h3
    rw [h1, h2, ea, eb]
    exact sub3 b (by omega) a (by omega) h3
theorem asleep_end {S : cs_S} (hI : Inv S) : nI (fb_sm (cntT S) (c_nt S)) + nI (c_out S) = nI (c_ns S) := by
  have h := out_sum hI.1.2.2.2.1 (c_ns S) hI.2.2.2.1
  rw [nI_add]
  congr 1
theorem cnt_le {S : cs_S} (hI : Inv S) (t : Nat) : cntT S t ≤ 30 := Nat.le_trans (fb_ct_le _ _) hI.1.2.2.1
theorem sm_le {S : cs_S} (hI : Inv S) {t : Nat} (ht : t ≤ c_nt S) : fb_sm (cntT S) t ≤ 300 := by
  have h := fb_sm_bound (f := cntT S) (c := 30) (n := t) (fun k _ => cnt_le hI k)
  have := hI.1.2.2.2.1
  omega
/-! the duties of a day -/
theorem hld_or {S : cs_S} {d q : Nat} (hI : Inv S) (hd : d ≤ 60) (hq : q < 5) : c_hld S (d * 5 + q) = -1 ∨ ∃ p, p < c_np S ∧ c_hld S (d * 5 + q) = nI p := hI.2.2.2.2.2.2.2.2.1 (d * 5 + q) (by omega)
def OfI (S : cs_S) (d k : Nat) (f : Nat → Int32) : Prop := ∀ p, p < 6 → (∀ o, o < k → ¬ c_hld S (d * 5 + o) = nI p) → f p = nI 0
theorem of_0 {S : cs_S} {d : Nat} : OfI S d 0 (fun _ => 0) := fun _ _ _ => rfl
theorem of_none {S : cs_S} {d k : Nat} {f : Nat → Int32} (h : OfI S d k f) : OfI S d (k + 1) f := fun p hp ho => h p hp (fun o hk => ho o (by omega))
theorem of_some {S : cs_S} {d k p : Nat} {f : Nat → Int32} (hD : Du S) (hd : d ≤ 60) (hk : k < 5) (hp : p < 6) (e : c_hld S (d * 5 + k) = nI p) (h : OfI S d k f) : f p = nI 0 ∧ OfI S d (k + 1) (upd f p (nI 1)) := by
  constructor
  · refine h p hp (fun o ho e2 => ?_)
    have h1 := hD.1 d k o hd hk (by omega) (by omega) (e.trans e2.symm)
    exact nI_m1 (by omega) (h1.symm.trans e)
  · intro p2 hp2 ho
    have hne : p2 ≠ p := fun z => ho k (by omega) (by rw [z]; exact e)
    rw [pk_un hne]
    exact h p2 hp2 (fun o hk2 => ho o (by omega))
theorem duty_twice {S : cs_S} {d k p : Nat} (hD : Du S) (hd : d < 60) (hk : k < 5) (hp : p < 6) (e : c_hld S ((d + 1) * 5 + k) = nI p) : ¬ c_hld S (d * 5 + k) = nI p := fun e2 => nI_m1 (by omega) ((hD.2 d k hd hk (e2.trans e.symm)).symm.trans e2)
def frE (S : cs_S) (d k : Nat) : Nat := fb_ct (opS S d) 5 - fb_ct (opS S d) k
theorem frE_le {S : cs_S} {d k : Nat} : frE S d k ≤ 5 := Nat.le_trans (Nat.sub_le _ _) (fb_ct_le _ _)
theorem frE_t {S : cs_S} {d k : Nat} (hk : k < 5) (e : c_hld S (d * 5 + k) = -1) : nI (frE S d k) - nI 1 = nI (frE S d (k + 1)) := by
  have h1 : opS S d k = true := decide_eq_true e
  have h2 : fb_ct (opS S d) (k + 1) = fb_ct (opS S d) k + 1 := by rw [fb_ct_succ, h1]; rfl
  have h3 : fb_ct (opS S d) (k + 1) ≤ fb_ct (opS S d) 5 := fb_ct_mono _ (by omega)
  unfold frE
  rw [pk_sub (by omega)]
  congr 1
  omega
theorem frE_f {S : cs_S} {d k : Nat} (e : ¬ c_hld S (d * 5 + k) = -1) : nI (frE S d k) - nI 0 = nI (frE S d (k + 1)) := by
  have h1 : opS S d k = false := decide_eq_false e
  have h2 : fb_ct (opS S d) (k + 1) = fb_ct (opS S d) k := by rw [fb_ct_succ, h1]; rfl
  unfold frE
  rw [h2, pk_sub (by omega)]
  rfl
theorem frE_0 {S : cs_S} {d : Nat} : frE S d 0 = fb_ct (opS S d) 5 := rfl
theorem frE_5 {S : cs_S} {d : Nat} : frE S d 5 = 0 := Nat.sub_self _
theorem fd_free {S : cs_S} {d : Nat} (h : c_day (S_findDuties S) = d) : r_findDuties S = nI (frE (S_findDuties S) d 0) := by
  subst h
  rfl
/-! the kitchen -/
theorem bM_can {S : cs_S} : ∀ {i b : Nat}, bM S i = some b → b < i ∧ canBE S b = true
  | 0, b, h => by simp [bM] at h
  | i + 1, b, h => by
    unfold bM at h
    split at h
    · next z => cases h; exact ⟨Nat.lt_succ_self _, z.2⟩
    · obtain ⟨h1, h2⟩ := bM_can h; exact ⟨Nat.lt_succ_of_lt h1, h2⟩
theorem best_of {S : cs_S} (h : ¬ oI (bM S (c_nm S)) < 0) : ∃ b, b < c_nm S ∧ canBE S b = true ∧ oI (bM S (c_nm S)) = nI b := by
  cases hb : bM S (c_nm S) with
  | none => rw [hb] at h; exact absurd (by decide) h
  | some b => exact ⟨b, (bM_can hb).1, (bM_can hb).2, rfl⟩
theorem hung_le (S : cs_S) (x : Int32) : c_hung (S_eat S x) ≤ c_hung S := by
  show fb_ct (fun s => !eatM S (toN x) s) (c_ns S) ≤ fb_ct (fun s => !c_eat S s) (c_ns S)
  refine fb_ct_sub (fun s _ h => ?_)
  unfold eatM at h
  revert h
  cases c_eat S s <;> simp
theorem hung_b {S : cs_S} (hI : Inv S) : c_hung S ≤ 30 := Nat.le_trans (fb_ct_le _ _) hI.1.2.2.1
theorem cntE_b {S : cs_S} (hI : Inv S) (b : Nat) : cntE S b ≤ 30 := Nat.le_trans (fb_ct_le _ _) hI.1.2.2.1
/-! the reads of the law: none throws; what each answers -/
theorem kz_scout {S : cs_S} {u w ns : Nat} (e : c_ns S = ns) (hn : ns ≤ 30) (hu : u < ns) (hw : w < 7) : k_scout S (nI u) (nI w) = 0 := by
  rw [k_scout, if_pos (ix_nI (by omega) (by omega)), if_pos (ix_nI hw (by omega))]
theorem rs_ten {S : cs_S} {u : Nat} (hu : u < 30) : r_scout S (nI u) (nI 4) = c_ten S u := by
  rw [r_scout, show toN (nI u) = u from tn (by omega), show toN (nI 4) = 4 from tn (by omega)]; rfl
theorem rs_bad {S : cs_S} {u : Nat} (hu : u < 30) : r_scout S (nI u) (nI 5) = c_bad S u := by
  rw [r_scout, show toN (nI u) = u from tn (by omega), show toN (nI 5) = 5 from tn (by omega)]; rfl
theorem rs_hrs {S : cs_S} {u : Nat} (hu : u < 30) : r_scout S (nI u) (nI 6) = allH S u := by
  rw [r_scout, show toN (nI u) = u from tn (by omega), show toN (nI 6) = 6 from tn (by omega)]; rfl
theorem kz_inTent {S : cs_S} {t nt : Nat} (e : c_nt S = nt) (hn : nt ≤ 10) (ht : t < nt) : k_inTent S (nI t) = 0 := by
  rw [k_inTent, if_pos (ix_nI (by omega) (by omega))]
theorem rs_inTent {S : cs_S} {t ns : Nat} (e : c_ns S = ns) (ht : t < 10) : r_inTent S (nI t) = lN (bs (inT S t) ns) := by
  rw [r_inTent, show toN (nI t) = t from tn (by omega), ← e]; rfl
theorem kz_duty {d q : Nat} (hd : d < 61) (hq : q < 5) : k_duty (nI d) (nI q) = 0 := by
  rw [k_duty, if_pos (ix_nI hq (by omega)), if_pos (ix_nI hd (by omega))]
theorem rs_duty {S : cs_S} {d q : Nat} (hd : d < 61) (hq : q < 5) : r_giveDuty S (nI d) (nI q) = c_hld S (d * 5 + q) := by
  rw [r_giveDuty, show toN (nI d) = d from tn (by omega), show toN (nI q) = q from tn (by omega)]
theorem kz_table {w : Nat} (hw : w < 3) : k_table (nI w) = 0 := by
  rw [k_table, if_pos (ix_nI hw (by omega))]
theorem rs_t0 {S : cs_S} : r_table S (nI 0) = nI (c_hung S) := by
  rw [r_table, show toN (nI 0) = 0 from tn (by omega)]; rfl
theorem rs_t1 {S : cs_S} : r_table S (nI 1) = nI (c_me S) := by
  rw [r_table, show toN (nI 1) = 1 from tn (by omega)]; rfl
theorem rs_t2 {S : cs_S} : r_table S (nI 2) = oI (bM S (c_nm S)) := by
  rw [r_table, show toN (nI 2) = 2 from tn (by omega)]; rfl
theorem kz_eaters {S : cs_S} {b nm : Nat} (e : c_nm S = nm) (hn : nm ≤ 10) (hb : b < nm) : k_eaters S (nI b) = 0 := by
  rw [k_eaters, if_pos (ix_nI (by omega) (by omega))]
theorem rs_eaters {S : cs_S} {b ns : Nat} (e : c_ns S = ns) (hb : b < 10) : r_eaters S (nI b) = lN (bs (canE S b) ns) := by
  rw [r_eaters, show toN (nI b) = b from tn (by omega), ← e]; rfl
theorem rs_eat {S : cs_S} {b : Nat} (hb : b < 10) : r_eat S (nI b) = nI (cntE S b) := by
  rw [r_eat, show toN (nI b) = b from tn (by omega)]
theorem kz_store {S : cs_S} {f nf : Nat} (e : c_nf S = nf) (hn : nf ≤ 12) (hf : f < nf) : k_store S (nI f) = 0 := by
  rw [k_store, if_pos (ix_nI (by omega) (by omega))]
theorem rs_store {S : cs_S} {f : Nat} (hf : f < 12) : r_store S (nI f) = c_sto S f := by
  rw [r_store, show toN (nI f) = f from tn (by omega)]
theorem kz_away {S : cs_S} {u ns nb : Nat} (e : c_ns S = ns) (hn : ns ≤ 30) (hu : u < ns) (e2 : c_nb S = nb) (hb : nb = 1) : k_away S (nI u) (nI 0) = 0 := by
  rw [k_away, if_pos (ix_nI (by omega) (by omega)), if_pos (ix_nI (by omega) (by omega))]
theorem rs_away {S : cs_S} {u : Nat} (hu : u < 30) : r_away S (nI u) (nI 0) = dist S u 0 := by
  rw [r_away, show toN (nI u) = u from tn (by omega), show toN (nI 0) = 0 from tn (by omega)]
theorem popc_in {S : cs_S} {t ns : Nat} (e : c_ns S = ns) (hn : ns ≤ 30) : popc (bs (inT S t) ns) = cntT S t := by
  rw [popc_bs (by omega), ← e]; rfl
theorem popc_can {S : cs_S} {b ns : Nat} (e : c_ns S = ns) (hn : ns ≤ 30) : popc (bs (canE S b) ns) = cntE S b := by
  rw [popc_bs (by omega), ← e]; rfl
theorem nI_lt0 {n : Nat} (h : n < 2 ^ 31) : ¬ nI n < 0 := nI_pos h
theorem m1_lt0 : (-1 : Int32) < 0 := by decide
theorem ag_upd {tl : Nat → Int32} {S : cs_S} {j : Nat} {x : Int32} (h : Ag tl S) (hj : 3 * c_ns S ≤ j) : Ag (upd tl j x) S := fun u hu => by
  rw [pk_un (by omega)]
  exact h u hu
end CBZ2
