/-! p35: what holds of the camp, beside Inv, at each point of the law; each of its calls keeps it -/
section CBY
def Cn (dy np ns nt nf nm nb : Nat) (S : cs_S) : Prop := c_day S = dy ∧ c_np S = np ∧ c_ns S = ns ∧ c_nt S = nt ∧ c_nf S = nf ∧ c_nm S = nm ∧ c_nb S = nb
def Ag (tl : Nat → Int32) (S : cs_S) : Prop := ∀ u, u < c_ns S → c_age S u = tl (3 * u + 1)
def Tn (pl : Nat → Int32) (S : cs_S) : Prop := (∀ t, t < c_nt S → c_plc S t = pl t) ∧ (∀ t, t < c_nt S → nI (cntT S t) ≤ c_plc S t) ∧ ∀ u v t, u < c_ns S → v < c_ns S → t < c_nt S → c_ten S u = nI t → c_ten S v = nI t → toN (c_age S u) ≤ toN (c_age S v) + 3
def Du (S : cs_S) : Prop := (∀ d q o, d ≤ 60 → q < 5 → o < 5 → q ≠ o → c_hld S (d * 5 + q) = c_hld S (d * 5 + o) → c_hld S (d * 5 + q) = -1) ∧ ∀ d q, d < 60 → q < 5 → c_hld S (d * 5 + q) = c_hld S ((d + 1) * 5 + q) → c_hld S (d * 5 + q) = -1
def Ki (S : cs_S) : Prop := (∀ j, j < 12 → ∃ x, x ≤ 10000 ∧ c_sto S j = nI x) ∧ ∀ j, j < 120 → ∃ x, x ≤ 50 ∧ c_ned S j = nI x
def Ba (hb : Nat) (S : cs_S) : Prop := (∀ u a, a < 10 → a ≠ 3 → c_hrs S (u * 10 + a) = nI 0) ∧ ∀ u, ∃ h, h ≤ hb ∧ c_hrs S (u * 10 + 3) = nI h
def Wn (w : Nat) (S : cs_S) : Prop := (∀ a, a < 10 → c_wnt S a = if a = 3 then nI w else nI 0) ∧ (c_nb S ≠ 0 → c_lag S 0 = nI 10)
def Cp (dy np ns nt nf nm nb hb w : Nat) (tl pl : Nat → Int32) (S : cs_S) : Prop := Inv S ∧ Cn dy np ns nt nf nm nb S ∧ Ag tl S ∧ Tn pl S ∧ Du S ∧ Ki S ∧ Ba hb S ∧ Wn w S
theorem inR_nI {y a b : Nat} (h1 : a ≤ y) (h2 : y ≤ b) (hb : b < 2 ^ 31) : inR (nI y) (nI a) (nI b) = true := decide_eq_true ⟨nI_le h1 (by omega), nI_le h2 hb⟩
theorem age_of {S : cs_S} {u : Nat} (hI : Inv S) (hu : u < c_ns S) : ∃ d, 6 ≤ d ∧ d ≤ 17 ∧ c_age S u = nI d := inR_ex (by omega) (by omega) (decide_eq_true (hI.2.2.1 u hu))
theorem abs3d : ∀ a, a < 18 → ∀ b, b < 18 → cAbs (nI a - nI b) ≤ nI 3 → a ≤ b + 3 ∧ b ≤ a + 3 := by decide +kernel
theorem abs3 {S : cs_S} {u v : Nat} (hI : Inv S) (hu : u < c_ns S) (hv : v < c_ns S) (h : cAbs (c_age S v - c_age S u) ≤ nI 3) : toN (c_age S u) ≤ toN (c_age S v) + 3 ∧ toN (c_age S v) ≤ toN (c_age S u) + 3 := by
  obtain ⟨a, -, ha, ea⟩ := age_of hI hu
  obtain ⟨b, -, hb, eb⟩ := age_of hI hv
  rw [ea, eb] at h ⊢
  have h3 := abs3d b (by omega) a (by omega) h
  rw [show toN (nI a) = a from tn (by omega), show toN (nI b) = b from tn (by omega)]
  omega
/-- a scout comes to another tent, or to none -/
theorem tn_ten {pl : Nat → Int32} {S : cs_S} {u : Nat} {x : Int32} (hI : Inv S) (hT : Tn pl S) (hu : u < c_ns S) (hx : x = -1 ∨ ∃ t, t < c_nt S ∧ x = nI t ∧ canT S u t = true) : Tn pl (s_ten S (upd (c_ten S) u x)) := by
  have hnt : c_nt S ≤ 10 := hI.1.2.2.2.1
  have hns : c_ns S ≤ 30 := hI.1.2.2.1
  have nm : ∀ t, t < c_nt S → x = nI t → canT S u t = true := fun t ht e => by
    rcases hx with q | ⟨t0, q1, q2, q3⟩
    · exact absurd (q.symm.trans e) (nI_m1 (by omega))
    · have e0 : t0 = t := (nI_eq (by omega) (by omega)).mp (q2.symm.trans e)
      rw [← e0]; exact q3
  have am : ∀ t v, t < c_nt S → x = nI t → v < c_ns S → c_ten S v = nI t → cAbs (c_age S v - c_age S u) ≤ nI 3 := fun t v ht e hv hv2 => by
    have h1 := al_all ((Bool.and_eq_true _ _).mp (nm t ht e)).2 hv
    unfold agF at h1
    have h2 : inT S t v = true := decide_eq_true hv2
    rw [h2] at h1
    exact of_decide_eq_true h1
  refine ⟨hT.1, fun t ht => ?_, fun a b t ha hb ht h1 h2 => ?_⟩
  · have ht' : t < c_nt S := ht
    show nI (cntT (s_ten S (upd (c_ten S) u x)) t) ≤ c_plc S t
    have key : ∀ s, s ≠ u → inT (s_ten S (upd (c_ten S) u x)) t s = true → inT S t s = true := fun s hs hq => by
      have h : upd (c_ten S) u x s = nI t := of_decide_eq_true hq
      rw [pk_un hs] at h
      exact decide_eq_true h
    have hc : cntT S t ≤ c_ns S := fb_ct_le _ _
    have h0 := hT.2.1 t ht'
    by_cases e : x = nI t
    · have h13 := ct_add1 (p := inT S t) (q := inT (s_ten S (upd (c_ten S) u x)) t) key (c_ns S)
      have h14 : nI (cntT S t) < c_plc S t := of_decide_eq_true ((Bool.and_eq_true _ _).mp (nm t ht' e)).1
      have h17 : cntT (s_ten S (upd (c_ten S) u x)) t ≤ cntT S t + (if u < c_ns S then 1 else 0) := h13
      rw [if_pos hu] at h17
      have h18 := (fa_lt _ _).mp h14
      rw [nI_toInt (by omega)] at h18
      refine (fa_le _ _).mpr ?_
      rw [nI_toInt (by omega)]
      omega
    · have h13 : cntT (s_ten S (upd (c_ten S) u x)) t ≤ cntT S t := fb_ct_sub (fun s _ hq => by
        by_cases hs : s = u
        · subst hs
          have h : upd (c_ten S) s x s = nI t := of_decide_eq_true hq
          rw [pk_us] at h
          exact absurd h e
        · exact key s hs hq)
      have h18 := (fa_le _ _).mp h0
      rw [nI_toInt (by omega)] at h18
      refine (fa_le _ _).mpr ?_
      rw [nI_toInt (by omega)]
      omega
  · have ha' : a < c_ns S := ha
    have hb' : b < c_ns S := hb
    have ht' : t < c_nt S := ht
    have h1' : upd (c_ten S) u x a = nI t := h1
    have h2' : upd (c_ten S) u x b = nI t := h2
    show toN (c_age S a) ≤ toN (c_age S b) + 3
    by_cases ea : a = u
    · by_cases eb : b = u
      · rw [ea, eb]; omega
      · rw [ea, pk_us] at h1'
        rw [pk_un eb] at h2'
        rw [ea]
        exact (abs3 hI hu hb' (am t b ht' h1' hb' h2')).1
    · by_cases eb : b = u
      · rw [eb, pk_us] at h2'
        rw [pk_un ea] at h1'
        rw [eb]
        exact (abs3 hI hu ha' (am t a ht' h2' ha' h1')).2
      · rw [pk_un ea] at h1'
        rw [pk_un eb] at h2'
        exact hT.2.2 a b t ha' hb' ht' h1' h2'
theorem cp_ten {dy np ns nt nf nm nb hb w : Nat} {tl pl : Nat → Int32} {S : cs_S} {u : Nat} {x : Int32} (h : Cp dy np ns nt nf nm nb hb w tl pl S) (hu : u < ns) (hx : x = -1 ∨ ∃ t, t < c_nt S ∧ x = nI t ∧ canT S u t = true) : Cp dy np ns nt nf nm nb hb w tl pl (s_ten S (upd (c_ten S) u x)) := by
  obtain ⟨hI, hC, hA, hT, hD, hK, hB, hW⟩ := h
  exact ⟨inv_ten hI hx, hC, hA, tn_ten hI hT (by rw [hC.2.2.1]; exact hu) hx, hD, hK, hB, hW⟩
theorem cp_ftIn {dy np ns nt nf nm nb hb w : Nat} {tl pl : Nat → Int32} {S : cs_S} {g : Nat} (h : Cp dy np ns nt nf nm nb hb w tl pl S) : ∀ u, u ≤ ns → Cp dy np ns nt nf nm nb hb w tl pl (ftIn S g u)
  | 0, _ => h
  | u + 1, hu => by
    unfold ftIn
    split
    · refine cp_ten (cp_ftIn h u (by omega)) (by omega) ?_
      cases hb : bT (ftIn S g u) u (c_nt (ftIn S g u)) with
      | none => exact Or.inl rfl
      | some b => exact Or.inr ⟨b, (bT_can hb).1, rfl, (bT_can hb).2⟩
    · exact cp_ftIn h u (by omega)
theorem cp_ftOut {dy np ns nt nf nm nb hb w : Nat} {tl pl : Nat → Int32} {S : cs_S} (h : Cp dy np ns nt nf nm nb hb w tl pl S) : ∀ g, Cp dy np ns nt nf nm nb hb w tl pl (ftOut S g)
  | 0 => h
  | g + 1 => by
    have h1 := cp_ftOut h g
    exact cp_ftIn h1 _ (Nat.le_of_eq h.2.1.2.2.1)
theorem cp_findTents {dy np ns nt nf nm nb hb w : Nat} {tl pl : Nat → Int32} {S : cs_S} (h : Cp dy np ns nt nf nm nb hb w tl pl S) : Cp dy np ns nt nf nm nb hb w tl pl (S_findTents S) := cp_ftOut h 12
theorem cp_sleep {dy np ns nt nf nm nb hb w : Nat} {tl pl : Nat → Int32} {S : cs_S} {u : Nat} (h : Cp dy np ns nt nf nm nb hb w tl pl S) (hu : u < ns) (h1 : ¬ c_ten S u = -1) : k_sleep S (nI u) (-1) = 0 ∧ Cp dy np ns nt nf nm nb hb w tl pl (S_sleep S (nI u) (-1)) := by
  have hns : c_ns S ≤ 30 := h.1.1.2.2.1
  have e : c_ns S = ns := h.2.1.2.2.1
  have et : toN (nI u) = u := tn (by omega)
  constructor
  · rw [k_sleep, if_pos (ix_nI (by omega) (by omega)), if_pos (Or.inl rfl), et, if_neg h1, if_pos (Or.inl rfl)]
  · rw [S_sleep, et]
    exact cp_ten h hu (Or.inl rfl)
theorem bD_can {S : cs_S} {d q : Nat} : ∀ {i b : Nat}, bD S d q i = some b → b < i ∧ canG S d q b = true
  | 0, b, h => by simp [bD] at h
  | i + 1, b, h => by
    unfold bD at h
    split at h
    · next z => cases h; exact ⟨Nat.lt_succ_self _, z.2⟩
    · obtain ⟨h1, h2⟩ := bD_can h; exact ⟨Nat.lt_succ_of_lt h1, h2⟩
theorem canG_ex {S : cs_S} {d q b : Nat} (h : canG S d q b = true) : (∀ o, o < 5 → o ≠ q → ¬ c_hld S (d * 5 + o) = nI b) ∧ ¬ hol S (nI d - nI 1).toInt q = nI b ∧ ¬ hol S (nI (d + 1)).toInt q = nI b := by
  unfold canG at h
  simp only [Bool.and_eq_true, Bool.not_eq_true', decide_eq_false_iff_not] at h
  obtain ⟨⟨⟨-, h2⟩, h3⟩, h4⟩ := h
  refine ⟨fun o ho hoq e => ?_, h3, h4⟩
  have h5 : dOt S d q b o = true := by
    unfold dOt
    rw [decide_eq_false hoq, decide_eq_true e]
    rfl
  rw [ex_t ho h5] at h2
  exact absurd h2 (by decide)
theorem du_hld {S : cs_S} {d q : Nat} {x : Int32} (hD : Du S) (hd : d ≤ 60) (hq : q < 5) (hx : x = -1 ∨ ∃ b, x = nI b ∧ canG S d q b = true) : Du (s_hld S (upd (c_hld S) (d * 5 + q) x)) := by
  constructor
  · intro d1 q1 o1 hd1 hq1 ho1 hne h
    have h' : upd (c_hld S) (d * 5 + q) x (d1 * 5 + q1) = upd (c_hld S) (d * 5 + q) x (d1 * 5 + o1) := h
    show upd (c_hld S) (d * 5 + q) x (d1 * 5 + q1) = -1
    by_cases e1 : d1 * 5 + q1 = d * 5 + q
    · have ed : d1 = d := by omega
      have eq : q1 = q := by omega
      subst ed; subst eq
      rw [pk_us, pk_un (by omega)] at h'
      rw [pk_us]
      rcases hx with z | ⟨b, z1, z2⟩
      · exact z
      · exact absurd (h'.symm.trans z1) ((canG_ex z2).1 o1 ho1 (fun z => hne z.symm))
    · rw [pk_un e1] at h' ⊢
      by_cases e2 : d1 * 5 + o1 = d * 5 + q
      · have ed : d1 = d := by omega
        have eo : o1 = q := by omega
        subst ed; subst eo
        rw [pk_us] at h'
        rcases hx with z | ⟨b, z1, z2⟩
        · exact h'.trans z
        · exact absurd (h'.trans z1) ((canG_ex z2).1 q1 hq1 hne)
      · rw [pk_un e2] at h'
        exact hD.1 d1 q1 o1 hd1 hq1 ho1 hne h'
  · intro d1 q1 hd1 hq1 h
    have h' : upd (c_hld S) (d * 5 + q) x (d1 * 5 + q1) = upd (c_hld S) (d * 5 + q) x ((d1 + 1) * 5 + q1) := h
    show upd (c_hld S) (d * 5 + q) x (d1 * 5 + q1) = -1
    by_cases e1 : d1 * 5 + q1 = d * 5 + q
    · have ed : d1 = d := by omega
      have eq : q1 = q := by omega
      subst ed; subst eq
      rw [pk_us, pk_un (by omega)] at h'
      rw [pk_us]
      rcases hx with z | ⟨b, z1, z2⟩
      · exact z
      · refine absurd ?_ (canG_ex z2).2.2
        rw [hol_nI (by omega)]
        exact h'.symm.trans z1
    · rw [pk_un e1] at h' ⊢
      by_cases e2 : (d1 + 1) * 5 + q1 = d * 5 + q
      · have ed : d = d1 + 1 := by omega
        have eq : q1 = q := by omega
        subst ed; subst eq
        rw [pk_us] at h'
        rcases hx with z | ⟨b, z1, z2⟩
        · exact h'.trans z
        · refine absurd ?_ (canG_ex z2).2.1
          rw [pk_sub (by omega), show d1 + 1 - 1 = d1 by omega, hol_nI (by omega)]
          exact h'.trans z1
      · rw [pk_un e2] at h'
        exact hD.2 d1 q1 hd1 hq1 h'
theorem cp_fdF {dy np ns nt nf nm nb hb w : Nat} {tl pl : Nat → Int32} {S : cs_S} (h : Cp dy np ns nt nf nm nb hb w tl pl S) : ∀ i, Cp dy np ns nt nf nm nb hb w tl pl (fdF S i)
  | 0 => h
  | i + 1 => by
    unfold fdF
    split
    · obtain ⟨hI, hC, hA, hT, hD, hK, hB, hW⟩ := cp_fdF h i
      refine ⟨inv_fd1 hI, hC, hA, hT, ?_, hK, hB, hW⟩
      refine du_hld hD hI.1.1 (dON_lt i) ?_
      cases hb : bD (fdF S i) (c_day (fdF S i)) (dON i) (c_np (fdF S i)) with
      | none => exact Or.inl rfl
      | some b => exact Or.inr ⟨b, rfl, (bD_can hb).2⟩
    · exact cp_fdF h i
theorem cp_findDuties {dy np ns nt nf nm nb hb w : Nat} {tl pl : Nat → Int32} {S : cs_S} (h : Cp dy np ns nt nf nm nb hb w tl pl S) : Cp dy np ns nt nf nm nb hb w tl pl (S_findDuties S) := cp_fdF h 5
theorem cp_diet {dy np ns nt nf nm nb hb w : Nat} {tl pl : Nat → Int32} {S : cs_S} {u f : Nat} {b : Bool} (h : Cp dy np ns nt nf nm nb hb w tl pl S) (hu : u < ns) (hf : f < nf) : k_diet S (nI u) (nI f) = 0 ∧ Cp dy np ns nt nf nm nb hb w tl pl (S_diet S (nI u) (nI f) b) := by
  have hns : c_ns S ≤ 30 := h.1.1.2.2.1
  have hnf : c_nf S ≤ 12 := h.1.1.2.2.2.2.1
  obtain ⟨hI, hC, hA, hT, hD, hK, hB, hW⟩ := h
  have e3 := hC.2.2.1
  have e5 := hC.2.2.2.2.1
  constructor
  · rw [k_diet, if_pos (ix_nI (by omega) (by omega)), if_pos (ix_nI (by omega) (by omega))]
  · exact ⟨inv_diet hI, hC, hA, hT, hD, hK, hB, hW⟩
/-- the start -/
theorem cp_1 {tl pl : Nat → Int32} : Cp 0 0 0 0 0 0 0 0 0 tl pl c_S1 := by
  refine ⟨inv_1, ⟨rfl, rfl, rfl, rfl, rfl, rfl, rfl⟩, fun u hu => absurd hu (Nat.not_lt_zero u), ⟨fun t ht => absurd ht (Nat.not_lt_zero t), fun t ht => absurd ht (Nat.not_lt_zero t), fun u v t hu => absurd hu (Nat.not_lt_zero u)⟩, ⟨fun d q o hd hq ho hne h => fill_m1 (by omega), fun d q hd hq h => fill_m1 (by omega)⟩, ⟨fun j hj => ⟨0, by omega, rfl⟩, fun j hj => ⟨0, by omega, rfl⟩⟩, ⟨fun u a ha ha3 => rfl, fun u => ⟨0, by omega, rfl⟩⟩, ⟨fun a ha => ?_, fun h => absurd rfl h⟩⟩
  show nI 0 = if a = 3 then nI 0 else nI 0
  split <;> rfl
theorem cp_addPatrol {np ns : Nat} {tl pl : Nat → Int32} {S : cs_S} (h : Cp 0 np ns 0 0 0 0 0 0 tl pl S) (hn : np < 6) : k_addPatrol S = 0 ∧ Cp 0 (np + 1) ns 0 0 0 0 0 0 tl pl (S_addPatrol S) := by
  obtain ⟨hI, ⟨e1, e2, e3, e4, e5, e6, e7⟩, hA, hT, hD, hK, hB, hW⟩ := h
  have hk : k_addPatrol S = 0 := if_pos (by omega)
  exact ⟨hk, inv_addPatrol hI hk, ⟨e1, congrArg (· + 1) e2, e3, e4, e5, e6, e7⟩, hA, hT, hD, hK, hB, hW⟩
theorem cp_addScout {np ns p g z : Nat} {tl pl : Nat → Int32} {S : cs_S} (h : Cp 0 np ns 0 0 0 0 0 0 tl pl S) (hp : p < np) (hg : g < 12) (hz : z < 256) (hn : ns < 30) (ht : tl (3 * ns + 1) = nI (6 + g)) : k_addScout S (nI p) (nI (6 + g)) (nI z) = 0 ∧ Cp 0 np (ns + 1) 0 0 0 0 0 0 tl pl (S_addScout S (nI p) (nI (6 + g)) (nI z)) := by
  obtain ⟨hI, ⟨e1, e2, e3, e4, e5, e6, e7⟩, hA, hT, hD, hK, hB, hW⟩ := h
  have hnp : c_np S ≤ 6 := hI.1.2.1
  have hk : k_addScout S (nI p) (nI (6 + g)) (nI z) = 0 := by
    rw [k_addScout, if_pos (ix_nI (by omega) (by omega)), if_pos (inR_nI (by omega) (by omega) (by omega)), if_pos (inR_nI (by omega) (by omega) (by omega)), if_pos (by omega)]
  refine ⟨hk, inv_addScout hI hk, ⟨e1, e2, congrArg (· + 1) e3, e4, e5, e6, e7⟩, fun u hu => ?_, ⟨fun t ht => ?_, fun t ht => ?_, fun u v t hu hv ht => ?_⟩, hD, hK, hB, hW⟩
  · have hu' : u < c_ns S + 1 := hu
    show upd (c_age S) (c_ns S) (nI (6 + g)) u = tl (3 * u + 1)
    by_cases e : u = c_ns S
    · rw [e, pk_us, e3, ht]
    · rw [pk_un e]; exact hA u (by omega)
  · have ht' : t < c_nt S := ht
    exact absurd ht' (by omega)
  · have ht' : t < c_nt S := ht
    exact absurd ht' (by omega)
  · have ht' : t < c_nt S := ht
    exact absurd ht' (by omega)
theorem cp_addTent {np ns nt y : Nat} {tl pl : Nat → Int32} {S : cs_S} (h : Cp 0 np ns nt 0 0 0 0 0 tl pl S) (h1 : 1 ≤ y) (h8 : y ≤ 8) (hn : nt < 10) : k_addTent S (nI y) = 0 ∧ Cp 0 np ns (nt + 1) 0 0 0 0 0 tl (upd pl nt (nI y)) (S_addTent S (nI y)) := by
  obtain ⟨hI, ⟨e1, e2, e3, e4, e5, e6, e7⟩, hA, hT, hD, hK, hB, hW⟩ := h
  have hk : k_addTent S (nI y) = 0 := by
    rw [k_addTent, if_pos (inR_nI (by omega) (by omega) (by omega)), if_pos (by omega)]
  have hv : ∀ u, u < c_ns S → ¬ c_ten S u = nI (c_nt S) := fun u hu q => by
    rcases hI.2.2.2.1 u hu with q1 | ⟨t2, q1, q2⟩
    · exact nI_m1 (by omega) (q1.symm.trans q)
    · have := (nI_eq (by omega) (by omega)).mp (q2.symm.trans q)
      omega
  refine ⟨hk, inv_addTent hI hk, ⟨e1, e2, e3, congrArg (· + 1) e4, e5, e6, e7⟩, hA, ⟨fun t ht => ?_, fun t ht => ?_, fun u v t hu hv2 ht q1 q2 => ?_⟩, hD, hK, hB, hW⟩
  · have ht' : t < c_nt S + 1 := ht
    show upd (c_plc S) (c_nt S) (nI y) t = upd pl nt (nI y) t
    rw [e4]
    by_cases e : t = nt
    · rw [e, pk_us, pk_us]
    · rw [pk_un e, pk_un e]; exact hT.1 t (by omega)
  · have ht' : t < c_nt S + 1 := ht
    show nI (cntT S t) ≤ upd (c_plc S) (c_nt S) (nI y) t
    by_cases e : t = c_nt S
    · have z : cntT S t = 0 := fb_ct_zero.mpr (fun u hu => by rw [e]; exact decide_eq_false (hv u hu))
      rw [z, e, pk_us]
      exact nI_le (by omega) (by omega)
    · rw [pk_un e]; exact hT.2.1 t (by omega)
  · have ht' : t < c_nt S + 1 := ht
    by_cases e : t = c_nt S
    · exact absurd (e ▸ q1) (hv u hu)
    · exact hT.2.2 u v t hu hv2 (by omega) q1 q2
theorem cp_addFood {np ns nt nf x : Nat} {tl pl : Nat → Int32} {S : cs_S} (h : Cp 0 np ns nt nf 0 0 0 0 tl pl S) (hx : x ≤ 10000) (hn : nf < 12) : k_addFood S (nI x) = 0 ∧ Cp 0 np ns nt (nf + 1) 0 0 0 0 tl pl (S_addFood S (nI x)) := by
  obtain ⟨hI, ⟨e1, e2, e3, e4, e5, e6, e7⟩, hA, hT, hD, hK, hB, hW⟩ := h
  have hk : k_addFood S (nI x) = 0 := by
    rw [k_addFood, if_pos (inR_nI (by omega) hx (by omega)), if_pos (by omega)]
  refine ⟨hk, inv_addFood hI hk, ⟨e1, e2, e3, e4, congrArg (· + 1) e5, e6, e7⟩, hA, hT, hD, ⟨fun j hj => ?_, hK.2⟩, hB, hW⟩
  show ∃ y, y ≤ 10000 ∧ upd (c_sto S) (c_nf S) (nI x) j = nI y
  by_cases e : j = c_nf S
  · exact ⟨x, hx, by rw [e, pk_us]⟩
  · rw [pk_un e]; exact hK.1 j hj
theorem cp_addMeal {np ns nt nf nm : Nat} {tl pl : Nat → Int32} {S : cs_S} (h : Cp 0 np ns nt nf nm 0 0 0 tl pl S) (hn : nm < 10) : k_addMeal S = 0 ∧ Cp 0 np ns nt nf (nm + 1) 0 0 0 tl pl (S_addMeal S) := by
  obtain ⟨hI, ⟨e1, e2, e3, e4, e5, e6, e7⟩, hA, hT, hD, hK, hB, hW⟩ := h
  have hk : k_addMeal S = 0 := if_pos (by omega)
  exact ⟨hk, inv_addMeal hI hk, ⟨e1, e2, e3, e4, e5, congrArg (· + 1) e6, e7⟩, hA, hT, hD, hK, hB, hW⟩
theorem cp_need {np ns nt nf nm mm f x : Nat} {tl pl : Nat → Int32} {S : cs_S} (h : Cp 0 np ns nt nf nm 0 0 0 tl pl S) (hm : mm < nm) (hf : f < nf) (hx : x ≤ 50) : k_need S (nI mm) (nI f) (nI x) = 0 ∧ Cp 0 np ns nt nf nm 0 0 0 tl pl (S_need S (nI mm) (nI f) (nI x)) := by
  obtain ⟨hI, ⟨e1, e2, e3, e4, e5, e6, e7⟩, hA, hT, hD, hK, hB, hW⟩ := h
  have hnm : c_nm S ≤ 10 := hI.1.2.2.2.2.2.1
  have hnf : c_nf S ≤ 12 := hI.1.2.2.2.2.1
  have hk : k_need S (nI mm) (nI f) (nI x) = 0 := by
    rw [k_need, if_pos (ix_nI (by omega) (by omega)), if_pos (ix_nI (by omega) (by omega)), if_pos (inR_nI (by omega) hx (by omega))]
  refine ⟨hk, inv_need hI hk, ⟨e1, e2, e3, e4, e5, e6, e7⟩, hA, hT, hD, ⟨hK.1, fun j hj => ?_⟩, hB, hW⟩
  show ∃ y, y ≤ 50 ∧ upd (c_ned S) (toN (nI mm) * 12 + toN (nI f)) (nI x) j = nI y
  by_cases e : j = toN (nI mm) * 12 + toN (nI f)
  · exact ⟨x, hx, by rw [e, pk_us]⟩
  · rw [pk_un e]; exact hK.2 j hj
theorem cp_addBadge {np ns nt nf nm : Nat} {tl pl : Nat → Int32} {S : cs_S} (h : Cp 0 np ns nt nf nm 0 0 0 tl pl S) : k_addBadge S (nI 10) = 0 ∧ Cp 0 np ns nt nf nm 1 0 0 tl pl (S_addBadge S (nI 10)) := by
  obtain ⟨hI, ⟨e1, e2, e3, e4, e5, e6, e7⟩, hA, hT, hD, hK, hB, hW⟩ := h
  have hk : k_addBadge S (nI 10) = 0 := by
    rw [k_addBadge, if_pos (inR_nI (by omega) (by omega) (by omega)), if_pos (by omega)]
  refine ⟨hk, inv_addBadge hI hk, ⟨e1, e2, e3, e4, e5, e6, congrArg (· + 1) e7⟩, hA, hT, hD, hK, hB, ⟨hW.1, fun _ => ?_⟩⟩
  show upd (c_lag S) (c_nb S) (nI 10) 0 = nI 10
  rw [e7, pk_us]
theorem cp_want {np ns nt nf nm : Nat} {tl pl : Nat → Int32} {S : cs_S} (h : Cp 0 np ns nt nf nm 1 0 0 tl pl S) : k_want S (nI 0) (nI 3) (nI 12) = 0 ∧ Cp 0 np ns nt nf nm 1 0 12 tl pl (S_want S (nI 0) (nI 3) (nI 12)) := by
  obtain ⟨hI, ⟨e1, e2, e3, e4, e5, e6, e7⟩, hA, hT, hD, hK, hB, hW⟩ := h
  have hk : k_want S (nI 0) (nI 3) (nI 12) = 0 := by
    rw [k_want, if_pos (ix_nI (by omega) (by omega)), if_pos (ix_nI (by omega) (by omega)), if_pos (inR_nI (by omega) (by omega) (by omega))]
  refine ⟨hk, inv_want hI, ⟨e1, e2, e3, e4, e5, e6, e7⟩, hA, hT, hD, hK, hB, ⟨fun a ha => ?_, hW.2⟩⟩
  show upd (c_wnt S) (toN (nI 0) * 10 + toN (nI 3)) (nI 12) a = if a = 3 then nI 12 else nI 0
  rw [show toN (nI 0) * 10 + toN (nI 3) = 3 by rw [show toN (nI 0) = 0 from tn (by omega), show toN (nI 3) = 3 from tn (by omega)]]
  by_cases e : a = 3
  · rw [e, pk_us, if_pos rfl]
  · rw [pk_un e, if_neg e, hW.1 a ha, if_neg e]
theorem sv_at {S : cs_S} {mm : Nat} : ∀ (i j : Nat), sv S mm i j = if j < i then c_sto S j - c_ned S (mm * 12 + j) * nI (cntE S mm) else c_sto S j
  | 0, j => (if_neg (Nat.not_lt_zero j)).symm
  | i + 1, j => by
    rw [sv_s]
    by_cases e : j = i
    · subst e
      rw [pk_us, if_pos (Nat.lt_succ_self j), sv_at j j, if_neg (Nat.lt_irrefl j)]
    · rw [pk_un e, sv_at i j]
      by_cases h : j < i
      · rw [if_pos h, if_pos (by omega)]
      · rw [if_neg h, if_neg (by omega)]
theorem cp_eat {dy np ns nt nf nm nb hb w b : Nat} {tl pl : Nat → Int32} {S : cs_S} (h : Cp dy np ns nt nf nm nb hb w tl pl S) (hm : b < nm) (hc : canBE S b = true) : k_eat S (nI b) = 0 ∧ Cp dy np ns nt nf nm nb hb w tl pl (S_eat S (nI b)) := by
  obtain ⟨hI, ⟨e1, e2, e3, e4, e5, e6, e7⟩, hA, hT, hD, hK, hB, hW⟩ := h
  have hnm : c_nm S ≤ 10 := hI.1.2.2.2.2.2.1
  have hnf : c_nf S ≤ 12 := hI.1.2.2.2.2.1
  have hns : c_ns S ≤ 30 := hI.1.2.2.1
  have et : toN (nI b) = b := tn (by omega)
  have hk : k_eat S (nI b) = 0 := by
    rw [k_eat, if_pos (ix_nI (by omega) (by omega)), et, if_pos hc]
  have hs : al (stkE S b (cntE S b)) (c_nf S) = true := by
    unfold canBE at hc
    simp only [Bool.and_eq_true] at hc
    exact hc.2
  have hcn : cntE S b ≤ 30 := Nat.le_trans (fb_ct_le _ _) hns
  refine ⟨hk, inv_eat hI hk, ⟨e1, e2, e3, e4, e5, e6, e7⟩, hA, hT, hD, ⟨fun j hj => ?_, hK.2⟩, hB, hW⟩
  show ∃ y, y ≤ 10000 ∧ sv S (toN (nI b)) (c_nf S) j = nI y
  rw [et, sv_at]
  obtain ⟨x, hx, ex⟩ := hK.1 j hj
  by_cases hjf : j < c_nf S
  · rw [if_pos hjf]
    obtain ⟨n, hn, en⟩ := hK.2 (b * 12 + j) (by omega)
    have h1 : c_ned S (b * 12 + j) * nI (cntE S b) ≤ c_sto S j := of_decide_eq_true (al_all hs hjf)
    have hmul : n * cntE S b ≤ 50 * 30 := Nat.mul_le_mul hn hcn
    rw [en, ex, pk_mul, nI_leI (by omega) (by omega)] at h1
    refine ⟨x - n * cntE S b, by omega, ?_⟩
    rw [en, ex, pk_mul, pk_sub h1]
  · rw [if_neg hjf]
    exact ⟨x, hx, ex⟩
theorem trn3 {S : cs_S} {p : Nat} {h : Int32} : ∀ i, (∀ u a, a < 10 → a ≠ 3 → trn S p 3 h i (u * 10 + a) = c_hrs S (u * 10 + a)) ∧ (∀ u, i ≤ u → trn S p 3 h i (u * 10 + 3) = c_hrs S (u * 10 + 3)) ∧ ∀ u, trn S p 3 h i (u * 10 + 3) = c_hrs S (u * 10 + 3) ∨ trn S p 3 h i (u * 10 + 3) = c_hrs S (u * 10 + 3) + h
  | 0 => ⟨fun _ _ _ _ => rfl, fun _ _ => rfl, fun _ => Or.inl rfl⟩
  | i + 1 => by
    obtain ⟨h1, h2, h3⟩ := trn3 (S := S) (p := p) (h := h) i
    unfold trn
    split
    · refine ⟨fun u a ha ha3 => ?_, fun u hu => ?_, fun u => ?_⟩
      · rw [pk_un (by omega)]; exact h1 u a ha ha3
      · rw [pk_un (by omega)]; exact h2 u (by omega)
      · by_cases e : u = i
        · subst e
          rw [pk_us, h2 u (Nat.le_refl u)]
          exact Or.inr rfl
        · rw [pk_un (by omega)]; exact h3 u
    · exact ⟨h1, fun u hu => h2 u (by omega), h3⟩
theorem cp_practise {dy np ns nt nf nm nb hb w p h : Nat} {tl pl : Nat → Int32} {S : cs_S} (hC : Cp dy np ns nt nf nm nb hb w tl pl S) (hp : p < np) (h1 : 1 ≤ h) (h9 : h ≤ 9) : k_practise S (nI p) (nI 3) (nI h) = 0 ∧ Cp dy np ns nt nf nm nb (hb + 9) w tl pl (S_practise S (nI p) (nI 3) (nI h)) := by
  obtain ⟨hI, ⟨e1, e2, e3, e4, e5, e6, e7⟩, hA, hT, hD, hK, hB, hW⟩ := hC
  have hnp : c_np S ≤ 6 := hI.1.2.1
  have hk : k_practise S (nI p) (nI 3) (nI h) = 0 := by
    rw [k_practise, if_pos (ix_nI (by omega) (by omega)), if_pos (ix_nI (by omega) (by omega)), if_pos (inR_nI (by omega) (by omega) (by omega))]
  have et : toN (nI 3) = 3 := tn (by omega)
  refine ⟨hk, inv_practise hI, ⟨e1, e2, e3, e4, e5, e6, e7⟩, hA, hT, hD, hK, ⟨fun u a ha ha3 => ?_, fun u => ?_⟩, hW⟩
  · show trn S (toN (nI p)) (toN (nI 3)) (nI h) (c_ns S) (u * 10 + a) = nI 0
    rw [et, (trn3 (c_ns S)).1 u a ha ha3]
    exact hB.1 u a ha ha3
  · show ∃ z, z ≤ hb + 9 ∧ trn S (toN (nI p)) (toN (nI 3)) (nI h) (c_ns S) (u * 10 + 3) = nI z
    obtain ⟨z, hz, ez⟩ := hB.2 u
    rw [et]
    rcases (trn3 (S := S) (p := toN (nI p)) (h := nI h) (c_ns S)).2.2 u with q | q
    · exact ⟨z, by omega, q.trans ez⟩
    · exact ⟨z + h, by omega, by rw [q, ez, nI_add]⟩
theorem cp_end {dy np ns nt nf nm nb hb w : Nat} {tl pl : Nat → Int32} {S : cs_S} (h : Cp dy np ns nt nf nm nb hb w tl pl S) (hd : dy < 60) : k_end S = 0 ∧ Cp (dy + 1) np ns nt nf nm nb hb w tl pl (S_end S) ∧ c_me (S_end S) = 0 ∧ c_hung (S_end S) = ns := by
  obtain ⟨hI, ⟨e1, e2, e3, e4, e5, e6, e7⟩, hA, hT, hD, hK, hB, hW⟩ := h
  have hk : k_end S = 0 := if_pos (by omega)
  refine ⟨hk, ⟨inv_end hI hk, ⟨congrArg (· + 1) e1, e2, e3, e4, e5, e6, e7⟩, hA, hT, hD, hK, hB, hW⟩, rfl, ?_⟩
  show fb_ct (fun s => !false) (c_ns S) = ns
  rw [← e3]
  exact fb_ct_all.mpr (fun _ _ => rfl)
/-! the badge -/
theorem cmax12 : ∀ h, h < 200 → cMax (nI 0) (nI 12 - nI h) = nI (12 - h) := by decide +kernel
theorem sm10 {f : Nat → Int32} {x : Int32} (h : ∀ a, a < 10 → f a = if a = 3 then x else nI 0) : sm f 10 = x := by
  have e : sm f 10 = sm (fun a => if a = 3 then x else nI 0) 10 := sm_cong h
  rw [e]
  show 0 + nI 0 + nI 0 + nI 0 + x + nI 0 + nI 0 + nI 0 + nI 0 + nI 0 + nI 0 = x
  rw [show nI 0 = (0 : Int32) from rfl]
  simp only [Int32.add_zero, Int32.zero_add]
theorem hrs_of {dy np ns nt nf nm nb hb w : Nat} {tl pl : Nat → Int32} {S : cs_S} (hC : Cp dy np ns nt nf nm nb hb w tl pl S) (u : Nat) : ∃ h, h ≤ hb ∧ c_hrs S (u * 10 + 3) = nI h := hC.2.2.2.2.2.2.1.2 u
theorem allH_of {dy np ns nt nf nm nb hb w : Nat} {tl pl : Nat → Int32} {S : cs_S} {u h : Nat} (hC : Cp dy np ns nt nf nm nb hb w tl pl S) (hh : c_hrs S (u * 10 + 3) = nI h) : allH S u = nI h := by
  refine sm10 (fun a ha => ?_)
  by_cases e : a = 3
  · rw [e, if_pos rfl]; exact hh
  · rw [if_neg e]; exact hC.2.2.2.2.2.2.1.1 u a ha e
theorem lack_of {dy np ns nt nf nm nb hb : Nat} {tl pl : Nat → Int32} {S : cs_S} {u h : Nat} (hC : Cp dy np ns nt nf nm nb hb 12 tl pl S) (hb2 : h < 200) (hh : c_hrs S (u * 10 + 3) = nI h) : lack S u 0 = nI (12 - h) := by
  refine sm10 (fun a ha => ?_)
  have hw := hC.2.2.2.2.2.2.2.1 a ha
  show cMax (nI 0) (c_wnt S (0 * 10 + a) - c_hrs S (u * 10 + a)) = _
  rw [show 0 * 10 + a = a by omega, hw]
  by_cases e : a = 3
  · rw [if_pos e, if_pos e, e, hh]; exact cmax12 h hb2
  · rw [if_neg e, if_neg e, hC.2.2.2.2.2.2.1.1 u a ha e]
    decide
theorem bad_of {dy np ns nt nf nm hb w : Nat} {tl pl : Nat → Int32} {S : cs_S} (hC : Cp dy np ns nt nf nm 1 hb w tl pl S) (u : Nat) : ∃ x, x < 2 ∧ c_bad S u = nI x := by
  obtain ⟨x, hx, ex⟩ := hC.1.2.2.2.2.2.2.2.2.2.1 u
  have e7 : c_nb S = 1 := hC.2.1.2.2.2.2.2.2
  rw [e7] at hx
  exact ⟨x, hx, ex⟩
theorem away_0 {dy np ns nt nf nm hb : Nat} {tl pl : Nat → Int32} {S : cs_S} {u : Nat} (hC : Cp dy np ns nt nf nm 1 hb 12 tl pl S) (hb2 : hb < 200) (hu : u < ns) (hd : dist S u 0 = 0) : nI 10 ≤ tl (3 * u + 1) ∧ (∃ h, h < 200 ∧ 12 ≤ h ∧ allH S u = nI h) ∧ c_bad S u = nI 0 := by
  have e7 : c_nb S = 1 := hC.2.1.2.2.2.2.2.2
  have e3 : c_ns S = ns := hC.2.1.2.2.1
  have hlag : c_lag S 0 = nI 10 := hC.2.2.2.2.2.2.2.2 (by omega)
  obtain ⟨h, hh, eh⟩ := hrs_of hC u
  unfold dist at hd
  split at hd
  · exact absurd hd (by decide)
  · next z1 =>
    split at hd
    · exact absurd hd (by decide)
    · next z2 =>
      rw [lack_of hC (by omega) eh] at hd
      refine ⟨?_, ⟨h, by omega, ?_, allH_of hC eh⟩, ?_⟩
      · rw [← hC.2.2.1 u (by omega), ← hlag]
        exact Int32.not_lt.mp z1
      · have h0 := (nI_eq (a := 12 - h) (b := 0) (by omega) (by omega)).mp hd
        omega
      · obtain ⟨x, hx, ex⟩ := bad_of hC u
        rw [ex, bt_nI x (by omega)] at z2
        rcases (show x = 0 ∨ x = 1 by omega) with rfl | rfl
        · exact ex
        · exact absurd (by decide) z2
theorem away_2 {dy np ns nt nf nm hb : Nat} {tl pl : Nat → Int32} {S : cs_S} {u : Nat} (hC : Cp dy np ns nt nf nm 1 hb 12 tl pl S) (hb2 : hb < 200) (hu : u < ns) : dist S u 0 = Int32.ofInt (-2) ↔ c_bad S u = nI 1 := by
  have e7 : c_nb S = 1 := hC.2.1.2.2.2.2.2.2
  have e3 : c_ns S = ns := hC.2.1.2.2.1
  obtain ⟨h, hh, eh⟩ := hrs_of hC u
  obtain ⟨x, hx, ex⟩ := bad_of hC u
  rcases (show x = 0 ∨ x = 1 by omega) with rfl | rfl
  · constructor
    · intro hd
      unfold dist at hd
      rw [ex] at hd
      split at hd
      · exact absurd hd (by decide)
      · split at hd
        · next z2 => exact absurd z2 (by decide)
        · rw [lack_of hC (by omega) eh] at hd
          exact absurd hd (by
            have : ∀ k, k < 13 → ¬ nI k = Int32.ofInt (-2) := by decide +kernel
            exact this _ (by omega))
    · intro hd
      rw [ex] at hd
      exact absurd hd (by decide)
  · constructor
    · intro _; exact ex
    · intro _
      have hb1 : bt (c_bad S u) 0 = true := by rw [ex]; decide
      have hl : ¬ c_age S u < c_lag S 0 := Int32.not_lt.mpr (hC.1.2.2.2.2.2.2.2.2.2.2.2 u 0 (by omega) (by omega) hb1)
      unfold dist
      rw [if_neg hl, if_pos hb1]
      decide
theorem cp_earn {dy np ns nt nf nm hb : Nat} {tl pl : Nat → Int32} {S : cs_S} {u : Nat} (hC : Cp dy np ns nt nf nm 1 hb 12 tl pl S) (hb2 : hb < 200) (hu : u < ns) (hd : dist S u 0 = 0) : k_earn S (nI u) (nI 0) = 0 ∧ r_earn S (nI u) (nI 0) = nI 1 ∧ Cp dy np ns nt nf nm 1 hb 12 tl pl (S_earn S (nI u) (nI 0)) ∧ c_bad (S_earn S (nI u) (nI 0)) u = nI 1 ∧ allH (S_earn S (nI u) (nI 0)) u = allH S u := by
  have h0 := away_0 hC hb2 hu hd
  have e7 : c_nb S = 1 := hC.2.1.2.2.2.2.2.2
  have e3 : c_ns S = ns := hC.2.1.2.2.1
  have hns : c_ns S ≤ 30 := hC.1.1.2.2.1
  have et : toN (nI u) = u := tn (by omega)
  have e0 : toN (nI 0) = 0 := tn (by omega)
  have hk : k_earn S (nI u) (nI 0) = 0 := by
    rw [k_earn, if_pos (ix_nI (by omega) (by omega)), if_pos (ix_nI (by omega) (by omega)), et, e0, if_pos hd]
  have hn : nbad S u 0 = nI 1 := by
    unfold nbad
    rw [h0.2.2]
    decide
  refine ⟨hk, ?_, ?_, ?_, rfl⟩
  · rw [r_earn, et, e0, hn, badN_nI (by omega)]
    decide +kernel
  · obtain ⟨hI, hCn, hA, hT, hD, hK, hB, hW⟩ := hC
    exact ⟨inv_earn hI hk, hCn, hA, hT, hD, hK, hB, hW⟩
  · show upd (c_bad S) (toN (nI u)) (nbad S (toN (nI u)) (toN (nI 0))) u = nI 1
    rw [et, e0, hn, pk_us]
end CBY
