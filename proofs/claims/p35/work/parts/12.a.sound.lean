/-! every call leaves a sound state behind it -/
section CBV
theorem inv_0 : Inv c_S0 := by
  refine ⟨⟨by decide, by decide, by decide, by decide, by decide, by decide, by decide, by decide⟩, fun u hu => absurd hu (Nat.not_lt_zero u), fun u hu => absurd hu (Nat.not_lt_zero u), fun u hu => absurd hu (Nat.not_lt_zero u), fun u hu => absurd hu (Nat.not_lt_zero u), fun u hu => absurd hu (Nat.not_lt_zero u), fun u hu => absurd hu (by show ¬ false = true; decide), fun j _ => by show nI 0 ≤ 0; decide, fun j _ => Or.inl rfl, fun u => ⟨0, by decide, rfl⟩, fun u _ => rfl, fun u b hu => absurd hu (Nat.not_lt_zero u)⟩
theorem inv_addPatrol {S : cs_S} (hI : Inv S) (h : k_addPatrol S = 0) : Inv (S_addPatrol S) := by
  have h6 : c_np S < 6 := by
    unfold k_addPatrol at h
    split at h
    · assumption
    · exact absurd h (by decide)
  obtain ⟨⟨b1, b2, b3, b4, b5, b6, b7, b8⟩, h2, h3, h4, h5, h6', h7, h8, h9, h10, h11, h12⟩ := hI
  refine ⟨⟨b1, h6, b3, b4, b5, b6, b7, b8⟩, fun u hu => ?_, h3, h4, h5, h6', h7, h8, fun j hj => ?_, h10, h11, h12⟩
  · obtain ⟨p, q1, q2⟩ := h2 u hu
    exact ⟨p, Nat.lt_succ_of_lt q1, q2⟩
  · rcases h9 j hj with q | ⟨p, q1, q2⟩
    · exact Or.inl q
    · exact Or.inr ⟨p, Nat.lt_succ_of_lt q1, q2⟩
theorem inv_addScout {S : cs_S} {x0 x1 x2 : Int32} (hI : Inv S) (h : k_addScout S x0 x1 x2 = 0) : Inv (S_addScout S x0 x1 x2) := by
  have hk : ix x0 (c_np S) = true ∧ inR x1 (nI 6) (nI 17) = true ∧ c_ns S < 30 := by
    unfold k_addScout at h
    split at h
    · next q1 =>
      split at h
      · next q2 =>
        split at h
        · split at h
          · next q3 => exact ⟨q1, q2, q3⟩
          · exact absurd h (by decide)
        · exact absurd h (by decide)
      · exact absurd h (by decide)
    · exact absurd h (by decide)
  obtain ⟨k1, k2, k3⟩ := hk
  obtain ⟨⟨b1, b2, b3, b4, b5, b6, b7, b8⟩, h2, h3, h4, h5, h6, h7, h8, h9, h10, h11, h12⟩ := hI
  obtain ⟨p, hp, ep⟩ := ix_t k1 (by omega)
  obtain ⟨r1, r2⟩ := inR_t k2
  have hlt : ∀ u, u < c_ns S + 1 → u ≠ c_ns S → u < c_ns S := fun u h1 h2 => by omega
  refine ⟨⟨b1, b2, k3, b4, b5, b6, b7, b8⟩, fun u hu => ?_, fun u hu => ?_, fun u hu => ?_, fun t ht => ?_, h6, fun u hu => Nat.lt_succ_of_lt (h7 u hu), h8, h9, h10, fun u hu => h11 u (Nat.le_of_succ_le hu), fun u b hu hb q => ?_⟩
  · show ∃ p, p < c_np S ∧ upd (c_pat S) (c_ns S) x0 u = nI p
    by_cases e : u = c_ns S
    · subst e; exact ⟨p, hp, pk_us.trans ep⟩
    · obtain ⟨p2, q1, q2⟩ := h2 u (hlt u hu e)
      exact ⟨p2, q1, (pk_un e).trans q2⟩
  · show nI 6 ≤ upd (c_age S) (c_ns S) x1 u ∧ upd (c_age S) (c_ns S) x1 u ≤ nI 17
    by_cases e : u = c_ns S
    · subst e; rw [pk_us]; exact ⟨r1, r2⟩
    · rw [pk_un e]; exact h3 u (hlt u hu e)
  · by_cases e : u = c_ns S
    · subst e; exact Or.inl pk_us
    · rcases h4 u (hlt u hu e) with q | ⟨t, q1, q2⟩
      · exact Or.inl ((pk_un e).trans q)
      · exact Or.inr ⟨t, q1, (pk_un e).trans q2⟩
  · have ht' : t < c_nt S := ht
    have e1 : cntT (S_addScout S x0 x1 x2) t = fb_ct (fun s => decide (upd (c_ten S) (c_ns S) (-1) s = nI t)) (c_ns S) + (if decide (upd (c_ten S) (c_ns S) (-1) (c_ns S) = nI t) = true then 1 else 0) := rfl
    have e2 : fb_ct (fun s => decide (upd (c_ten S) (c_ns S) (-1) s = nI t)) (c_ns S) = cntT S t := fb_ct_cong (fun s hs => by
      rw [pk_un (by omega)]
      rfl)
    rw [e1, e2, pk_us, decide_eq_false (nI_m1 (by omega))]
    exact h5 t ht'
  · have q' : bitI (c_bad S u) b = true := q
    by_cases e : u = c_ns S
    · subst e
      rw [h11 (c_ns S) (Nat.le_refl _)] at q'
      exact absurd q' (by show ¬ bt 0 b = true; rw [b_0]; decide)
    · show c_lag S b ≤ upd (c_age S) (c_ns S) x1 u
      rw [pk_un e]
      exact h12 u b (hlt u hu e) hb q'
theorem inv_addTent {S : cs_S} {x0 : Int32} (hI : Inv S) (h : k_addTent S x0 = 0) : Inv (S_addTent S x0) := by
  have hk : inR x0 (nI 1) (nI 8) = true ∧ c_nt S < 10 := by
    unfold k_addTent at h
    split at h
    · next q1 =>
      split at h
      · next q2 => exact ⟨q1, q2⟩
      · exact absurd h (by decide)
    · exact absurd h (by decide)
  obtain ⟨k1, k2⟩ := hk
  obtain ⟨r1, r2⟩ := inR_t k1
  obtain ⟨⟨b1, b2, b3, b4, b5, b6, b7, b8⟩, h2, h3, h4, h5, h6, h7, h8, h9, h10, h11, h12⟩ := hI
  refine ⟨⟨b1, b2, b3, k2, b5, b6, b7, b8⟩, h2, h3, fun u hu => ?_, fun t ht => ?_, fun t ht => ?_, h7, h8, h9, h10, h11, h12⟩
  · rcases h4 u hu with q | ⟨t, q1, q2⟩
    · exact Or.inl q
    · exact Or.inr ⟨t, Nat.lt_succ_of_lt q1, q2⟩
  · have ht' : t < c_nt S + 1 := ht
    show cntT S t ≤ 8
    by_cases e : t < c_nt S
    · exact h5 t e
    · have z : cntT S t = 0 := fb_ct_zero.mpr (fun u hu => by
        unfold inT
        rcases h4 u hu with q | ⟨t2, q1, q2⟩
        · rw [q]; exact decide_eq_false (nI_m1 (by omega))
        · rw [q2]; exact decide_eq_false (fun q => by have := (nI_eq (by omega) (by omega)).mp q; omega))
      omega
  · have ht' : t < c_nt S + 1 := ht
    show upd (c_plc S) (c_nt S) x0 t ≤ nI 8
    by_cases e : t = c_nt S
    · subst e; rw [pk_us]; exact r2
    · rw [pk_un e]; exact h6 t (by omega)
theorem inv_sleep {S : cs_S} {x0 x1 : Int32} (hI : Inv S) (h : k_sleep S x0 x1 = 0) : Inv (S_sleep S x0 x1) := by
  refine inv_ten hI ?_
  unfold k_sleep at h
  split at h
  · split at h
    · next q2 =>
      split at h
      · exact absurd h (by decide)
      · split at h
        · next q4 =>
          by_cases e : x1 = -1
          · exact Or.inl e
          · obtain ⟨t, ht, et⟩ := ix_t (q2.resolve_left e) (by have := hI.1.2.2.2.1; omega)
            have q5 := q4.resolve_left e
            rw [show toN x1 = t by rw [et]; exact tn (by have := hI.1.2.2.2.1; omega)] at q5
            exact Or.inr ⟨t, ht, et, q5⟩
        · exact absurd h (by decide)
    · exact absurd h (by decide)
  · exact absurd h (by decide)
theorem inv_giveDuty {S : cs_S} {x0 x1 x2 : Int32} (hI : Inv S) (h : k_giveDuty S x0 x1 x2 = 0) : Inv (S_giveDuty S x0 x1 x2) := by
  refine inv_hld hI ?_
  unfold k_giveDuty at h
  split at h
  · split at h
    · next q2 =>
      by_cases e : x2 = -1
      · exact Or.inl e
      · obtain ⟨t, ht, et⟩ := ix_t (q2.resolve_left e) (by have := hI.1.2.1; omega)
        exact Or.inr ⟨t, ht, et⟩
    · exact absurd h (by decide)
  · exact absurd h (by decide)
theorem inv_addFood {S : cs_S} {x0 : Int32} (hI : Inv S) (h : k_addFood S x0 = 0) : Inv (S_addFood S x0) := by
  have hk : c_nf S < 12 := by
    unfold k_addFood at h
    split at h
    · split at h
      · assumption
      · exact absurd h (by decide)
    · exact absurd h (by decide)
  obtain ⟨⟨b1, b2, b3, b4, b5, b6, b7, b8⟩, h2, h3, h4, h5, h6, h7, h8, h9, h10, h11, h12⟩ := hI
  exact ⟨⟨b1, b2, b3, b4, hk, b6, b7, b8⟩, h2, h3, h4, h5, h6, h7, h8, h9, h10, h11, h12⟩
theorem inv_buy {S : cs_S} {x0 x1 : Int32} (hI : Inv S) : Inv (S_buy S x0 x1) := by
  obtain ⟨h1, h2, h3, h4, h5, h6, h7, h8, h9, h10, h11, h12⟩ := hI
  exact ⟨h1, h2, h3, h4, h5, h6, h7, h8, h9, h10, h11, h12⟩
theorem inv_diet {S : cs_S} {x0 x1 : Int32} {b : Bool} (hI : Inv S) : Inv (S_diet S x0 x1 b) := by
  obtain ⟨h1, h2, h3, h4, h5, h6, h7, h8, h9, h10, h11, h12⟩ := hI
  exact ⟨h1, h2, h3, h4, h5, h6, h7, h8, h9, h10, h11, h12⟩
theorem inv_addMeal {S : cs_S} (hI : Inv S) (h : k_addMeal S = 0) : Inv (S_addMeal S) := by
  have hk : c_nm S < 10 := by
    unfold k_addMeal at h
    split at h
    · assumption
    · exact absurd h (by decide)
  obtain ⟨⟨b1, b2, b3, b4, b5, b6, b7, b8⟩, h2, h3, h4, h5, h6, h7, h8, h9, h10, h11, h12⟩ := hI
  exact ⟨⟨b1, b2, b3, b4, b5, hk, b7, b8⟩, h2, h3, h4, h5, h6, h7, h8, h9, h10, h11, h12⟩
theorem inv_need {S : cs_S} {x0 x1 x2 : Int32} (hI : Inv S) (h : k_need S x0 x1 x2 = 0) : Inv (S_need S x0 x1 x2) := by
  have hk : inR x2 (nI 0) (nI 50) = true := by
    unfold k_need at h
    split at h
    · split at h
      · split at h
        · assumption
        · exact absurd h (by decide)
      · exact absurd h (by decide)
    · exact absurd h (by decide)
  obtain ⟨h1, h2, h3, h4, h5, h6, h7, h8, h9, h10, h11, h12⟩ := hI
  refine ⟨h1, h2, h3, h4, h5, h6, h7, fun j hj => ?_, h9, h10, h11, h12⟩
  show nI 0 ≤ upd (c_ned S) (toN x0 * 12 + toN x1) x2 j
  by_cases e : j = toN x0 * 12 + toN x1
  · rw [← e, pk_us]; exact (inR_t hk).1
  · rw [pk_un e]; exact h8 j hj
theorem inv_eat {S : cs_S} {x0 : Int32} (hI : Inv S) (h : k_eat S x0 = 0) : Inv (S_eat S x0) := by
  have hk : c_me S < 3 := by
    unfold k_eat at h
    split at h
    · split at h
      · next q2 =>
        unfold canBE at q2
        simp only [Bool.and_eq_true, decide_eq_true_eq] at q2
        exact q2.1.1.1
      · exact absurd h (by decide)
    · exact absurd h (by decide)
  obtain ⟨⟨b1, b2, b3, b4, b5, b6, b7, b8⟩, h2, h3, h4, h5, h6, h7, h8, h9, h10, h11, h12⟩ := hI
  refine ⟨⟨b1, b2, b3, b4, b5, b6, b7, hk⟩, h2, h3, h4, h5, h6, fun u hu => ?_, h8, h9, h10, h11, h12⟩
  have hu2 : (c_eat S u || (decide (u < c_ns S) && canE S (toN x0) u)) = true := hu
  show u < c_ns S
  rcases (Bool.or_eq_true _ _).mp hu2 with q | q
  · exact h7 u q
  · exact of_decide_eq_true ((Bool.and_eq_true _ _).mp q).1
theorem inv_addBadge {S : cs_S} {x0 : Int32} (hI : Inv S) (h : k_addBadge S x0 = 0) : Inv (S_addBadge S x0) := by
  have hk : c_nb S < 8 := by
    unfold k_addBadge at h
    split at h
    · split at h
      · assumption
      · exact absurd h (by decide)
    · exact absurd h (by decide)
  obtain ⟨⟨b1, b2, b3, b4, b5, b6, b7, b8⟩, h2, h3, h4, h5, h6, h7, h8, h9, h10, h11, h12⟩ := hI
  refine ⟨⟨b1, b2, b3, b4, b5, b6, hk, b8⟩, h2, h3, h4, h5, h6, h7, h8, h9, fun u => ?_, h11, fun u b hu hb q => ?_⟩
  · obtain ⟨x, q1, q2⟩ := h10 u
    exact ⟨x, Nat.lt_of_lt_of_le q1 (Nat.pow_le_pow_right (by omega) (Nat.le_succ _)), q2⟩
  · have hb' : b < c_nb S + 1 := hb
    have q' : bitI (c_bad S u) b = true := q
    show upd (c_lag S) (c_nb S) x0 b ≤ c_age S u
    by_cases e : b = c_nb S
    · subst e
      obtain ⟨x, q1, q2⟩ := h10 u
      have q3 : bt (c_bad S u) (c_nb S) = true := q'
      rw [q2, bt_nI _ (by omega), Nat.testBit_lt_two_pow q1] at q3
      exact absurd q3 (by decide)
    · rw [pk_un e]
      exact h12 u b hu (by omega) q'
theorem inv_want {S : cs_S} {x0 x1 x2 : Int32} (hI : Inv S) : Inv (S_want S x0 x1 x2) := by
  obtain ⟨h1, h2, h3, h4, h5, h6, h7, h8, h9, h10, h11, h12⟩ := hI
  exact ⟨h1, h2, h3, h4, h5, h6, h7, h8, h9, h10, h11, h12⟩
theorem inv_practise {S : cs_S} {x0 x1 x2 : Int32} (hI : Inv S) : Inv (S_practise S x0 x1 x2) := by
  obtain ⟨h1, h2, h3, h4, h5, h6, h7, h8, h9, h10, h11, h12⟩ := hI
  exact ⟨h1, h2, h3, h4, h5, h6, h7, h8, h9, h10, h11, h12⟩
theorem inv_earn {S : cs_S} {x0 x1 : Int32} (hI : Inv S) (h : k_earn S x0 x1 = 0) : Inv (S_earn S x0 x1) := by
  have hk : ix x0 (c_ns S) = true ∧ ix x1 (c_nb S) = true ∧ dist S (toN x0) (toN x1) = 0 := by
    unfold k_earn at h
    split at h
    · next q1 =>
      split at h
      · next q2 =>
        split at h
        · next q3 => exact ⟨q1, q2, q3⟩
        · exact absurd h (by decide)
      · exact absurd h (by decide)
    · exact absurd h (by decide)
  obtain ⟨k1, k2, k3⟩ := hk
  obtain ⟨⟨b1, b2, b3, b4, b5, b6, b7, b8⟩, h2, h3, h4, h5, h6, h7, h8, h9, h10, h11, h12⟩ := hI
  obtain ⟨u0, hu0, eu0⟩ := ix_t k1 (by omega)
  obtain ⟨b0, hb0, eb0⟩ := ix_t k2 (by omega)
  have t0 : toN x0 = u0 := by rw [eu0]; exact tn (by omega)
  have t1 : toN x1 = b0 := by rw [eb0]; exact tn (by omega)
  unfold S_earn
  rw [t0, t1] at k3 ⊢
  obtain ⟨x, hx, ex⟩ := h10 u0
  have en : nbad S u0 b0 = nI (x ||| 2 ^ b0) := by unfold nbad; rw [ex, fa_or]
  refine ⟨⟨b1, b2, b3, b4, b5, b6, b7, b8⟩, h2, h3, h4, h5, h6, h7, h8, h9, fun v => ?_, fun v hv => ?_, fun v b hv hb q => ?_⟩
  · show ∃ x, x < 2 ^ c_nb S ∧ upd (c_bad S) u0 (nbad S u0 b0) v = nI x
    by_cases e : v = u0
    · subst e
      exact ⟨x ||| 2 ^ b0, Nat.or_lt_two_pow hx (Nat.pow_lt_pow_right (by omega) hb0), pk_us.trans en⟩
    · rw [pk_un e]; exact h10 v
  · have hv' : c_ns S ≤ v := hv
    show upd (c_bad S) u0 (nbad S u0 b0) v = nI 0
    rw [pk_un (by omega)]
    exact h11 v hv'
  · have q' : bt (upd (c_bad S) u0 (nbad S u0 b0) v) b = true := q
    show c_lag S b ≤ c_age S v
    by_cases e : v = u0
    · subst e
      rw [pk_us] at q'
      unfold nbad at q'
      rw [b_or, bt_nI _ (by have : b < c_nb S := hb; omega), tb_pow] at q'
      rcases (Bool.or_eq_true _ _).mp q' with z | z
      · exact h12 v b hv hb z
      · have e2 := of_decide_eq_true z
        subst e2
        unfold dist at k3
        split at k3
        · exact absurd k3 (by decide)
        · next z2 => exact Int32.not_lt.mp z2
    · rw [pk_un e] at q'
      exact h12 v b hv hb q'
theorem inv_end {S : cs_S} (hI : Inv S) (h : k_end S = 0) : Inv (S_end S) := by
  have hk : c_day S < 60 := by
    unfold k_end at h
    split at h
    · assumption
    · exact absurd h (by decide)
  obtain ⟨⟨b1, b2, b3, b4, b5, b6, b7, b8⟩, h2, h3, h4, h5, h6, h7, h8, h9, h10, h11, h12⟩ := hI
  exact ⟨⟨hk, b2, b3, b4, b5, b6, b7, Nat.zero_le _⟩, h2, h3, h4, h5, h6, fun u hu => absurd hu (by show ¬ false = true; decide), h8, h9, h10, h11, h12⟩
theorem inv_ftIn {S : cs_S} {g : Nat} (hI : Inv S) : ∀ u, Inv (ftIn S g u)
  | 0 => hI
  | u + 1 => by
    unfold ftIn
    split
    · exact inv_ft1 (inv_ftIn hI u)
    · exact inv_ftIn hI u
theorem inv_ftOut {S : cs_S} (hI : Inv S) : ∀ g, Inv (ftOut S g)
  | 0 => hI
  | g + 1 => inv_ftIn (inv_ftOut hI g) _
theorem inv_findTents {S : cs_S} (hI : Inv S) : Inv (S_findTents S) := inv_ftOut hI 12
theorem inv_fdF {S : cs_S} (hI : Inv S) : ∀ i, Inv (fdF S i)
  | 0 => hI
  | i + 1 => by
    unfold fdF
    split
    · exact inv_fd1 (inv_fdF hI i)
    · exact inv_fdF hI i
theorem inv_findDuties {S : cs_S} (hI : Inv S) : Inv (S_findDuties S) := inv_fdF hI 5
end CBV
