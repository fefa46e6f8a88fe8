/-! the law's own calls: what is caught, and what is written into its row -/
section CBL
theorem px_1 {e1 E : String} {kk : Nat} (h : px [e1] kk E) : kk = 1 ∧ E = e1 := by
  obtain ⟨h1, h2⟩ := h
  rcases (show kk = 1 ∨ 2 ≤ kk by omega) with q | q
  · subst q
    exact ⟨rfl, (Option.some.inj h2).symm⟩
  · rw [List.getElem?_eq_none (by simp; omega)] at h2
    exact absurd h2 (by simp)
theorem px_2 {e1 e2 E : String} {kk : Nat} (h : px [e1, e2] kk E) : (kk = 1 ∧ E = e1) ∨ (kk = 2 ∧ E = e2) := by
  obtain ⟨h1, h2⟩ := h
  rcases (show kk = 1 ∨ kk = 2 ∨ 3 ≤ kk by omega) with q | q | q
  · subst q
    exact Or.inl ⟨rfl, (Option.some.inj h2).symm⟩
  · subst q
    exact Or.inr ⟨rfl, (Option.some.inj h2).symm⟩
  · rw [List.getElem?_eq_none (by simp; omega)] at h2
    exact absurd h2 (by simp)
theorem px_3 {e1 e2 e3 E : String} {kk : Nat} (h : px [e1, e2, e3] kk E) : (kk = 1 ∧ E = e1) ∨ (kk = 2 ∧ E = e2) ∨ (kk = 3 ∧ E = e3) := by
  obtain ⟨h1, h2⟩ := h
  rcases (show kk = 1 ∨ kk = 2 ∨ kk = 3 ∨ 4 ≤ kk by omega) with q | q | q | q
  · subst q
    exact Or.inl ⟨rfl, (Option.some.inj h2).symm⟩
  · subst q
    exact Or.inr (Or.inl ⟨rfl, (Option.some.inj h2).symm⟩)
  · subst q
    exact Or.inr (Or.inr ⟨rfl, (Option.some.inj h2).symm⟩)
  · rw [List.getElem?_eq_none (by simp; omega)] at h2
    exact absurd h2 (by simp)
/-- the classes that differ: what a handler for one lets pass -/
def cb_nc : List (String × String) := [(xE_A, xE_I), (xE_S, xE_I), (xE_S, xE_A)]
def cEL (A : Nat → Prop) (U : State) : Prop := cE A U ∧ ∀ q ∈ cb_nc, va_Nc q.1 q.2 U
theorem cEL_call {A A' : Nat → Prop} {s U : State} {H : Heap} {locs : List Loc} (hE : cEL A s) (hS : va_S A s.heap H locs) (hU : U.heap = H) (hW : s.WarmedH U.vm) (hA : ∀ q, A' q → A q) : cEL A' U := ⟨cE_call hE.1 hS hU hW hA, fun q hq => va_Nc.moved hW.alike (hE.2 q hq)⟩
def cV (dC : Nat → ClassId) (dI : Nat → Nat → Nat) (sz : Nat) (ws : va_W) (tys : List (ClassId × FieldType)) (U : State) : Prop := cT dC dI sz ws tys U ∧ cEL (va_A ws sz) U
theorem cV_blind {dC : Nat → ClassId} {dI : Nat → Nat → Nat} {sz : Nat} {ws : va_W} {tys : List (ClassId × FieldType)} {av : List Value} : FrameBlind (va_Pc av (cV dC dI sz ws tys)) := fun a U g mk q => ⟨(cT_blind a U g mk ⟨q.1, q.2.1⟩).1, (cT_blind a U g mk ⟨q.1, q.2.1⟩).2, cE_calling q.2.2.1, fun z hz => va_Nc.moved (Vm.Alike.refl U.vm) (q.2.2.2 z hz)⟩
theorem cV_of {dC : Nat → ClassId} {dI : Nat → Nat → Nat} {ws : va_W} {tys : List (ClassId × FieldType)} {s U : State} {H : Heap} {locs : List Loc} {A : Nat → Prop} (hK : va_K (dC, dI) vwCl tys s) (hP : va_P (dC, dI) vwCl ws H) (hD : va_D A ws) (hE : cEL A s) (hS : va_S A s.heap H locs) (hU : U.heap = H) (hW : s.WarmedH U.vm) (hA : ∀ q, va_A ws H.size q → A q) : cV dC dI H.size ws tys U := ⟨cT_of hK hP hD hU hW, by rw [← hU]; rw [← hU] at hA; exact cEL_call hE hS hU hW (fun q h => hA q (by rw [hU] at h; rw [hU]; exact h))⟩
theorem bl_long (b : Bool) : (if b = true then (lN 1 : Int64) else lN 0) = (bI b).toInt64 := by cases b <;> decide
end CBL
