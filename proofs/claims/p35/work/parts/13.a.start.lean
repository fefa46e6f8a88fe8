/-! the new book -/
section CBA
def c_S1 : cs_S := s_hld c_S0 (fa_fill (fun _ => -1) (fun _ => 0) 305)
theorem sm_zero {f : Nat → Int32} : ∀ n, (∀ k, k < n → f k = 0) → sm f n = 0
  | 0, _ => rfl
  | n + 1, h => by
    show sm f n + f n = 0
    rw [sm_zero n (fun k hk => h k (Nat.lt_succ_of_lt hk)), h n (Nat.lt_succ_self n)]
    rfl
theorem fill_m1 {j : Nat} (h : j < 305) : fa_fill (fun _ => (-1 : Int32)) (fun _ => 0) 305 j = -1 := if_pos h
theorem inv_hldF {S : cs_S} {f : Nat → Int32} (hI : Inv S) (h : ∀ j, j < 305 → f j = -1) : Inv (s_hld S f) := by
  obtain ⟨h1, h2, h3, h4, h5, h6, h7, h8, -, h10, h11, h12⟩ := hI
  exact ⟨h1, h2, h3, h4, h5, h6, h7, h8, fun j hj => Or.inl (h j hj), h10, h11, h12⟩
theorem inv_1 : Inv c_S1 := inv_hldF inv_0 (fun _ h => fill_m1 h)
theorem pts_none {S : cs_S} {p : Nat} (hp : p < 6) (h : ∀ k, k < 305 → c_hld S k = -1) : pts S p = 0 := sm_zero 305 (fun k hk => by rw [h k hk, if_neg (nI_m1 (by omega))])
theorem pt_none {S : cs_S} (h : ∀ k, k < 305 → c_hld S k = -1) : c_pt S = fun _ => 0 := by
  funext p
  unfold c_pt
  by_cases hp : p < 6
  · rw [if_pos hp, pts_none hp h]
  · rw [if_neg hp]
theorem sl_none {S : cs_S} (h : c_ns S = 0) : c_sl S = fun _ => 0 := by
  funext t
  unfold c_sl
  rw [h]
  by_cases ht : t < 10
  · rw [if_pos ht]; rfl
  · rw [if_neg ht]
theorem at_none {S : cs_S} (h : c_ns S = 0) : c_at S = 0 := by
  unfold c_at
  rw [h]
  rfl
theorem hld_S1 : c_hld c_S1 = fa_fill (fun _ => -1) (fun _ => 0) 305 := rfl
theorem start_w {a : Nat → Nat} {k : Nat → ClassId} : cb_w a k c_S1 = cb_W a k c_S1 (fun _ => 0) (fun _ => 0) 0 := by
  have h1 : c_sl c_S1 = fun _ => 0 := sl_none rfl
  have h2 : c_pt c_S1 = fun _ => 0 := pt_none (fun k hk => by rw [hld_S1]; exact fill_m1 hk)
  have h3 : c_at c_S1 = 0 := at_none rfl
  show cb_W a k c_S1 (c_sl c_S1) (c_pt c_S1) (c_at c_S1) = _
  rw [h1, h2, h3]
def cb_nest : List Cond := [.methodLinkNest RX5 9 yX3_init "CampBook", .methodLinkNest RX5 18 yX4_init "CampBook", .methodLinkNest RX5 32 yX2_init "CampBook", .methodLinkNest RX5 39 yX0_init "CampBook"]
theorem cb_nest_tab : ∀ w ∈ cb_nest, w.onTables = true := by decide +kernel
theorem cb_nest_warm {s U : State} (hW : s.WarmedH U.vm) (h : ∀ w ∈ cb_nest, va_Nw w s) : ∀ w ∈ cb_nest, va_Nw w U := by
  intro w hw
  have h1 := h w hw
  simp only [cb_nest, List.mem_cons, List.not_mem_nil, or_false] at hw
  rcases hw with rfl | rfl | rfl | rfl
  · exact va_Nw.warmM hW h1
  · exact va_Nw.warmM hW h1
  · exact va_Nw.warmM hW h1
  · exact va_Nw.warmM hW h1
def cTn (dC : Nat → ClassId) (dI : Nat → Nat → Nat) (sz : Nat) (ws : va_W) (tys : List (ClassId × FieldType)) (U : State) : Prop := cT dC dI sz ws tys U ∧ ∀ w ∈ cb_nest, va_Nw w U
theorem cTn_blind {dC : Nat → ClassId} {dI : Nat → Nat → Nat} {sz : Nat} {ws : va_W} {tys : List (ClassId × FieldType)} {av : List Value} : FrameBlind (va_Pc av (cTn dC dI sz ws tys)) := fun a U g mk q => ⟨(cT_blind a U g mk ⟨q.1, q.2.1⟩).1, (cT_blind a U g mk ⟨q.1, q.2.1⟩).2, fun w hw => va_Nw.same (u := U) (U := U.calling g mk a) (cb_nest_tab w hw) rfl (q.2.2 w hw)⟩
end CBA
