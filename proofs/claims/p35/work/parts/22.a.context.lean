/-! p35: the law: what holds at each of its loops -/
section CBV1
def BD (np ns nt : Nat) : Prop := 1 ≤ np ∧ np ≤ 6 ∧ 2 ≤ ns ∧ ns ≤ 29 ∧ 1 ≤ nt ∧ nt ≤ 8
/-- the room that the walk wants; what TURN prints is more, and varies from turn to turn -/
theorem rm_c : 200000 ≤ room_1.cells := Nat.le_of_ble_eq_true rfl
theorem rm_s : 2000000 ≤ room_1.slots := Nat.le_of_ble_eq_true rfl
def LC (p : Program) (s : State) (m : MethodId) (c : Code) (b L : Nat) (xs : Nat → Int32) (dC : Nat → ClassId) (dI : Nat → Nat → Nat) (k : Nat → ClassId) (kt kp : ClassId) : Prop := p.tables.exec = Jvm.exec ∧ c.code = cL_law ∧ c.maxLocals = 19 ∧ s.vm.findClass RL = some m.cls ∧ (∀ w ∈ wsL_law, w.before #[Value.ref b] s = true) ∧ va_X b L xs s s.heap ∧ b < s.heap.size ∧ L ≤ 260 ∧ va_K (dC, dI) vwCl (cb_ty k ++ [(kt, .int), (kp, .int)]) s ∧ cE (fun z => s.heap.size ≤ z) s
def KD (p : Program) (l : Launch) (e : Env) (s : State) (m : MethodId) (below : List Frame) (meth : Method) (c : Code) (b : Nat) (dC : Nat → ClassId) (dI : Nat → Nat → Nat) (a : Nat → Nat) (k : Nat → ClassId) (qt : Nat) (kt : ClassId) (tl : Nat → Int32) (qp : Nat) (kp : ClassId) (pl : Nat → Int32) (np ns nt dy hq : Nat) (lx : List (Nat × Value)) (pc cells slots : Nat) (Q : State → Prop) : Prop := ∀ (S : cs_S) (H : Heap) (locs : List Loc) (ls : Array Slot), Cp dy np ns nt 4 3 1 hq 12 tl pl S → va_P (dC, dI) vwCl (cb_w a k S ++ [(qt, .inl (kt, (90, .inl tl))), (qp, .inl (kp, (10, .inl pl)))]) H → va_D (fun z => s.heap.size ≤ z) (cb_w a k S ++ [(qt, .inl (kt, (90, .inl tl))), (qp, .inl (kp, (10, .inl pl)))]) → va_S (fun z => s.heap.size ≤ z) s.heap H locs → lv_has ls 19 ([(0, .ref b), (1, .ref (a 0)), (2, .int (nI np)), (3, .ref qt), (4, .int (nI ns)), (5, .ref qp), (6, .int (nI nt)), (7, .int (nI dy))] ++ lx) → W p l e room_1 s m #[Value.ref b] below meth c H locs cells slots Q (F0 m pc ls [])
theorem m2_eq : (-2 : Int32) = Int32.ofInt (-2) := by decide
theorem away_2i {dy np ns nt nf nm hb : Nat} {tl pl : Nat → Int32} {S : cs_S} {u : Nat} (hC : Cp dy np ns nt nf nm 1 hb 12 tl pl S) (hb2 : hb < 200) (hu : u < ns) : dist S u 0 = (-2) ↔ c_bad S u = nI 1 := by
  rw [m2_eq]; exact away_2 hC hb2 hu
end CBV1
