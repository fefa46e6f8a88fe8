/-! the law's loop: what holds at its head, and a case each -/
section CBX1
/-- the room that the walk wants; what TURN prints is more, and varies from turn to turn -/
theorem rm_c : 200000 ≤ room_1.cells := Nat.le_of_ble_eq_true rfl
theorem rm_s : 2000000 ≤ room_1.slots := Nat.le_of_ble_eq_true rfl
theorem kz {n : Nat} (h : n < 4) (e : nI n = 0) : n = 0 := (nI_eq (by omega) (by omega)).mp e
theorem bl_0 {b : Bool} (h : bI b = 0) : (bI b).toInt64 = lN 0 := by rw [h]; rfl
theorem bl_1 {b : Bool} (h : ¬ bI b = 0) : (bI b).toInt64 = lN 1 := by
  cases b with
  | false => exact absurd rfl h
  | true => decide
def LC (p : Program) (s : State) (m : MethodId) (c : Code) (b L : Nat) (xs : Nat → Int32) (dC : Nat → ClassId) (dI : Nat → Nat → Nat) (k km : Nat → ClassId) (kq : ClassId) : Prop := p.tables.exec = Jvm.exec ∧ c.code = cL_law ∧ c.maxLocals = 9 ∧ s.vm.findClass RL = some m.cls ∧ (∀ w ∈ wsL_law, w.before #[Value.ref b] s = true) ∧ va_X b L xs s s.heap ∧ b < s.heap.size ∧ L ≤ 2560 ∧ va_K (dC, dI) vwCl (cb_ty k ++ (mb_ty km ++ [(kq, .long)])) s ∧ cEL (fun z => s.heap.size ≤ z) s
def KK (p : Program) (l : Launch) (e : Env) (s : State) (m : MethodId) (below : List Frame) (meth : Method) (c : Code) (b : Nat) (dC : Nat → ClassId) (dI : Nat → Nat → Nat) (a : Nat → Nat) (k : Nat → ClassId) (am : Nat → Nat) (km : Nat → ClassId) (q : Nat) (kq : ClassId) (j cells slots : Nat) (Q : State → Prop) : Prop := ∀ (S : cs_S) (th : Nat) (f : Nat → Int64) (H : Heap) (locs : List Loc) (ls : Array Slot), Inv S → va_P (dC, dI) vwCl (cb_w a k S ++ (mb_w am km S th ++ [(q, .inl (kq, (1, .inr (.inl (f)))))])) H → va_D (fun z => s.heap.size ≤ z) (cb_w a k S ++ (mb_w am km S th ++ [(q, .inl (kq, (1, .inr (.inl (f)))))])) → va_S (fun z => s.heap.size ≤ z) s.heap H locs → lv_has ls 9 [(0, .ref b), (1, .ref (a 0)), (2, .ref (am 0)), (3, .ref q), (4, .int (nI (5 * j)))] → W p l e room_1 s m #[Value.ref b] below meth c H locs (cells + 231) (slots + 1597) Q (F0 m 2067 ls [])
end CBX1
