section CBS
/-- the state of the book: counts; rows; who ate today -/
abbrev cs_S : Type := (Nat × Nat × Nat × Nat × Nat × Nat × Nat × Nat) × ((Nat → Int32) × (Nat → Int32) × (Nat → Int32) × (Nat → Int32) × (Nat → Int32) × (Nat → Int32) × (Nat → Int32) × (Nat → Int32) × (Nat → Int32) × (Nat → Int32) × (Nat → Int32) × (Nat → Int32) × (Nat → Int32)) × (Nat → Bool)
def c_day (S : cs_S) : Nat := S.1.1
def c_np (S : cs_S) : Nat := S.1.2.1
def c_ns (S : cs_S) : Nat := S.1.2.2.1
def c_nt (S : cs_S) : Nat := S.1.2.2.2.1
def c_nf (S : cs_S) : Nat := S.1.2.2.2.2.1
def c_nm (S : cs_S) : Nat := S.1.2.2.2.2.2.1
def c_nb (S : cs_S) : Nat := S.1.2.2.2.2.2.2.1
def c_me (S : cs_S) : Nat := S.1.2.2.2.2.2.2.2
def c_pat (S : cs_S) : Nat → Int32 := S.2.1.1
def c_age (S : cs_S) : Nat → Int32 := S.2.1.2.1
def c_skl (S : cs_S) : Nat → Int32 := S.2.1.2.2.1
def c_ref (S : cs_S) : Nat → Int32 := S.2.1.2.2.2.1
def c_bad (S : cs_S) : Nat → Int32 := S.2.1.2.2.2.2.1
def c_hrs (S : cs_S) : Nat → Int32 := S.2.1.2.2.2.2.2.1
def c_plc (S : cs_S) : Nat → Int32 := S.2.1.2.2.2.2.2.2.1
def c_hld (S : cs_S) : Nat → Int32 := S.2.1.2.2.2.2.2.2.2.1
def c_sto (S : cs_S) : Nat → Int32 := S.2.1.2.2.2.2.2.2.2.2.1
def c_ned (S : cs_S) : Nat → Int32 := S.2.1.2.2.2.2.2.2.2.2.2.1
def c_lag (S : cs_S) : Nat → Int32 := S.2.1.2.2.2.2.2.2.2.2.2.2.1
def c_wnt (S : cs_S) : Nat → Int32 := S.2.1.2.2.2.2.2.2.2.2.2.2.2.1
def c_ten (S : cs_S) : Nat → Int32 := S.2.1.2.2.2.2.2.2.2.2.2.2.2.2
def c_eat (S : cs_S) : Nat → Bool := S.2.2
def s_day (S : cs_S) (v : Nat) : cs_S := ((v, S.1.2), S.2)
def s_np (S : cs_S) (v : Nat) : cs_S := ((S.1.1, v, S.1.2.2), S.2)
def s_ns (S : cs_S) (v : Nat) : cs_S := ((S.1.1, S.1.2.1, v, S.1.2.2.2), S.2)
def s_nt (S : cs_S) (v : Nat) : cs_S := ((S.1.1, S.1.2.1, S.1.2.2.1, v, S.1.2.2.2.2), S.2)
def s_nf (S : cs_S) (v : Nat) : cs_S := ((S.1.1, S.1.2.1, S.1.2.2.1, S.1.2.2.2.1, v, S.1.2.2.2.2.2), S.2)
def s_nm (S : cs_S) (v : Nat) : cs_S := ((S.1.1, S.1.2.1, S.1.2.2.1, S.1.2.2.2.1, S.1.2.2.2.2.1, v, S.1.2.2.2.2.2.2), S.2)
def s_nb (S : cs_S) (v : Nat) : cs_S := ((S.1.1, S.1.2.1, S.1.2.2.1, S.1.2.2.2.1, S.1.2.2.2.2.1, S.1.2.2.2.2.2.1, v, S.1.2.2.2.2.2.2.2), S.2)
def s_me (S : cs_S) (v : Nat) : cs_S := ((S.1.1, S.1.2.1, S.1.2.2.1, S.1.2.2.2.1, S.1.2.2.2.2.1, S.1.2.2.2.2.2.1, S.1.2.2.2.2.2.2.1, v), S.2)
def s_pat (S : cs_S) (v : Nat → Int32) : cs_S := (S.1, (v, S.2.1.2), S.2.2)
def s_age (S : cs_S) (v : Nat → Int32) : cs_S := (S.1, (S.2.1.1, v, S.2.1.2.2), S.2.2)
def s_skl (S : cs_S) (v : Nat → Int32) : cs_S := (S.1, (S.2.1.1, S.2.1.2.1, v, S.2.1.2.2.2), S.2.2)
def s_ref (S : cs_S) (v : Nat → Int32) : cs_S := (S.1, (S.2.1.1, S.2.1.2.1, S.2.1.2.2.1, v, S.2.1.2.2.2.2), S.2.2)
def s_bad (S : cs_S) (v : Nat → Int32) : cs_S := (S.1, (S.2.1.1, S.2.1.2.1, S.2.1.2.2.1, S.2.1.2.2.2.1, v, S.2.1.2.2.2.2.2), S.2.2)
def s_hrs (S : cs_S) (v : Nat → Int32) : cs_S := (S.1, (S.2.1.1, S.2.1.2.1, S.2.1.2.2.1, S.2.1.2.2.2.1, S.2.1.2.2.2.2.1, v, S.2.1.2.2.2.2.2.2), S.2.2)
def s_plc (S : cs_S) (v : Nat → Int32) : cs_S := (S.1, (S.2.1.1, S.2.1.2.1, S.2.1.2.2.1, S.2.1.2.2.2.1, S.2.1.2.2.2.2.1, S.2.1.2.2.2.2.2.1, v, S.2.1.2.2.2.2.2.2.2), S.2.2)
def s_hld (S : cs_S) (v : Nat → Int32) : cs_S := (S.1, (S.2.1.1, S.2.1.2.1, S.2.1.2.2.1, S.2.1.2.2.2.1, S.2.1.2.2.2.2.1, S.2.1.2.2.2.2.2.1, S.2.1.2.2.2.2.2.2.1, v, S.2.1.2.2.2.2.2.2.2.2), S.2.2)
def s_sto (S : cs_S) (v : Nat → Int32) : cs_S := (S.1, (S.2.1.1, S.2.1.2.1, S.2.1.2.2.1, S.2.1.2.2.2.1, S.2.1.2.2.2.2.1, S.2.1.2.2.2.2.2.1, S.2.1.2.2.2.2.2.2.1, S.2.1.2.2.2.2.2.2.2.1, v, S.2.1.2.2.2.2.2.2.2.2.2), S.2.2)
def s_ned (S : cs_S) (v : Nat → Int32) : cs_S := (S.1, (S.2.1.1, S.2.1.2.1, S.2.1.2.2.1, S.2.1.2.2.2.1, S.2.1.2.2.2.2.1, S.2.1.2.2.2.2.2.1, S.2.1.2.2.2.2.2.2.1, S.2.1.2.2.2.2.2.2.2.1, S.2.1.2.2.2.2.2.2.2.2.1, v, S.2.1.2.2.2.2.2.2.2.2.2.2), S.2.2)
def s_lag (S : cs_S) (v : Nat → Int32) : cs_S := (S.1, (S.2.1.1, S.2.1.2.1, S.2.1.2.2.1, S.2.1.2.2.2.1, S.2.1.2.2.2.2.1, S.2.1.2.2.2.2.2.1, S.2.1.2.2.2.2.2.2.1, S.2.1.2.2.2.2.2.2.2.1, S.2.1.2.2.2.2.2.2.2.2.1, S.2.1.2.2.2.2.2.2.2.2.2.1, v, S.2.1.2.2.2.2.2.2.2.2.2.2.2), S.2.2)
def s_wnt (S : cs_S) (v : Nat → Int32) : cs_S := (S.1, (S.2.1.1, S.2.1.2.1, S.2.1.2.2.1, S.2.1.2.2.2.1, S.2.1.2.2.2.2.1, S.2.1.2.2.2.2.2.1, S.2.1.2.2.2.2.2.2.1, S.2.1.2.2.2.2.2.2.2.1, S.2.1.2.2.2.2.2.2.2.2.1, S.2.1.2.2.2.2.2.2.2.2.2.1, S.2.1.2.2.2.2.2.2.2.2.2.2.1, v, S.2.1.2.2.2.2.2.2.2.2.2.2.2.2), S.2.2)
def s_ten (S : cs_S) (v : Nat → Int32) : cs_S := (S.1, (S.2.1.1, S.2.1.2.1, S.2.1.2.2.1, S.2.1.2.2.2.1, S.2.1.2.2.2.2.1, S.2.1.2.2.2.2.2.1, S.2.1.2.2.2.2.2.2.1, S.2.1.2.2.2.2.2.2.2.1, S.2.1.2.2.2.2.2.2.2.2.1, S.2.1.2.2.2.2.2.2.2.2.2.1, S.2.1.2.2.2.2.2.2.2.2.2.2.1, S.2.1.2.2.2.2.2.2.2.2.2.2.2.1, v), S.2.2)
def s_eat (S : cs_S) (v : Nat → Bool) : cs_S := (S.1, S.2.1, v)
/-- the empty book -/
def c_S0 : cs_S := ((0, 0, 0, 0, 0, 0, 0, 0), (fun _ => 0, fun _ => 0, fun _ => 0, fun _ => 0, fun _ => 0, fun _ => 0, fun _ => 0, fun _ => -1, fun _ => 0, fun _ => 0, fun _ => 0, fun _ => 0, fun _ => 0), fun _ => false)
/-- sets as numbers, counts, all, some -/
def bs (p : Nat → Bool) : Nat → Nat
  | 0 => 0
  | n + 1 => bs p n + (if p n = true then 2 ^ n else 0)
def al (p : Nat → Bool) : Nat → Bool
  | 0 => true
  | n + 1 => al p n && p n
def ex (p : Nat → Bool) : Nat → Bool
  | 0 => false
  | n + 1 => ex p n || p n
def sm (f : Nat → Int32) : Nat → Int32
  | 0 => 0
  | n + 1 => sm f n + f n
def bI (b : Bool) : Int32 := if b = true then 1 else 0
def oI (o : Option Nat) : Int32 := match o with
  | none => -1
  | some t => nI t
def cAbs (x : Int32) : Int32 := if 0 ≤ x then x else 0 - x
def cMax (x y : Int32) : Int32 := if x < y then y else x
def ix (x : Int32) (n : Nat) : Bool := decide (0 ≤ x.toInt ∧ x.toInt < n)
def inR (x lo hi : Int32) : Bool := decide (lo ≤ x ∧ x ≤ hi)
/-- who sleeps in a tent -/
def inT (S : cs_S) (t : Nat) : Nat → Bool := fun s => decide (c_ten S s = nI t)
def c_sl (S : cs_S) : Nat → Int64 := fun t => if t < 10 then lN (bs (inT S t) (c_ns S)) else 0
def c_at (S : cs_S) : Int64 := lN (bs (c_eat S) (c_ns S))
def dP (k : Nat) : Int32 := match k with
  | 0 => 2
  | 1 => 3
  | 2 => 4
  | 3 => 2
  | _ => 5
def pts (S : cs_S) (p : Nat) : Int32 := sm (fun k => if c_hld S k = nI p then dP (k % 5) else 0) 305
def c_pt (S : cs_S) : Nat → Int32 := fun p => if p < 6 then pts S p else 0
def dO (k : Nat) : Int32 := match k with
  | 0 => 4
  | 1 => 2
  | 2 => 1
  | 3 => 0
  | _ => 3
def hol (S : cs_S) (d : Int) (k : Nat) : Int32 := if 0 ≤ d ∧ d ≤ 60 then c_hld S (d.toNat * 5 + k) else -1

/-- the cells of the class: its objects and rows; what is derived in the state stands apart: the sleepers, the points, who ate -/
abbrev cb_W (a : Nat → Nat) (k : Nat → ClassId) (S : cs_S) (sl : Nat → Int64) (pt : Nat → Int32) (az : Int64) : va_W := [(a 0, .inr (5, [.ref (a 1), .ref (a 2), .ref (a 3), .ref (a 4), .ref (a 5), .int (nI (c_day S))])), (a 1, .inr (3, [.int (nI (c_np S)), .int (nI (c_ns S)), .ref (a 6), .ref (a 7), .ref (a 8), .ref (a 9), .ref (a 10), .ref (a 11)])), (a 2, .inr (4, [.int (nI (c_nt S)), .ref (a 12), .ref (a 13)])), (a 3, .inr (1, [.ref (a 14), .ref (a 15)])), (a 4, .inr (2, [.int (nI (c_nf S)), .int (nI (c_nm S)), .int (nI (c_me S)), .long az, .ref (a 16), .ref (a 17)])), (a 5, .inr (0, [.int (nI (c_nb S)), .ref (a 18), .ref (a 19)])), (a 6, .inl (k 6, (30, .inl (c_pat S)))), (a 7, .inl (k 7, (30, .inl (c_age S)))), (a 8, .inl (k 8, (30, .inl (c_skl S)))), (a 9, .inl (k 9, (30, .inl (c_ref S)))), (a 10, .inl (k 10, (30, .inl (c_bad S)))), (a 11, .inl (k 11, (300, .inl (c_hrs S)))), (a 12, .inl (k 12, (10, .inl (c_plc S)))), (a 13, .inl (k 13, (10, .inr (.inl sl)))), (a 14, .inl (k 14, (305, .inl (c_hld S)))), (a 15, .inl (k 15, (6, .inl pt))), (a 16, .inl (k 16, (12, .inl (c_sto S)))), (a 17, .inl (k 17, (120, .inl (c_ned S)))), (a 18, .inl (k 18, (8, .inl (c_lag S)))), (a 19, .inl (k 19, (80, .inl (c_wnt S))))]
abbrev cb_ty (k : Nat → ClassId) : List (ClassId × FieldType) := [(k 6, .int), (k 7, .int), (k 8, .int), (k 9, .int), (k 10, .int), (k 11, .int), (k 12, .int), (k 13, .long), (k 14, .int), (k 15, .int), (k 16, .int), (k 17, .int), (k 18, .int), (k 19, .int)]
abbrev cb_w (a : Nat → Nat) (k : Nat → ClassId) (S : cs_S) : va_W := cb_W a k S (c_sl S) (c_pt S) (c_at S)
/-- the cells of the reference -/
abbrev mb_w (b : Nat → Nat) (k : Nat → ClassId) (S : cs_S) (th : Nat) : va_W := [(b 0, .inr (6, [.int (nI th), .int (nI (c_day S)), .int (nI (c_np S)), .int (nI (c_ns S)), .ref (b 1), .ref (b 2), .ref (b 3), .ref (b 4), .ref (b 5), .ref (b 6), .ref (b 7), .ref (b 8), .int (nI (c_nt S)), .ref (b 9), .ref (b 10), .int (nI (c_nf S)), .ref (b 11), .int (nI (c_nm S)), .ref (b 12), .int (nI (c_me S)), .int (nI (c_nb S)), .ref (b 13), .ref (b 14)])), (b 1, .inl (k 1, (30, .inl (c_pat S)))), (b 2, .inl (k 2, (30, .inl (c_age S)))), (b 3, .inl (k 3, (30, .inl (c_skl S)))), (b 4, .inl (k 4, (30, .inl (c_ref S)))), (b 5, .inl (k 5, (30, .inl (c_ten S)))), (b 6, .inl (k 6, (30, .inl (c_bad S)))), (b 7, .inl (k 7, (300, .inl (c_hrs S)))), (b 8, .inl (k 8, (30, .inl (fun j => bI (c_eat S j))))), (b 9, .inl (k 9, (10, .inl (c_plc S)))), (b 10, .inl (k 10, (305, .inl (c_hld S)))), (b 11, .inl (k 11, (12, .inl (c_sto S)))), (b 12, .inl (k 12, (120, .inl (c_ned S)))), (b 13, .inl (k 13, (8, .inl (c_lag S)))), (b 14, .inl (k 14, (80, .inl (c_wnt S))))]
abbrev mb_ty (k : Nat → ClassId) : List (ClassId × FieldType) := [(k 1, .int), (k 2, .int), (k 3, .int), (k 4, .int), (k 5, .int), (k 6, .int), (k 7, .int), (k 8, .boolean), (k 9, .int), (k 10, .int), (k 11, .int), (k 12, .int), (k 13, .int), (k 14, .int)]
/-- contract heads: a method that reads; one that writes -/
def cR (dC : Nat → ClassId) (dI : Nat → Nat → Nat) (ws : va_W) (tys : List (ClassId × FieldType)) (U : State) : Prop := va_P (dC, dI) vwCl ws U.heap ∧ va_K (dC, dI) vwCl tys U
theorem cR_blind {dC : Nat → ClassId} {dI : Nat → Nat → Nat} {ws : va_W} {tys : List (ClassId × FieldType)} {av : List Value} : FrameBlind (va_Pc av (cR dC dI ws tys)) := fun a U g mk q => by
  obtain ⟨q0, qP, qK⟩ := q
  exact ⟨q0, qP, va_K.moved (u := U) (U := U.calling g mk a) (Vm.Alike.refl U.vm) qK⟩
theorem cR_of {dC : Nat → ClassId} {dI : Nat → Nat → Nat} {ws : va_W} {tys : List (ClassId × FieldType)} {s U : State} {H : Heap} (hK : va_K (dC, dI) vwCl tys s) (hP : va_P (dC, dI) vwCl ws H) (hU : U.heap = H) (hW : s.WarmedH U.vm) : cR dC dI ws tys U := ⟨by rw [hU]; exact hP, va_K.moved hW.alike hK⟩
theorem cN_blind {av : List Value} : FrameBlind (va_Pc av (fun _ => True)) := fun _ _ _ _ q => q
def cT (dC : Nat → ClassId) (dI : Nat → Nat → Nat) (sz : Nat) (ws : va_W) (tys : List (ClassId × FieldType)) (U : State) : Prop := U.heap.size = sz ∧ va_P (dC, dI) vwCl ws U.heap ∧ va_K (dC, dI) vwCl tys U ∧ va_D (fun _ => True) ws
theorem cT_blind {dC : Nat → ClassId} {dI : Nat → Nat → Nat} {sz : Nat} {ws : va_W} {tys : List (ClassId × FieldType)} {av : List Value} : FrameBlind (va_Pc av (cT dC dI sz ws tys)) := fun a U g mk q => by
  obtain ⟨q0, q1, qP, qK, qD⟩ := q
  exact ⟨q0, q1, qP, va_K.moved (u := U) (U := U.calling g mk a) (Vm.Alike.refl U.vm) qK, qD⟩
theorem cT_of {dC : Nat → ClassId} {dI : Nat → Nat → Nat} {ws : va_W} {tys : List (ClassId × FieldType)} {s U : State} {H : Heap} {A : Nat → Prop} (hK : va_K (dC, dI) vwCl tys s) (hP : va_P (dC, dI) vwCl ws H) (hD : va_D A ws) (hU : U.heap = H) (hW : s.WarmedH U.vm) : cT dC dI H.size ws tys U := ⟨by rw [hU], by rw [hU]; exact hP, va_K.moved hW.alike hK, hD.weaken (fun _ _ _ _ => trivial)⟩
/-- the world behind a method -/
def cB (dC : Nat → ClassId) (dI : Nat → Nat → Nat) (A : Nat → Prop) (ws : va_W) (tys : List (ClassId × FieldType)) (t : State) : Prop := va_P (dC, dI) vwCl ws t.heap ∧ va_K (dC, dI) vwCl tys t ∧ va_D A ws
/-- the environment of the class: the statics of Throwable, the texts, the tables of the duties -/
def cb_strs : List (Nat × String) := [(53, "there are 6 patrols"), (69, "there are 30 scouts"), (82, "there are 10 tents"), (94, "the scout sleeps there already"), (100, "the scout cannot sleep there"), (154, "there are 12 foods"), (167, "there are 10 meals"), (194, "the meal cannot be eaten now"), (210, "there are 8 badges"), (224, "the scout cannot have this badge now"), (255, "it is the last day"), (275, "there is no such number"), (278, "the argument is outside its range")]
def cb_nw : List Cond := [.castable "java/lang/IllegalStateException" "java/lang/IllegalStateException", .castable "java/lang/IllegalArgumentException" "java/lang/IllegalArgumentException", .castable "java/lang/IndexOutOfBoundsException" "java/lang/IndexOutOfBoundsException", .declares (Bundle.initS "java/lang/RuntimeException"), .declares (Bundle.initS "java/lang/Exception"), .declares (Bundle.initS Bundle.tN)]
theorem cb_nw_warm {s U : State} (hW : s.WarmedH U.vm) (h : ∀ w ∈ cb_nw, va_Nw w s) : ∀ w ∈ cb_nw, va_Nw w U := by
  intro w hw
  have h1 := h w hw
  simp only [cb_nw, List.mem_cons, List.not_mem_nil, or_false] at hw
  rcases hw with rfl | rfl | rfl | rfl | rfl | rfl
  · exact va_Nw.warmC hW h1
  · exact va_Nw.warmC hW h1
  · exact va_Nw.warmC hW h1
  · exact va_Nw.warmD hW h1
  · exact va_Nw.warmD hW h1
  · exact va_Nw.warmD hW h1
theorem cb_nw_tab : ∀ w ∈ cb_nw, w.onTables = true := by decide +kernel
def cE (A : Nat → Prop) (U : State) : Prop := vx_Zq Bundle.tN "UNASSIGNED_STACK" Bundle.steD A U U.heap ∧ vx_Zq Bundle.tN "SUPPRESSED_SENTINEL" Bundle.listD A U U.heap ∧ (∀ w ∈ cb_nw, va_Nw w U) ∧ (∀ q ∈ cb_strs, ∃ sa : Nat, vk_R RX5 q.1 q.2 sa U) ∧ ∃ t1 t2 : Nat, va_Z RX1 "POINTS" "[I" (.ref t1) A U U.heap ∧ va_T .int t1 5 (fun j => .int (dP j)) A U U.heap ∧ va_Z RX1 "BY_POINTS" "[I" (.ref t2) A U U.heap ∧ va_T .int t2 5 (fun j => .int (dO j)) A U U.heap ∧ va_Nw (.fieldLinkNest RX5 142 RX1 "BY_POINTS" "[I" RX5) U
theorem cE_call {A A' : Nat → Prop} {s U : State} {H : Heap} {locs : List Loc} (hE : cE A s) (hS : va_S A s.heap H locs) (hU : U.heap = H) (hW : s.WarmedH U.vm) (hA : ∀ q, A' q → A q) : cE A' U := by
  obtain ⟨h1, h2, h3, h6, t1, t2, h7, h8, h9, h10, h11⟩ := hE
  subst hU
  have ha := hW.alike
  refine ⟨(vx_Zq.moved ha (h1.kept hS.2.1)).narrow hA, (vx_Zq.moved ha (h2.kept hS.2.1)).narrow hA, cb_nw_warm hW h3, fun q hq => ?_, t1, t2, (va_Z.moved ha (h7.kept hS.2.1)).narrow hA, (va_T.moved ha (h8.kept hS.2.1)).narrow hA, (va_Z.moved ha (h9.kept hS.2.1)).narrow hA, (va_T.moved ha (h10.kept hS.2.1)).narrow hA, va_Nw.warmF hW h11⟩
  obtain ⟨sa, h⟩ := h6 q hq
  exact ⟨sa, vk_R.warm hW h⟩
theorem cE_calling {A : Nat → Prop} {U : State} {g : JFrame} {mk : MethodId} {a : Array Value} (hE : cE A U) : cE A (U.calling g mk a) := by
  obtain ⟨h1, h2, h3, h6, t1, t2, h7, h8, h9, h10, h11⟩ := hE
  have ha : U.vm.Alike (U.calling g mk a).vm := Vm.Alike.refl U.vm
  refine ⟨vx_Zq.moved ha h1, vx_Zq.moved ha h2, fun w hw => va_Nw.same (u := U) (U := U.calling g mk a) (cb_nw_tab w hw) rfl (h3 w hw), fun q hq => ?_, t1, t2, va_Z.moved ha h7, va_T.moved ha h8, va_Z.moved ha h9, va_T.moved ha h10, va_Nw.same (u := U) (U := U.calling g mk a) rfl rfl h11⟩
  obtain ⟨sa, h⟩ := h6 q hq
  exact ⟨sa, vk_R.same rfl h⟩
/-- start of a method that may throw, or reads the tables -/
def cU (dC : Nat → ClassId) (dI : Nat → Nat → Nat) (sz : Nat) (ws : va_W) (tys : List (ClassId × FieldType)) (U : State) : Prop := cT dC dI sz ws tys U ∧ cE (va_A ws sz) U
theorem cU_blind {dC : Nat → ClassId} {dI : Nat → Nat → Nat} {sz : Nat} {ws : va_W} {tys : List (ClassId × FieldType)} {av : List Value} : FrameBlind (va_Pc av (cU dC dI sz ws tys)) := fun a U g mk q => ⟨(cT_blind a U g mk ⟨q.1, q.2.1⟩).1, (cT_blind a U g mk ⟨q.1, q.2.1⟩).2, cE_calling q.2.2⟩
theorem cU_of {dC : Nat → ClassId} {dI : Nat → Nat → Nat} {ws : va_W} {tys : List (ClassId × FieldType)} {s U : State} {H : Heap} {locs : List Loc} {A : Nat → Prop} (hK : va_K (dC, dI) vwCl tys s) (hP : va_P (dC, dI) vwCl ws H) (hD : va_D A ws) (hE : cE A s) (hS : va_S A s.heap H locs) (hU : U.heap = H) (hW : s.WarmedH U.vm) (hA : ∀ q, va_A ws H.size q → A q) : cU dC dI H.size ws tys U := ⟨cT_of hK hP hD hU hW, cE_call hE hS hU hW hA⟩
end CBS
