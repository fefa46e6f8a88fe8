section
-- ===== PART A: goes FIRST, ahead of the names: the tables' words, and 'selects' of the private methods out of them =====
/-- a private method of a class that the tables say can be made, by its rows of tables_1 -/
def lw_okq (q : MethodName × Nat) : Prop := (q.1.cls ≠ "java/lang/invoke/MethodHandle" ∧ q.1.cls ≠ "java/lang/invoke/VarHandle") ∧ Cond.instantiable q.1.cls q.2 ∈ tables_1 ∧ Cond.privateMethod q.1 ∈ tables_1 ∧ Cond.instanceMethod q.1 ∈ tables_1
theorem lw_p0 : lw_okq (⟨"CampBook", "scoutsWithoutTent", "()I"⟩, 6) := ⟨⟨by decide +kernel, by decide +kernel⟩, List.mem_of_getElem? (i := 19) (by decide +kernel), List.mem_of_getElem? (i := 218) (by decide +kernel), List.mem_of_getElem? (i := 219) (by decide +kernel)⟩
theorem lw_p1 : lw_okq (⟨"CampBook", "countOf", "(I)I"⟩, 6) := ⟨⟨by decide +kernel, by decide +kernel⟩, List.mem_of_getElem? (i := 19) (by decide +kernel), List.mem_of_getElem? (i := 285) (by decide +kernel), List.mem_of_getElem? (i := 286) (by decide +kernel)⟩
theorem lw_p2 : lw_okq (⟨"CampBook", "withPeople", "(J)J"⟩, 6) := ⟨⟨by decide +kernel, by decide +kernel⟩, List.mem_of_getElem? (i := 19) (by decide +kernel), List.mem_of_getElem? (i := 289) (by decide +kernel), List.mem_of_getElem? (i := 290) (by decide +kernel)⟩
theorem lw_p3 : lw_okq (⟨"CampBook", "factOf", "(II)I"⟩, 6) := ⟨⟨by decide +kernel, by decide +kernel⟩, List.mem_of_getElem? (i := 19) (by decide +kernel), List.mem_of_getElem? (i := 293) (by decide +kernel), List.mem_of_getElem? (i := 294) (by decide +kernel)⟩
theorem lw_p4 : lw_okq (⟨"CampBook", "withKitchen", "(J)J"⟩, 6) := ⟨⟨by decide +kernel, by decide +kernel⟩, List.mem_of_getElem? (i := 19) (by decide +kernel), List.mem_of_getElem? (i := 305) (by decide +kernel), List.mem_of_getElem? (i := 306) (by decide +kernel)⟩
theorem lw_p5 : lw_okq (⟨"CampBook", "hungryScouts", "()I"⟩, 6) := ⟨⟨by decide +kernel, by decide +kernel⟩, List.mem_of_getElem? (i := 19) (by decide +kernel), List.mem_of_getElem? (i := 321) (by decide +kernel), List.mem_of_getElem? (i := 322) (by decide +kernel)⟩
theorem lw_p6 : lw_okq (⟨"java/lang/Throwable", "fillInStackTrace", "(I)Ljava/lang/Throwable;"⟩, 6) := ⟨⟨by decide +kernel, by decide +kernel⟩, List.mem_of_getElem? (i := 372) (by decide +kernel), List.mem_of_getElem? (i := 370) (by decide +kernel), List.mem_of_getElem? (i := 371) (by decide +kernel)⟩
theorem lw_p7 : lw_okq (⟨"CampBookModel", "no", "(I)I"⟩, 23) := ⟨⟨by decide +kernel, by decide +kernel⟩, List.mem_of_getElem? (i := 723) (by decide +kernel), List.mem_of_getElem? (i := 808) (by decide +kernel), List.mem_of_getElem? (i := 809) (by decide +kernel)⟩
theorem lw_p8 : lw_okq (⟨"CampBookModel", "isPatrol", "(I)Z"⟩, 23) := ⟨⟨by decide +kernel, by decide +kernel⟩, List.mem_of_getElem? (i := 723) (by decide +kernel), List.mem_of_getElem? (i := 816) (by decide +kernel), List.mem_of_getElem? (i := 817) (by decide +kernel)⟩
theorem lw_p9 : lw_okq (⟨"CampBookModel", "isScout", "(I)Z"⟩, 23) := ⟨⟨by decide +kernel, by decide +kernel⟩, List.mem_of_getElem? (i := 723) (by decide +kernel), List.mem_of_getElem? (i := 827) (by decide +kernel), List.mem_of_getElem? (i := 828) (by decide +kernel)⟩
theorem lw_p10 : lw_okq (⟨"CampBookModel", "told", "(II)I"⟩, 23) := ⟨⟨by decide +kernel, by decide +kernel⟩, List.mem_of_getElem? (i := 723) (by decide +kernel), List.mem_of_getElem? (i := 831) (by decide +kernel), List.mem_of_getElem? (i := 832) (by decide +kernel)⟩
theorem lw_p11 : lw_okq (⟨"CampBookModel", "hoursOf", "(I)I"⟩, 23) := ⟨⟨by decide +kernel, by decide +kernel⟩, List.mem_of_getElem? (i := 723) (by decide +kernel), List.mem_of_getElem? (i := 835) (by decide +kernel), List.mem_of_getElem? (i := 836) (by decide +kernel)⟩
theorem lw_p12 : lw_okq (⟨"CampBookModel", "isTent", "(I)Z"⟩, 23) := ⟨⟨by decide +kernel, by decide +kernel⟩, List.mem_of_getElem? (i := 723) (by decide +kernel), List.mem_of_getElem? (i := 847) (by decide +kernel), List.mem_of_getElem? (i := 848) (by decide +kernel)⟩
theorem lw_p13 : lw_okq (⟨"CampBookModel", "canSleep", "(II)Z"⟩, 23) := ⟨⟨by decide +kernel, by decide +kernel⟩, List.mem_of_getElem? (i := 723) (by decide +kernel), List.mem_of_getElem? (i := 851) (by decide +kernel), List.mem_of_getElem? (i := 852) (by decide +kernel)⟩
theorem lw_p14 : lw_okq (⟨"CampBookModel", "sleepers", "(II)I"⟩, 23) := ⟨⟨by decide +kernel, by decide +kernel⟩, List.mem_of_getElem? (i := 723) (by decide +kernel), List.mem_of_getElem? (i := 855) (by decide +kernel), List.mem_of_getElem? (i := 856) (by decide +kernel)⟩
theorem lw_p15 : lw_okq (⟨"CampBookModel", "in", "(I)J"⟩, 23) := ⟨⟨by decide +kernel, by decide +kernel⟩, List.mem_of_getElem? (i := 723) (by decide +kernel), List.mem_of_getElem? (i := 864) (by decide +kernel), List.mem_of_getElem? (i := 865) (by decide +kernel)⟩
def lw_privs_1 : List (MethodName × Nat) := [(⟨"CampBook", "scoutsWithoutTent", "()I"⟩, 6), (⟨"CampBook", "countOf", "(I)I"⟩, 6), (⟨"CampBook", "withPeople", "(J)J"⟩, 6), (⟨"CampBook", "factOf", "(II)I"⟩, 6), (⟨"CampBook", "withKitchen", "(J)J"⟩, 6), (⟨"CampBook", "hungryScouts", "()I"⟩, 6), (⟨"java/lang/Throwable", "fillInStackTrace", "(I)Ljava/lang/Throwable;"⟩, 6), (⟨"CampBookModel", "no", "(I)I"⟩, 23), (⟨"CampBookModel", "isPatrol", "(I)Z"⟩, 23), (⟨"CampBookModel", "isScout", "(I)Z"⟩, 23), (⟨"CampBookModel", "told", "(II)I"⟩, 23), (⟨"CampBookModel", "hoursOf", "(I)I"⟩, 23), (⟨"CampBookModel", "isTent", "(I)Z"⟩, 23), (⟨"CampBookModel", "canSleep", "(II)Z"⟩, 23), (⟨"CampBookModel", "sleepers", "(II)I"⟩, 23), (⟨"CampBookModel", "in", "(I)J"⟩, 23)]
theorem lw_r1 : ∀ q ∈ lw_privs_1, lw_okq q := List.forall_mem_cons.mpr ⟨lw_p0, List.forall_mem_cons.mpr ⟨lw_p1, List.forall_mem_cons.mpr ⟨lw_p2, List.forall_mem_cons.mpr ⟨lw_p3, List.forall_mem_cons.mpr ⟨lw_p4, List.forall_mem_cons.mpr ⟨lw_p5, List.forall_mem_cons.mpr ⟨lw_p6, List.forall_mem_cons.mpr ⟨lw_p7, List.forall_mem_cons.mpr ⟨lw_p8, List.forall_mem_cons.mpr ⟨lw_p9, List.forall_mem_cons.mpr ⟨lw_p10, List.forall_mem_cons.mpr ⟨lw_p11, List.forall_mem_cons.mpr ⟨lw_p12, List.forall_mem_cons.mpr ⟨lw_p13, List.forall_mem_cons.mpr ⟨lw_p14, List.forall_mem_cons.mpr ⟨lw_p15, fun _ h => absurd h List.not_mem_nil⟩⟩⟩⟩⟩⟩⟩⟩⟩⟩⟩⟩⟩⟩⟩⟩
theorem lw_p16 : lw_okq (⟨"CampBookModel", "bestTent", "(I)I"⟩, 23) := ⟨⟨by decide +kernel, by decide +kernel⟩, List.mem_of_getElem? (i := 723) (by decide +kernel), List.mem_of_getElem? (i := 872) (by decide +kernel), List.mem_of_getElem? (i := 873) (by decide +kernel)⟩
theorem lw_p17 : lw_okq (⟨"CampBookModel", "counted", "(I)I"⟩, 23) := ⟨⟨by decide +kernel, by decide +kernel⟩, List.mem_of_getElem? (i := 723) (by decide +kernel), List.mem_of_getElem? (i := 880) (by decide +kernel), List.mem_of_getElem? (i := 881) (by decide +kernel)⟩
theorem lw_p18 : lw_okq (⟨"CampBookModel", "canBeGiven", "(III)Z"⟩, 23) := ⟨⟨by decide +kernel, by decide +kernel⟩, List.mem_of_getElem? (i := 723) (by decide +kernel), List.mem_of_getElem? (i := 888) (by decide +kernel), List.mem_of_getElem? (i := 889) (by decide +kernel)⟩
theorem lw_p19 : lw_okq (⟨"CampBookModel", "hasScout", "(II)Z"⟩, 23) := ⟨⟨by decide +kernel, by decide +kernel⟩, List.mem_of_getElem? (i := 723) (by decide +kernel), List.mem_of_getElem? (i := 892) (by decide +kernel), List.mem_of_getElem? (i := 893) (by decide +kernel)⟩
theorem lw_p20 : lw_okq (⟨"CampBookModel", "at", "(II)I"⟩, 23) := ⟨⟨by decide +kernel, by decide +kernel⟩, List.mem_of_getElem? (i := 723) (by decide +kernel), List.mem_of_getElem? (i := 896) (by decide +kernel), List.mem_of_getElem? (i := 897) (by decide +kernel)⟩
theorem lw_p21 : lw_okq (⟨"CampBookModel", "pointsOf", "(I)I"⟩, 23) := ⟨⟨by decide +kernel, by decide +kernel⟩, List.mem_of_getElem? (i := 723) (by decide +kernel), List.mem_of_getElem? (i := 908) (by decide +kernel), List.mem_of_getElem? (i := 909) (by decide +kernel)⟩
theorem lw_p22 : lw_okq (⟨"CampBookModel", "isFood", "(I)Z"⟩, 23) := ⟨⟨by decide +kernel, by decide +kernel⟩, List.mem_of_getElem? (i := 723) (by decide +kernel), List.mem_of_getElem? (i := 924) (by decide +kernel), List.mem_of_getElem? (i := 925) (by decide +kernel)⟩
theorem lw_p23 : lw_okq (⟨"CampBookModel", "isMeal", "(I)Z"⟩, 23) := ⟨⟨by decide +kernel, by decide +kernel⟩, List.mem_of_getElem? (i := 723) (by decide +kernel), List.mem_of_getElem? (i := 944) (by decide +kernel), List.mem_of_getElem? (i := 945) (by decide +kernel)⟩
theorem lw_p24 : lw_okq (⟨"CampBookModel", "setOf", "(I)J"⟩, 23) := ⟨⟨by decide +kernel, by decide +kernel⟩, List.mem_of_getElem? (i := 723) (by decide +kernel), List.mem_of_getElem? (i := 952) (by decide +kernel), List.mem_of_getElem? (i := 953) (by decide +kernel)⟩
theorem lw_p25 : lw_okq (⟨"CampBookModel", "canEat", "(II)Z"⟩, 23) := ⟨⟨by decide +kernel, by decide +kernel⟩, List.mem_of_getElem? (i := 723) (by decide +kernel), List.mem_of_getElem? (i := 956) (by decide +kernel), List.mem_of_getElem? (i := 957) (by decide +kernel)⟩
theorem lw_p26 : lw_okq (⟨"CampBookModel", "eatersOf", "(IZ)I"⟩, 23) := ⟨⟨by decide +kernel, by decide +kernel⟩, List.mem_of_getElem? (i := 723) (by decide +kernel), List.mem_of_getElem? (i := 964) (by decide +kernel), List.mem_of_getElem? (i := 965) (by decide +kernel)⟩
theorem lw_p27 : lw_okq (⟨"CampBookModel", "canBeEaten", "(I)Z"⟩, 23) := ⟨⟨by decide +kernel, by decide +kernel⟩, List.mem_of_getElem? (i := 723) (by decide +kernel), List.mem_of_getElem? (i := 973) (by decide +kernel), List.mem_of_getElem? (i := 974) (by decide +kernel)⟩
theorem lw_p28 : lw_okq (⟨"CampBookModel", "tableOf", "(I)I"⟩, 23) := ⟨⟨by decide +kernel, by decide +kernel⟩, List.mem_of_getElem? (i := 723) (by decide +kernel), List.mem_of_getElem? (i := 981) (by decide +kernel), List.mem_of_getElem? (i := 982) (by decide +kernel)⟩
theorem lw_p29 : lw_okq (⟨"CampBookModel", "isBadge", "(I)Z"⟩, 23) := ⟨⟨by decide +kernel, by decide +kernel⟩, List.mem_of_getElem? (i := 723) (by decide +kernel), List.mem_of_getElem? (i := 993) (by decide +kernel), List.mem_of_getElem? (i := 994) (by decide +kernel)⟩
theorem lw_p30 : lw_okq (⟨"CampBookModel", "awayFrom", "(II)I"⟩, 23) := ⟨⟨by decide +kernel, by decide +kernel⟩, List.mem_of_getElem? (i := 723) (by decide +kernel), List.mem_of_getElem? (i := 1008) (by decide +kernel), List.mem_of_getElem? (i := 1009) (by decide +kernel)⟩
def lw_privs_2 : List (MethodName × Nat) := [(⟨"CampBookModel", "bestTent", "(I)I"⟩, 23), (⟨"CampBookModel", "counted", "(I)I"⟩, 23), (⟨"CampBookModel", "canBeGiven", "(III)Z"⟩, 23), (⟨"CampBookModel", "hasScout", "(II)Z"⟩, 23), (⟨"CampBookModel", "at", "(II)I"⟩, 23), (⟨"CampBookModel", "pointsOf", "(I)I"⟩, 23), (⟨"CampBookModel", "isFood", "(I)Z"⟩, 23), (⟨"CampBookModel", "isMeal", "(I)Z"⟩, 23), (⟨"CampBookModel", "setOf", "(I)J"⟩, 23), (⟨"CampBookModel", "canEat", "(II)Z"⟩, 23), (⟨"CampBookModel", "eatersOf", "(IZ)I"⟩, 23), (⟨"CampBookModel", "canBeEaten", "(I)Z"⟩, 23), (⟨"CampBookModel", "tableOf", "(I)I"⟩, 23), (⟨"CampBookModel", "isBadge", "(I)Z"⟩, 23), (⟨"CampBookModel", "awayFrom", "(II)I"⟩, 23)]
theorem lw_r2 : ∀ q ∈ lw_privs_2, lw_okq q := List.forall_mem_cons.mpr ⟨lw_p16, List.forall_mem_cons.mpr ⟨lw_p17, List.forall_mem_cons.mpr ⟨lw_p18, List.forall_mem_cons.mpr ⟨lw_p19, List.forall_mem_cons.mpr ⟨lw_p20, List.forall_mem_cons.mpr ⟨lw_p21, List.forall_mem_cons.mpr ⟨lw_p22, List.forall_mem_cons.mpr ⟨lw_p23, List.forall_mem_cons.mpr ⟨lw_p24, List.forall_mem_cons.mpr ⟨lw_p25, List.forall_mem_cons.mpr ⟨lw_p26, List.forall_mem_cons.mpr ⟨lw_p27, List.forall_mem_cons.mpr ⟨lw_p28, List.forall_mem_cons.mpr ⟨lw_p29, List.forall_mem_cons.mpr ⟨lw_p30, fun _ h => absurd h List.not_mem_nil⟩⟩⟩⟩⟩⟩⟩⟩⟩⟩⟩⟩⟩⟩⟩
def lw_privs : List (MethodName × Nat) := lw_privs_1 ++ (lw_privs_2)
def lw_tbl : List Cond := k2_sels lw_privs ++ tables_1
theorem lw_privs_ok : ∀ q ∈ lw_privs, lw_okq q := by
  show ∀ q ∈ lw_privs_1 ++ (lw_privs_2), lw_okq q
  exact List.forall_mem_append.mpr ⟨lw_r1, lw_r2⟩
/-- the streams that the claim lets the run draw from -/
abbrev lw_cs : List Choice := [Jvm.Choice.named "NaN.bits"]
theorem lw_bits : nanBits ∈ lw_cs := by first | decide | exact List.mem_cons_self | simp [lw_cs, nanBits]
end
section
/-! ===== BEGIN words of one list among another's, by their places ===== -/
theorem goodIn_r {big : List Cond} (ws : List Cond) (ps : List Nat) (hp : ws = ps.filterMap (fun i => big[i]?)) (h : ws.all goodWord = true) : GoodIn big ws := by
  intro w hw
  have h1 := List.all_eq_true.mp h w hw
  rw [hp] at hw
  obtain ⟨i, -, hi⟩ := List.mem_filterMap.mp hw
  have hm : w ∈ big := by first | exact List.mem_of_getElem? hi | exact List.getElem?_mem hi
  exact ⟨hm, good_of_word h1⟩
theorem goodIn_app {big a b : List Cond} (ha : GoodIn big a) (hb : GoodIn big b) : GoodIn big (a ++ b) := fun w h => (List.mem_append.mp h).elim (ha w) (hb w)
theorem goodIn_ca {big a b : List Cond} {c : Cond} (ha : GoodIn big (c :: a)) (hb : GoodIn big b) : GoodIn big (c :: (a ++ b)) := fun w h => (List.mem_cons.mp h).elim (fun e => ha w (List.mem_cons.mpr (Or.inl e))) (fun h => (List.mem_append.mp h).elim (fun h => ha w (List.mem_cons.mpr (Or.inr h))) (hb w))
theorem goodIn_sub {big ws : List Cond} (hm : ∀ w ∈ ws, w ∈ big) (h : ws.all goodWord = true) : GoodIn big ws := fun w hw => ⟨hm w hw, good_of_word (List.all_eq_true.mp h w hw)⟩
/-! ===== END ===== -/

/-! ===== BEGIN exceptions that leave a method, and their catching by the caller (launches without stack traces) ===== -/
section VXA
/-! The laws vx_back, vx_callV, vx_callS, vx_callSW, vx_throw0, vx_throwS follow proofs of the library, with one case more: JvmDerived/Free/Laws.lean (Back.of_free), Shelf42/LK1.lean (callV, callS), Shelf/KitTraced.lean (throwNew0V, throwNewS). -/
/-- where a method has thrown q: the class by its name, the cell, what was written, the world -/
def vx_T (XC : String → State → State → Prop) (st : State) (q : Addr) (t : State) (mc ms : Nat) (free : Addr → Prop) : Prop :=
  ∃ (E : String) (ce : Cell) (L : List Loc), XC E st t ∧ t.heap[q]? = some ce ∧ ce.vm = .none ∧ st.vm.findClass E = some ce.cls ∧ st.WarmedH t.vm ∧ st.sameButNew ({ t with vm := st.vm } : State) L mc ms ∧ ∀ z ∈ L, free z.base
def vx_Q (Qc : Array Value → State → Outcome → State → Prop) (XC : String → State → State → Prop) (mc ms : Nat) (free : Addr → Prop) : Array Value → State → Outcome → State → Prop := fun a st o t =>
  (Qc a st o t ∧ ∃ L, FrameEnd st o t L mc ms ∧ ∀ q ∈ L, free q.base) ∨ ∃ q, o = .threw q ∧ vx_T XC st q t mc ms free
/-- a callee that returns or throws -/
def vx_Met (l : Launch) (y : MethodName) (ws : List Cond) (rm : Room) (Pc : Array Value → State → Prop) (Qc : Array Value → State → Outcome → State → Prop) (XC : String → State → State → Prop) (mc ms : Nat) (free : Addr → Prop) : Prop :=
  MetFree l y (headSpec ws rm) Pc (fun _ _ _ _ _ => True) (vx_Q Qc XC mc ms free)
def vx_Post (XC : String → State → State → Prop) (mc ms : Nat) (free : Addr → Prop) : Pt → Array Value → Addr → Pt → Prop := fun A a q B =>
  ∃ (g : JFrame) (mk : MethodId) (t : State) (L : List Loc) (E : String) (ce : Cell), B.U.heap = t.heap ∧ B.U.vm = t.vm ∧ XC E (A.U.calling g mk a) t ∧ t.heap[q]? = some ce ∧ ce.vm = .none ∧ A.U.vm.findClass E = some ce.cls ∧ B.locs = A.locs ++ L ∧ (∀ z ∈ L, free z.base) ∧ B.cells = A.cells + mc ∧ B.slots = A.slots + ms
def vx_Back (l : Launch) (R : Room) (p : Program) (e : Env) (below : List Frame) (s : State) (sargs : Array Value) (y : MethodName) (len W9 : Nat)
    (Pre : Pt → Array Value → Prop) (Post : Pt → Array Value → Option Value → Pt → Prop) (PostX : Pt → Array Value → Addr → Pt → Prop) : Prop :=
  ∀ (m : MethodId) (meth : Method) (c : Code) (A : Pt) (g : JFrame) (ig : Instr) (mk : MethodId) (a : Array Value),
    Stand p l e R s m sargs below meth c A.U A.locs A.cells A.slots → g.method = m → g.locals.size = c.maxLocals → decode c.code g.pc = .ok (ig, len) →
    2 * g.monitorRoom + (g.stack.map fun v => v.category).sum ≤ W9 → A.U.methodNamed? y = some mk → Pre A a →
    (∃ (v : Option Value) (B : Pt), Stand p l e R s m sargs below meth c B.U B.locs B.cells B.slots ∧ Post A a v B ∧
      Steps p.tables e below (doInvoke e (A.U.setTop g) [] mk a).1 (B.U.setTop { g with pc := g.pc + len, stack := v.toList ++ g.stack })) ∨
    (∃ (q : Addr) (B : Pt), Stand p l e R s m sargs below meth c B.U B.locs B.cells B.slots ∧ PostX A a q B ∧
      Steps p.tables e below (doInvoke e (A.U.setTop g) [] mk a).1 ((B.U.setTop g).pushFrame (.throwing q)))
section Payer
variable {l : Launch} {R : Room} {p : Program} {e : Env} {below : List Frame} {s : State} {sargs : Array Value} {y : MethodName} {len W9 : Nat}
theorem vx_back {ws : List Cond} {rm : Room} {Pc : Array Value → State → Prop} {Qc : Array Value → State → Outcome → State → Prop} {XC : String → State → State → Prop} {mc ms : Nat} {free : Addr → Prop} {bytes : ByteArray} {maxL : Nat} {ret : Option FieldType}
    (hM : vx_Met l y ws rm Pc Qc XC mc ms free) (hblind : FrameBlind Pc) (hrc : rm.cells = mc) (hrs : rm.slots = ms)
    (hframes : rm.frames + 1 ≤ R.frames) (hlocals : W9 + (maxL + 11) + rm.locals ≤ R.locals)
    (hws : ∀ w ∈ ws, ∀ a' U, s.WarmedH U.vm → w.before a' U = true) (hcode : Cond.code y bytes maxL ret ∈ ws) (hinit : ∀ a' U, s.WarmedH U.vm → (Cond.initialized y.cls).before a' U = true) :
    vx_Back l R p e below s sargs y len W9 (PreOf R mc ms Pc) (PostOf Qc mc ms free) (vx_Post XC mc ms free) := by
  intro m meth c A g ig mk a X hg hsize hdg hW hn hp
  have h1 : (headSpec ws rm).pre.before a A.U = true := atoms_intro fun w hw => hws w hw _ _ X.warmed
  have h2 : (Cond.code y bytes maxL ret).before a A.U = true := hws _ hcode _ _ X.warmed
  have h3 : (Cond.initialized y.cls).before a A.U = true := hinit _ _ X.warmed
  have h4 : A.cells + (headSpec ws rm).room.cells ≤ R.cells := by rw [show (headSpec ws rm).room.cells = mc from hrc]; exact hp.1
  have h5 : A.slots + (headSpec ws rm).room.slots ≤ R.slots := by rw [show (headSpec ws rm).room.slots = ms from hrs]; exact hp.2.1
  have hPc : Pc a (A.U.calling g mk a) := hblind _ _ _ _ hp.2.2
  obtain ⟨U, Ls, c0, s0⟩ := A
  dsimp only [Pt.U, Pt.locs, Pt.cells, Pt.slots] at h1 h2 h3 h4 h5 X hn hPc ⊢
  obtain ⟨methY, cY, hmY, hcY, -, hlY, -, -, -, -⟩ := Cond.code_spec hn h2
  obtain ⟨kY, hkY, -⟩ := className_of_methodNamed hn
  have hinitY : kY.init = .initialized := Cond.initialized_spec (findClass_of_methodNamed hn) hkY h3
  have h : At U g.method c below := by rw [hg]; exact X.here
  have hlocals9 : W9 + (maxL + 11) + (headSpec ws rm).room.locals ≤ R.locals := hlocals
  have happ : (headSpec ws rm).appliesLoose y e.platform (U.calling g mk a) = true :=
    Spec.appliesLoose_calling (g := g) h hdg hn hkY hinitY
      (X.room_calling (g := g) (R' := (headSpec ws rm).room) hsize hmY hcY hframes (by rw [hlY]; omega) h4 h5) h1
  obtain ⟨mid, hmid⟩ := h.above
  have hfr : (U.setTop g).frames = (.java g :: mid) ++ below := by rw [State.frames_setTop' g h.top, hmid]; rfl
  obtain ⟨o, s₂, hsteps, -, hend, hq⟩ := Steps.callFree hM p X.admits X.cas X.clock (acts := []) hfr happ hPc trivial
  have hq' : vx_Q Qc XC mc ms free a (U.calling g mk a) o s₂ := hq
  rw [State.frames_setTop' g h.top] at hend
  obtain ⟨g₀, hg0⟩ := Option.isSome_iff_exists.mp h.top
  obtain ⟨r, hr⟩ := State.topJava?_eq_some.mp hg0
  have hr' : (({ U with heap := s₂.heap, slotsUsed := s₂.slotsUsed } : State).setVm s₂.vm).frames = .java g₀ :: r := hr
  rcases hq' with ⟨hqc, L, hfe, hL⟩ | ⟨q, rfl, E, ce, L, hx, hce, hcv, hcl, hW₂, hsm, hL⟩
  · obtain ⟨⟨v, rfl⟩, hW₂, e2, q2, q3, q4, q5, q6⟩ := id hfe
    have e3 : s₂ = ({ (U.calling g mk a).setFrames s₂.frames with heap := s₂.heap, slotsUsed := s₂.slotsUsed } : State).setVm s₂.vm := by
      have : s₂ = ({ s₂ with vm := (U.calling g mk a).vm } : State).setVm s₂.vm := rfl
      rw [e2] at this
      exact this
    obtain ⟨c₂, i₂, len₂, hc₂, hd₂, hf₂⟩ := hend
    have hW' : U.WarmedH s₂.vm := hW₂
    have hcc : c₂ = c := by
      have h1 : s₂.code? g.method = U.code? g.method := by
        rw [State.code?_eq, State.code?_eq, hW'.alike.method?]
      exact Option.some.inj (hc₂.symm.trans (h1.trans h.code))
    subst hcc
    have hlen : len₂ = len := by rw [hdg] at hd₂; cases hd₂; rfl
    subst hlen
    have hs₂ : s₂ = (({ U with heap := s₂.heap, slotsUsed := s₂.slotsUsed } : State).setVm s₂.vm).setTop { g with pc := g.pc + len₂, stack := v.toList ++ g.stack } := by
      refine e3.trans ?_
      rw [hf₂, State.calling_eq h.top, State.setFrames_setFrames, State.setTop_of_frames _ hr', hr]
      rfl
    have hsame : U.sameButNew ({ U with heap := s₂.heap, slotsUsed := s₂.slotsUsed } : State) L mc ms := by
      refine ⟨?_, q2, q3, q4, q5, q6⟩
      obtain ⟨t, ht, -⟩ := State.frames_cons hr
      show ({ U with heap := s₂.heap, slotsUsed := s₂.slotsUsed } : State) = { U.setFrames U.frames with heap := s₂.heap, slotsUsed := s₂.slotsUsed }
      rw [State.setFrames_self ht]
    subst hg
    refine Or.inl ⟨v, ⟨(({ U with heap := s₂.heap, slotsUsed := s₂.slotsUsed } : State).setVm s₂.vm), Ls ++ L, c0 + mc, s0 + ms⟩,
      ⟨X.admits, X.cas, X.clock, X.frames, X.room, X.hears, X.method, X.code, (X.here.setHeapUsed s₂.heap s₂.slotsUsed).setVm hW'.alike, X.tail, State.WarmedH.trans X.warmed hW', X.limits, X.bytes, X.same.trans (hsame.setVm s.vm)⟩,
      ⟨g, mk, s₂, L, rfl, rfl, hqc, rfl, hL, rfl, rfl⟩, ?_⟩
    show Steps p.tables e below _ ((({ U with heap := s₂.heap, slotsUsed := s₂.slotsUsed } : State).setVm s₂.vm).setTop { g with pc := g.pc + len₂, stack := v.toList ++ g.stack })
    rw [← hs₂]
    exact hsteps
  · obtain ⟨e2, q2, q3, q4, q5, q6⟩ := id hsm
    have e3 : s₂ = ({ (U.calling g mk a).setFrames s₂.frames with heap := s₂.heap, slotsUsed := s₂.slotsUsed } : State).setVm s₂.vm := by
      have : s₂ = ({ s₂ with vm := (U.calling g mk a).vm } : State).setVm s₂.vm := rfl
      rw [e2] at this
      exact this
    have hf₂ : s₂.frames = .throwing q :: .java g :: U.frames.tail := hend
    have hW' : U.WarmedH s₂.vm := hW₂
    have hs₂ : s₂ = ((({ U with heap := s₂.heap, slotsUsed := s₂.slotsUsed } : State).setVm s₂.vm).setTop g).pushFrame (.throwing q) := by
      refine e3.trans ?_
      rw [hf₂, State.calling_eq h.top, State.setFrames_setFrames, State.pushFrame, State.frames_setTop _ hr', State.setTop_of_frames _ hr', State.setFrames_setFrames, hr]
      rfl
    have hsame : U.sameButNew ({ U with heap := s₂.heap, slotsUsed := s₂.slotsUsed } : State) L mc ms := by
      refine ⟨?_, q2, q3, q4, q5, q6⟩
      obtain ⟨t, ht, -⟩ := State.frames_cons hr
      show ({ U with heap := s₂.heap, slotsUsed := s₂.slotsUsed } : State) = { U.setFrames U.frames with heap := s₂.heap, slotsUsed := s₂.slotsUsed }
      rw [State.setFrames_self ht]
    subst hg
    refine Or.inr ⟨q, ⟨(({ U with heap := s₂.heap, slotsUsed := s₂.slotsUsed } : State).setVm s₂.vm), Ls ++ L, c0 + mc, s0 + ms⟩,
      ⟨X.admits, X.cas, X.clock, X.frames, X.room, X.hears, X.method, X.code, (X.here.setHeapUsed s₂.heap s₂.slotsUsed).setVm hW'.alike, X.tail, State.WarmedH.trans X.warmed hW', X.limits, X.bytes, X.same.trans (hsame.setVm s.vm)⟩,
      ⟨g, mk, s₂, L, E, ce, rfl, rfl, hx, hce, hcv, hcl, rfl, hL, rfl, rfl⟩, ?_⟩
    show Steps p.tables e below _ (((({ U with heap := s₂.heap, slotsUsed := s₂.slotsUsed } : State).setVm s₂.vm).setTop g).pushFrame (.throwing q))
    rw [← hs₂]
    exact hsteps
end Payer
section Calls
variable {p : Program} {l : Launch} {e : Env} {R : Room} {s : State} {m : MethodId} {args : Array Value} {below : List Frame} {meth : Method} {c : Code} {T : State} {locs : List Loc} {cells slots : Nat}
theorem vx_callV (X : Stand p l e R s m args below meth c T locs cells slots) (hexec : p.tables.exec = Jvm.exec) {own C : String} {index : Nat} {y : MethodName} {bytes : ByteArray} {maxL : Nat} {ret : Option FieldType}
    (hown : s.vm.findClass own = some m.cls) (hlink : (Cond.methodLink own index y).before args s = true) (hinst : (Cond.instanceMethod y).before args s = true) (hsel : (Cond.selects C y y).before args s = true)
    (hcode : (Cond.code y bytes maxL ret).before args s = true) (hy : y.cls ≠ "java/lang/invoke/MethodHandle" ∧ y.cls ≠ "java/lang/invoke/VarHandle")
    {W9 : Nat} {Pre : Pt → Array Value → Prop} {Post : Pt → Array Value → Option Value → Pt → Prop} {PostX : Pt → Array Value → Addr → Pt → Prop} (hK : vx_Back l R p e below s args y 3 W9 Pre Post PostX)
    {b : Addr} {cellB : Cell} (hcell : T.heap[b]? = some cellB) (hobj : cellB.vm.isStatics = false) (hcls : s.vm.findClass C = some cellB.cls)
    {g : JFrame} (hg : g.method = m) (hsize : g.locals.size = c.maxLocals) {argsL rest : List Value} (hlen : ∀ sig, parseMethodDescriptor y.desc = some sig → argsL.length = sig.parameters.length)
    (hstack : g.stack = argsL.reverse ++ .ref b :: rest) (hW : 2 * g.monitorRoom + (rest.map fun v => v.category).sum ≤ W9) (hdg : decode c.code g.pc = .ok (.invokevirtual index, 3))
    (hpre : ∀ vm₁, s.WarmedH vm₁ → Pre ⟨T.setVm vm₁, locs, cells, slots⟩ (Value.ref b :: argsL).toArray) :
    (∃ (v : Option Value) (vm₁ : Vm) (B : Pt), s.WarmedH vm₁ ∧ Stand p l e R s m args below meth c B.U B.locs B.cells B.slots ∧ Post ⟨T.setVm vm₁, locs, cells, slots⟩ (Value.ref b :: argsL).toArray v B ∧
      ∀ target, Steps p.tables e below (B.U.setTop { g with pc := g.pc + 3, stack := v.toList ++ rest }) target → Steps p.tables e below (T.setTop g) target) ∨
    (∃ (q : Addr) (vm₁ : Vm) (B : Pt), s.WarmedH vm₁ ∧ Stand p l e R s m args below meth c B.U B.locs B.cells B.slots ∧ PostX ⟨T.setVm vm₁, locs, cells, slots⟩ (Value.ref b :: argsL).toArray q B ∧
      Steps p.tables e below (T.setTop g) ((B.U.setTop { g with stack := rest }).pushFrame (.throwing q))) := by
  obtain ⟨mk, methM, hnamed, hmethM, hstM, habM⟩ := Cond.instanceMethod_spec hinst
  obtain ⟨methM', cM, hmethM', -, -, -, -, -, -, hsigM⟩ := Cond.code_spec hnamed hcode
  cases hmethM.symm.trans hmethM'
  obtain ⟨c2, r2, m2, q1, q2, q3, q4, kP, hkP, hkPi⟩ := Cond.selects_spec hsel
  cases hcls.symm.trans q1
  cases (State.methodFound?_of_named hnamed hy).symm.trans q2
  cases hnamed.symm.trans q3
  have hselP : selectMethod e.platform s.vm cellB.cls mk = .method mk := by rw [Launch.admits_selectMethod X.admits]; exact q4
  obtain ⟨vm₁, X₁, hstep₁⟩ := X.invokevirtual hexec hown hlink hnamed hmethM hstM hkP hkPi hy (a := b) (cell := cellB) hcell
    (fun z h => by rw [h] at hobj; cases hobj) hselP hmethM habM hkP hkPi (g := g) hg (argsL := argsL) (rest := rest) (hlen _ hsigM) hstack hdg
  rcases hK m meth c ⟨T.setVm vm₁, locs, cells, slots⟩ { g with stack := rest } (.invokevirtual index) mk (Value.ref b :: argsL).toArray X₁ hg hsize hdg hW (X₁.named hnamed) (hpre vm₁ X₁.warmed) with ⟨v, B, X', hpost, hsteps⟩ | ⟨q, B, X', hpost, hsteps⟩
  · exact Or.inl ⟨v, vm₁, B, X₁.warmed, X', hpost, fun target h => hstep₁ _ fun acts => by rw [doInvoke_state]; exact hsteps.trans h⟩
  · exact Or.inr ⟨q, vm₁, B, X₁.warmed, X', hpost, hstep₁ _ fun acts => by rw [doInvoke_state]; exact hsteps⟩
theorem vx_callS (X : Stand p l e R s m args below meth c T locs cells slots) (hexec : p.tables.exec = Jvm.exec) {own : String} {index : Nat} {y : MethodName} {bytes : ByteArray} {maxL : Nat} {ret : Option FieldType}
    (hown : s.vm.findClass own = some m.cls) (hlink : (Cond.methodLink own index y).before args s = true) (hstat : (Cond.static y).before args s = true) (hinit : (Cond.initialized y.cls).before args s = true)
    (hcode : (Cond.code y bytes maxL ret).before args s = true) (hy : y.cls ≠ "java/lang/invoke/MethodHandle" ∧ y.cls ≠ "java/lang/invoke/VarHandle")
    {W9 : Nat} {Pre : Pt → Array Value → Prop} {Post : Pt → Array Value → Option Value → Pt → Prop} {PostX : Pt → Array Value → Addr → Pt → Prop} (hK : vx_Back l R p e below s args y 3 W9 Pre Post PostX)
    {g : JFrame} (hg : g.method = m) (hsize : g.locals.size = c.maxLocals) {argsL rest : List Value} (hlen : ∀ sig, parseMethodDescriptor y.desc = some sig → argsL.length = sig.parameters.length)
    (hstack : g.stack = argsL.reverse ++ rest) (hW : 2 * g.monitorRoom + (rest.map fun v => v.category).sum ≤ W9) (hdg : decode c.code g.pc = .ok (.invokestatic index, 3))
    (hpre : ∀ vm₁, s.WarmedH vm₁ → Pre ⟨T.setVm vm₁, locs, cells, slots⟩ argsL.toArray) :
    (∃ (v : Option Value) (vm₁ : Vm) (B : Pt), s.WarmedH vm₁ ∧ Stand p l e R s m args below meth c B.U B.locs B.cells B.slots ∧ Post ⟨T.setVm vm₁, locs, cells, slots⟩ argsL.toArray v B ∧
      ∀ target, Steps p.tables e below (B.U.setTop { g with pc := g.pc + 3, stack := v.toList ++ rest }) target → Steps p.tables e below (T.setTop g) target) ∨
    (∃ (q : Addr) (vm₁ : Vm) (B : Pt), s.WarmedH vm₁ ∧ Stand p l e R s m args below meth c B.U B.locs B.cells B.slots ∧ PostX ⟨T.setVm vm₁, locs, cells, slots⟩ argsL.toArray q B ∧
      Steps p.tables e below (T.setTop g) ((B.U.setTop { g with stack := rest }).pushFrame (.throwing q))) := by
  obtain ⟨mk, hnamed⟩ := Cond.code_named hcode
  obtain ⟨methM, cM, hmethM, -, -, -, -, -, -, hsigM⟩ := Cond.code_spec hnamed hcode
  have hstatic : methM.isStatic = true := Cond.static_spec hnamed hmethM hstat
  obtain ⟨kP, hkP, -⟩ := className_of_methodNamed hnamed
  have hinitP : kP.init = .initialized := Cond.initialized_spec (findClass_of_methodNamed hnamed) hkP hinit
  obtain ⟨vm₁, X₁, hstep₁⟩ := X.invokestatic hexec hown hlink hnamed hmethM hstatic hkP hinitP hy (g := g) hg (argsL := argsL) (rest := rest) (hlen _ hsigM) hstack hdg
  rcases hK m meth c ⟨T.setVm vm₁, locs, cells, slots⟩ { g with stack := rest } (.invokestatic index) mk argsL.toArray X₁ hg hsize hdg hW (X₁.named hnamed) (hpre vm₁ X₁.warmed) with ⟨v, B, X', hpost, hsteps⟩ | ⟨q, B, X', hpost, hsteps⟩
  · exact Or.inl ⟨v, vm₁, B, X₁.warmed, X', hpost, fun target h => hstep₁ _ fun acts => by rw [doInvoke_state]; exact hsteps.trans h⟩
  · exact Or.inr ⟨q, vm₁, B, X₁.warmed, X', hpost, hstep₁ _ fun acts => by rw [doInvoke_state]; exact hsteps⟩
end Calls
theorem vx_cls {s : State} {T : State} {vm₁ : Vm} {E : String} {k : ClassId} (hW : s.WarmedH vm₁) (h : (T.setVm vm₁).vm.findClass E = some k) : s.vm.findClass E = some k := by
  have h1 : vm₁.findClass E = some k := h
  rw [hW.alike.findClass] at h1
  exact h1
/-- the method's frame g, with q thrown over it -/
def vx_W (p : Program) (l : Launch) (e : Env) (R : Room) (s : State) (m : MethodId) (args : Array Value) (below : List Frame) (meth : Method) (c : Code) (H : Heap) (locs : List Loc) (cells slots : Nat) (Q : State → Prop) (g : JFrame) (q : Addr) : Prop :=
  ∀ T : State, T.heap = H → Stand p l e R s m args below meth c T locs cells slots → ∃ t, Steps p.tables e below ((T.setTop g).pushFrame (.throwing q)) t ∧ Q t
def vx_Run (p : Program) (l : Launch) (e : Env) (R : Room) (s : State) (m : MethodId) (args : Array Value) (below : List Frame) (meth : Method) (c : Code) (H : Heap) (locs : List Loc) (cells slots mc ms : Nat) (g : JFrame) (rest : List Value) (Qa : State → Outcome → State → Prop) (XC : String → State → State → Prop) (free : Addr → Prop) : Prop :=
  ∀ T : State, T.heap = H → Stand p l e R s m args below meth c T locs cells slots →
    (∃ (v : Option Value) (st₀ t T' : State) (L : List Loc), st₀.heap = H ∧ Stand p l e R s m args below meth c T' (locs ++ L) (cells + mc) (slots + ms) ∧ (∀ q ∈ L, free q.base) ∧ T'.heap = t.heap ∧ T'.vm = t.vm ∧ Qa st₀ (.returned v) t ∧
      Goes p e below T g T' { g with pc := g.pc + 3, stack := v.toList ++ rest }) ∨
    (∃ (q : Addr) (st₀ t T' : State) (L : List Loc) (E : String) (ce : Cell), st₀.heap = H ∧ Stand p l e R s m args below meth c T' (locs ++ L) (cells + mc) (slots + ms) ∧ (∀ z ∈ L, free z.base) ∧ T'.heap = t.heap ∧ T'.vm = t.vm ∧ XC E st₀ t ∧ t.heap[q]? = some ce ∧ ce.vm = .none ∧ s.vm.findClass E = some ce.cls ∧
      Steps p.tables e below (T.setTop g) ((T'.setTop { g with stack := rest }).pushFrame (.throwing q)))
def vx_X {S : Type} (px : S → Prop) (B : String → S → State → Prop) (A : Nat → Prop) : String → State → State → Prop := fun E st t => ∃ u : S, px u ∧ B E u t ∧ va_F A st t
section Runs
variable {p : Program} {l : Launch} {e : Env} {R : Room} {s : State} {m : MethodId} {args : Array Value} {below : List Frame} {meth : Method} {c : Code} {H : Heap} {locs : List Loc} {cells slots : Nat}
variable {y : MethodName} {bytes cc : ByteArray} {maxL nL mc ms n index : Nat} {ret : Option FieldType} {ws : List Cond} {rm : Room} {Pc : Array Value → State → Prop} {Qc : Array Value → State → Outcome → State → Prop} {XC : String → State → State → Prop} {free : Addr → Prop} {Ts : List Cond} {own C : String} {b : Addr} {As rest : List Value} {g : JFrame}
theorem vx_callBack (cb : CallB R s args own index y bytes maxL ret ws rm mc ms n) (hM : vx_Met l y ws rm Pc Qc XC mc ms free) (hbl : FrameBlind Pc) : vx_Back l R p e below s args y 3 8 (PreOf R mc ms Pc) (PostOf Qc mc ms free) (vx_Post XC mc ms free) := by
  obtain ⟨hrc, hrs, hfr, hlo, hws, hcw, -, hini, -⟩ := cb
  exact vx_back (bytes := bytes) (maxL := maxL) (ret := ret) hM hbl hrc hrs hfr hlo hws hcw (fun a' U hW => word_at hW (Or.inl (by first | rfl | simp [Cond.onTables, Cond.keeps, Cond.steady])) hini)
theorem vx_runV (S : CallFix p m c cc nL s args Ts own) (hM : vx_Met l y ws rm Pc Qc XC mc ms free) (cw : CallW R s args own C index y bytes maxL ret ws rm mc ms n) (hp : PreV s H C b Pc As)
    (hg : g.method = m) (hn : As.length = n) (hsize : g.locals.size = nL) (hstack : g.stack = As.reverse ++ .ref b :: rest) (hW : 2 * g.monitorRoom + (rest.map fun v => v.category).sum ≤ 8) (hdg : decode cc g.pc = .ok (.invokevirtual index, 3)) (hf : cells + mc ≤ R.cells ∧ slots + ms ≤ R.slots) :
    vx_Run p l e R s m args below meth c H locs cells slots mc ms g rest (Qc (Value.ref b :: As).toArray) XC free := by
  have hK : vx_Back l R p e below s args y 3 8 (PreOf R mc ms Pc) (PostOf Qc mc ms free) (vx_Post XC mc ms free) := vx_callBack cw.1 hM hp.1
  obtain ⟨⟨-, -, -, -, -, -, hcode, -, hy, hlen, hl⟩, hin, hse⟩ := cw
  obtain ⟨hx, hb, hml, ho, -⟩ := S
  obtain ⟨-, ⟨cellB, hcB, hoB, hclB⟩, hPc⟩ := hp
  intro T hT X
  rcases vx_callV X hx (C := C) (bytes := bytes) (maxL := maxL) (ret := ret) ho hl hin hse hcode hy hK (by rw [hT]; exact hcB) hoB hclB hg (hsize.trans hml.symm) (argsL := As) (rest := rest) (fun sig h => hn.trans (hlen sig h)) hstack hW (by rw [hb]; exact hdg)
    (fun vm₁ hW₁ => ⟨hf.1, hf.2, hPc (T.setVm vm₁) hT hW₁⟩) with ⟨v, vm₁, ⟨U', l2, c2, s2⟩, hW₁, X', ⟨g', mk, t, L, e1, e2, hq, h1, hL, h2, h3⟩, st⟩ | ⟨q, vm₁, ⟨U', l2, c2, s2⟩, hW₁, X', ⟨g', mk, t, L, E, ce, e1, e2, hq, hce, hcv, hcl, h1, hL, h2, h3⟩, st⟩
  · dsimp only [Pt.U, Pt.locs, Pt.cells, Pt.slots] at X' e1 e2 h1 h2 h3 st
    subst h1; subst h2; subst h3
    exact Or.inl ⟨v, (T.setVm vm₁).calling g' mk (Value.ref b :: As).toArray, t, U', L, hT, X', hL, e1, e2, hq, st⟩
  · dsimp only [Pt.U, Pt.locs, Pt.cells, Pt.slots] at X' e1 e2 h1 h2 h3 st hcl
    subst h1; subst h2; subst h3
    exact Or.inr ⟨q, (T.setVm vm₁).calling g' mk (Value.ref b :: As).toArray, t, U', L, E, ce, hT, X', hL, e1, e2, hq, hce, hcv, vx_cls hW₁ hcl, st⟩
theorem vx_runS (S : CallFix p m c cc nL s args Ts own) (hM : vx_Met l y ws rm Pc Qc XC mc ms free) (cw : CallB R s args own index y bytes maxL ret ws rm mc ms n ∧ (Cond.static y).before args s = true) (hp : PreS s H Pc As)
    (hg : g.method = m) (hn : As.length = n) (hsize : g.locals.size = nL) (hstack : g.stack = As.reverse ++ rest) (hW : 2 * g.monitorRoom + (rest.map fun v => v.category).sum ≤ 8) (hdg : decode cc g.pc = .ok (.invokestatic index, 3)) (hf : cells + mc ≤ R.cells ∧ slots + ms ≤ R.slots) :
    vx_Run p l e R s m args below meth c H locs cells slots mc ms g rest (Qc As.toArray) XC free := by
  have hK : vx_Back l R p e below s args y 3 8 (PreOf R mc ms Pc) (PostOf Qc mc ms free) (vx_Post XC mc ms free) := vx_callBack cw.1 hM hp.1
  obtain ⟨⟨-, -, -, -, -, -, hcode, hini, hy, hlen, hl⟩, hstt⟩ := cw
  obtain ⟨hx, hb, hml, ho, -⟩ := S
  intro T hT X
  rcases vx_callS X hx (bytes := bytes) (maxL := maxL) (ret := ret) ho hl hstt hini hcode hy hK hg (hsize.trans hml.symm) (argsL := As) (rest := rest) (fun sig h => hn.trans (hlen sig h)) hstack hW (by rw [hb]; exact hdg)
    (fun vm₁ hW₁ => ⟨hf.1, hf.2, hp.2 (T.setVm vm₁) hT hW₁⟩) with ⟨v, vm₁, ⟨U', l2, c2, s2⟩, hW₁, X', ⟨g', mk, t, L, e1, e2, hq, h1, hL, h2, h3⟩, st⟩ | ⟨q, vm₁, ⟨U', l2, c2, s2⟩, hW₁, X', ⟨g', mk, t, L, E, ce, e1, e2, hq, hce, hcv, hcl, h1, hL, h2, h3⟩, st⟩
  · dsimp only [Pt.U, Pt.locs, Pt.cells, Pt.slots] at X' e1 e2 h1 h2 h3 st
    subst h1; subst h2; subst h3
    exact Or.inl ⟨v, (T.setVm vm₁).calling g' mk As.toArray, t, U', L, hT, X', hL, e1, e2, hq, st⟩
  · dsimp only [Pt.U, Pt.locs, Pt.cells, Pt.slots] at X' e1 e2 h1 h2 h3 st hcl
    subst h1; subst h2; subst h3
    exact Or.inr ⟨q, (T.setVm vm₁).calling g' mk As.toArray, t, U', L, E, ce, hT, X', hL, e1, e2, hq, hce, hcv, vx_cls hW₁ hcl, st⟩
end Runs
section Rows
variable {p : Program} {l : Launch} {e : Env} {R : Room} {s : State} {m : MethodId} {args : Array Value} {below : List Frame} {meth : Method} {c : Code} {H : Heap} {locs : List Loc} {cells slots : Nat} {Q : State → Prop}
variable {mc ms : Nat} {free : Addr → Prop} {A0 A1 : Nat → Prop} {H0 : Heap} {a : Array Value} {pc : Nat} {ls : Array Slot} {st0 rest : List Value}
theorem vx_keep {st₀ t T' : State} {L : List Loc} (h0 : st₀.heap = H) (e1 : T'.heap = t.heap) (hS : va_S A0 H0 H locs) (hA : ∀ q, q < H.size → A1 q → A0 q) (hf : ∀ q, free q → A0 q) (hL : ∀ q ∈ L, free q.base) (hF : va_F A1 st₀ t) :
    H.size ≤ T'.heap.size ∧ (∀ q : Nat, q < H.size → ¬ A1 q → T'.heap[q]? = H[q]?) ∧ va_S A0 H0 T'.heap (locs ++ L) := by
  obtain ⟨hz, hk⟩ := hF
  rw [h0] at hz hk
  exact ⟨by rw [e1]; exact hz, fun q h1 h2 => by rw [e1]; exact hk q h1 h2,
    ⟨Nat.le_trans hS.1 (by rw [e1]; exact hz), fun q h1 h2 => by rw [e1, hk q (Nat.lt_of_lt_of_le h1 hS.1) (fun z => h2 (hA q (Nat.lt_of_lt_of_le h1 hS.1) z))]; exact hS.2.1 q h1 h2, fun q hq => by
      rcases List.mem_append.mp hq with h | h
      · exact hS.2.2 q h
      · exact hf _ (hL q h)⟩⟩
theorem vx_calli {S SX : Type} {post : Int32 → S → Prop} {px : SX → Prop} {B : S → State → Prop} {BX : String → SX → State → Prop} {AX : Nat → Prop} (hr : vx_Run p l e R s m args below meth c H locs cells slots mc ms (F0 m pc ls st0) rest (va_Qi post B A1 a) (vx_X px BX AX) free) (hS : va_S A0 H0 H locs) (hA : ∀ q, q < H.size → A1 q → A0 q) (hf : ∀ q, free q → A0 q) (hAX : ∀ q, q < H.size → AX q → A0 q)
    (kx : ∀ (E : String) (ce : Cell) (q9 : Addr) (u : SX) (t : State) (H1 : Heap) (locs1 : List Loc), t.heap = H1 → s.vm.Alike t.vm → px u → BX E u t → H.size ≤ H1.size → (∀ q : Nat, q < H.size → ¬ AX q → H1[q]? = H[q]?) → va_S A0 H0 H1 locs1 → H1[q9]? = some ce → ce.vm = .none → s.vm.findClass E = some ce.cls → vx_W p l e R s m args below meth c H1 locs1 (cells + mc) (slots + ms) Q (F0 m pc ls rest) q9)
    (kk : ∀ (r : Int32) (u : S) (t : State) (H1 : Heap) (locs1 : List Loc), t.heap = H1 → s.vm.Alike t.vm → post r u → B u t → H.size ≤ H1.size → (∀ q : Nat, q < H.size → ¬ A1 q → H1[q]? = H[q]?) → va_S A0 H0 H1 locs1 → W p l e R s m args below meth c H1 locs1 (cells + mc) (slots + ms) Q (F0 m (pc + 3) ls (.int r :: rest))) : W p l e R s m args below meth c H locs cells slots Q (F0 m pc ls st0) := by
  intro T hT X
  rcases hr T hT X with ⟨v, st₀, t, T', L, h0, X', hL, e1, e2, ⟨⟨r, u, hv, hp, hb⟩, hF⟩, st⟩ | ⟨q, st₀, t, T', L, E, ce, h0, X', hL, e1, e2, ⟨u, hp, hb, hF⟩, hce, hcv, hcl, st⟩
  · cases hv
    obtain ⟨k1, k2, k3⟩ := vx_keep h0 e1 hS hA hf hL hF
    obtain ⟨t2, a1, b1⟩ := kk r u t T'.heap (locs ++ L) e1.symm (by rw [← e2]; exact X'.warmed.alike) hp hb k1 k2 k3 T' rfl X'
    exact ⟨t2, st t2 a1, b1⟩
  · obtain ⟨k1, k2, k3⟩ := vx_keep h0 e1 hS hAX hf hL hF
    obtain ⟨t2, a1, b1⟩ := kx E ce q u t T'.heap (locs ++ L) e1.symm (by rw [← e2]; exact X'.warmed.alike) hp hb k1 k2 k3 (by rw [e1]; exact hce) hcv hcl T' rfl X'
    exact ⟨t2, st.trans a1, b1⟩
theorem vx_calll {S SX : Type} {post : Int64 → S → Prop} {px : SX → Prop} {B : S → State → Prop} {BX : String → SX → State → Prop} {AX : Nat → Prop} (hr : vx_Run p l e R s m args below meth c H locs cells slots mc ms (F0 m pc ls st0) rest (va_Ql post B A1 a) (vx_X px BX AX) free) (hS : va_S A0 H0 H locs) (hA : ∀ q, q < H.size → A1 q → A0 q) (hf : ∀ q, free q → A0 q) (hAX : ∀ q, q < H.size → AX q → A0 q)
    (kx : ∀ (E : String) (ce : Cell) (q9 : Addr) (u : SX) (t : State) (H1 : Heap) (locs1 : List Loc), t.heap = H1 → s.vm.Alike t.vm → px u → BX E u t → H.size ≤ H1.size → (∀ q : Nat, q < H.size → ¬ AX q → H1[q]? = H[q]?) → va_S A0 H0 H1 locs1 → H1[q9]? = some ce → ce.vm = .none → s.vm.findClass E = some ce.cls → vx_W p l e R s m args below meth c H1 locs1 (cells + mc) (slots + ms) Q (F0 m pc ls rest) q9)
    (kk : ∀ (r : Int64) (u : S) (t : State) (H1 : Heap) (locs1 : List Loc), t.heap = H1 → s.vm.Alike t.vm → post r u → B u t → H.size ≤ H1.size → (∀ q : Nat, q < H.size → ¬ A1 q → H1[q]? = H[q]?) → va_S A0 H0 H1 locs1 → W p l e R s m args below meth c H1 locs1 (cells + mc) (slots + ms) Q (F0 m (pc + 3) ls (.long r :: rest))) : W p l e R s m args below meth c H locs cells slots Q (F0 m pc ls st0) := by
  intro T hT X
  rcases hr T hT X with ⟨v, st₀, t, T', L, h0, X', hL, e1, e2, ⟨⟨r, u, hv, hp, hb⟩, hF⟩, st⟩ | ⟨q, st₀, t, T', L, E, ce, h0, X', hL, e1, e2, ⟨u, hp, hb, hF⟩, hce, hcv, hcl, st⟩
  · cases hv
    obtain ⟨k1, k2, k3⟩ := vx_keep h0 e1 hS hA hf hL hF
    obtain ⟨t2, a1, b1⟩ := kk r u t T'.heap (locs ++ L) e1.symm (by rw [← e2]; exact X'.warmed.alike) hp hb k1 k2 k3 T' rfl X'
    exact ⟨t2, st t2 a1, b1⟩
  · obtain ⟨k1, k2, k3⟩ := vx_keep h0 e1 hS hAX hf hL hF
    obtain ⟨t2, a1, b1⟩ := kx E ce q u t T'.heap (locs ++ L) e1.symm (by rw [← e2]; exact X'.warmed.alike) hp hb k1 k2 k3 (by rw [e1]; exact hce) hcv hcl T' rfl X'
    exact ⟨t2, st.trans a1, b1⟩
theorem vx_callf {S SX : Type} {post : UInt32 → S → Prop} {px : SX → Prop} {B : S → State → Prop} {BX : String → SX → State → Prop} {AX : Nat → Prop} (hr : vx_Run p l e R s m args below meth c H locs cells slots mc ms (F0 m pc ls st0) rest (va_Qf post B A1 a) (vx_X px BX AX) free) (hS : va_S A0 H0 H locs) (hA : ∀ q, q < H.size → A1 q → A0 q) (hf : ∀ q, free q → A0 q) (hAX : ∀ q, q < H.size → AX q → A0 q)
    (kx : ∀ (E : String) (ce : Cell) (q9 : Addr) (u : SX) (t : State) (H1 : Heap) (locs1 : List Loc), t.heap = H1 → s.vm.Alike t.vm → px u → BX E u t → H.size ≤ H1.size → (∀ q : Nat, q < H.size → ¬ AX q → H1[q]? = H[q]?) → va_S A0 H0 H1 locs1 → H1[q9]? = some ce → ce.vm = .none → s.vm.findClass E = some ce.cls → vx_W p l e R s m args below meth c H1 locs1 (cells + mc) (slots + ms) Q (F0 m pc ls rest) q9)
    (kk : ∀ (r : UInt32) (u : S) (t : State) (H1 : Heap) (locs1 : List Loc), t.heap = H1 → s.vm.Alike t.vm → post r u → B u t → H.size ≤ H1.size → (∀ q : Nat, q < H.size → ¬ A1 q → H1[q]? = H[q]?) → va_S A0 H0 H1 locs1 → W p l e R s m args below meth c H1 locs1 (cells + mc) (slots + ms) Q (F0 m (pc + 3) ls (.float r :: rest))) : W p l e R s m args below meth c H locs cells slots Q (F0 m pc ls st0) := by
  intro T hT X
  rcases hr T hT X with ⟨v, st₀, t, T', L, h0, X', hL, e1, e2, ⟨⟨r, u, hv, hp, hb⟩, hF⟩, st⟩ | ⟨q, st₀, t, T', L, E, ce, h0, X', hL, e1, e2, ⟨u, hp, hb, hF⟩, hce, hcv, hcl, st⟩
  · cases hv
    obtain ⟨k1, k2, k3⟩ := vx_keep h0 e1 hS hA hf hL hF
    obtain ⟨t2, a1, b1⟩ := kk r u t T'.heap (locs ++ L) e1.symm (by rw [← e2]; exact X'.warmed.alike) hp hb k1 k2 k3 T' rfl X'
    exact ⟨t2, st t2 a1, b1⟩
  · obtain ⟨k1, k2, k3⟩ := vx_keep h0 e1 hS hAX hf hL hF
    obtain ⟨t2, a1, b1⟩ := kx E ce q u t T'.heap (locs ++ L) e1.symm (by rw [← e2]; exact X'.warmed.alike) hp hb k1 k2 k3 (by rw [e1]; exact hce) hcv hcl T' rfl X'
    exact ⟨t2, st.trans a1, b1⟩
theorem vx_calld {S SX : Type} {post : UInt64 → S → Prop} {px : SX → Prop} {B : S → State → Prop} {BX : String → SX → State → Prop} {AX : Nat → Prop} (hr : vx_Run p l e R s m args below meth c H locs cells slots mc ms (F0 m pc ls st0) rest (va_Qd post B A1 a) (vx_X px BX AX) free) (hS : va_S A0 H0 H locs) (hA : ∀ q, q < H.size → A1 q → A0 q) (hf : ∀ q, free q → A0 q) (hAX : ∀ q, q < H.size → AX q → A0 q)
    (kx : ∀ (E : String) (ce : Cell) (q9 : Addr) (u : SX) (t : State) (H1 : Heap) (locs1 : List Loc), t.heap = H1 → s.vm.Alike t.vm → px u → BX E u t → H.size ≤ H1.size → (∀ q : Nat, q < H.size → ¬ AX q → H1[q]? = H[q]?) → va_S A0 H0 H1 locs1 → H1[q9]? = some ce → ce.vm = .none → s.vm.findClass E = some ce.cls → vx_W p l e R s m args below meth c H1 locs1 (cells + mc) (slots + ms) Q (F0 m pc ls rest) q9)
    (kk : ∀ (r : UInt64) (u : S) (t : State) (H1 : Heap) (locs1 : List Loc), t.heap = H1 → s.vm.Alike t.vm → post r u → B u t → H.size ≤ H1.size → (∀ q : Nat, q < H.size → ¬ A1 q → H1[q]? = H[q]?) → va_S A0 H0 H1 locs1 → W p l e R s m args below meth c H1 locs1 (cells + mc) (slots + ms) Q (F0 m (pc + 3) ls (.double r :: rest))) : W p l e R s m args below meth c H locs cells slots Q (F0 m pc ls st0) := by
  intro T hT X
  rcases hr T hT X with ⟨v, st₀, t, T', L, h0, X', hL, e1, e2, ⟨⟨r, u, hv, hp, hb⟩, hF⟩, st⟩ | ⟨q, st₀, t, T', L, E, ce, h0, X', hL, e1, e2, ⟨u, hp, hb, hF⟩, hce, hcv, hcl, st⟩
  · cases hv
    obtain ⟨k1, k2, k3⟩ := vx_keep h0 e1 hS hA hf hL hF
    obtain ⟨t2, a1, b1⟩ := kk r u t T'.heap (locs ++ L) e1.symm (by rw [← e2]; exact X'.warmed.alike) hp hb k1 k2 k3 T' rfl X'
    exact ⟨t2, st t2 a1, b1⟩
  · obtain ⟨k1, k2, k3⟩ := vx_keep h0 e1 hS hAX hf hL hF
    obtain ⟨t2, a1, b1⟩ := kx E ce q u t T'.heap (locs ++ L) e1.symm (by rw [← e2]; exact X'.warmed.alike) hp hb k1 k2 k3 (by rw [e1]; exact hce) hcv hcl T' rfl X'
    exact ⟨t2, st.trans a1, b1⟩
theorem vx_callv {S SX : Type} {post : S → Prop} {px : SX → Prop} {B : S → State → Prop} {BX : String → SX → State → Prop} {AX : Nat → Prop} (hr : vx_Run p l e R s m args below meth c H locs cells slots mc ms (F0 m pc ls st0) rest (va_Qv post B A1 a) (vx_X px BX AX) free) (hS : va_S A0 H0 H locs) (hA : ∀ q, q < H.size → A1 q → A0 q) (hf : ∀ q, free q → A0 q) (hAX : ∀ q, q < H.size → AX q → A0 q)
    (kx : ∀ (E : String) (ce : Cell) (q9 : Addr) (u : SX) (t : State) (H1 : Heap) (locs1 : List Loc), t.heap = H1 → s.vm.Alike t.vm → px u → BX E u t → H.size ≤ H1.size → (∀ q : Nat, q < H.size → ¬ AX q → H1[q]? = H[q]?) → va_S A0 H0 H1 locs1 → H1[q9]? = some ce → ce.vm = .none → s.vm.findClass E = some ce.cls → vx_W p l e R s m args below meth c H1 locs1 (cells + mc) (slots + ms) Q (F0 m pc ls rest) q9)
    (kk : ∀ (u : S) (t : State) (H1 : Heap) (locs1 : List Loc), t.heap = H1 → s.vm.Alike t.vm → post u → B u t → H.size ≤ H1.size → (∀ q : Nat, q < H.size → ¬ A1 q → H1[q]? = H[q]?) → va_S A0 H0 H1 locs1 → W p l e R s m args below meth c H1 locs1 (cells + mc) (slots + ms) Q (F0 m (pc + 3) ls (rest))) : W p l e R s m args below meth c H locs cells slots Q (F0 m pc ls st0) := by
  intro T hT X
  rcases hr T hT X with ⟨v, st₀, t, T', L, h0, X', hL, e1, e2, ⟨⟨u, hv, hp, hb⟩, hF⟩, st⟩ | ⟨q, st₀, t, T', L, E, ce, h0, X', hL, e1, e2, ⟨u, hp, hb, hF⟩, hce, hcv, hcl, st⟩
  · cases hv
    obtain ⟨k1, k2, k3⟩ := vx_keep h0 e1 hS hA hf hL hF
    obtain ⟨t2, a1, b1⟩ := kk u t T'.heap (locs ++ L) e1.symm (by rw [← e2]; exact X'.warmed.alike) hp hb k1 k2 k3 T' rfl X'
    exact ⟨t2, st t2 a1, b1⟩
  · obtain ⟨k1, k2, k3⟩ := vx_keep h0 e1 hS hAX hf hL hF
    obtain ⟨t2, a1, b1⟩ := kx E ce q u t T'.heap (locs ++ L) e1.symm (by rw [← e2]; exact X'.warmed.alike) hp hb k1 k2 k3 (by rw [e1]; exact hce) hcv hcl T' rfl X'
    exact ⟨t2, st.trans a1, b1⟩
/-- caught by the row x of this method's table; the rows ahead don't take it -/
theorem vx_catch {own name : String} {E : String} {ce : Cell} {q : Addr} (hown : s.vm.findClass own = some m.cls) (pre : List ExceptionTableEntry) (x : ExceptionTableEntry) (suf : List ExceptionTableEntry) (hsplit : c.exceptionTable.toList = pre ++ x :: suf)
    (hpass : ∀ z ∈ pre, covers z pc = false ∨ (z.catchType ≠ 0 ∧ ∃ nm : String, (Cond.classLink own z.catchType nm).before args s = true ∧ va_Nc E nm s)) (hx : covers x pc = true) (h0 : x.catchType ≠ 0)
    (hlink : (Cond.classLink own x.catchType name).before args s = true) (hcast : (Cond.castable E name).before args s = true) (hcell : H[q]? = some ce) (hv : ce.vm = .none) (hcl : s.vm.findClass E = some ce.cls)
    (kk : W p l e R s m args below meth c H locs cells slots Q (F0 m x.handlerPc ls [.ref q])) : vx_W p l e R s m args below meth c H locs cells slots Q (F0 m pc ls rest) q := by
  intro T hT X
  have hpl : e.platform.magicAccessors = ({} : Platform).magicAccessors := by rw [X.admits.platform]
  obtain ⟨c3, c4, hc3, hc4, hasg⟩ := Cond.castable_spec hcast
  cases Option.some.inj (hc3.symm.trans hcl)
  obtain ⟨c5, hc5, hcl5⟩ := Cond.classLink_spec hown hlink e.platform hpl
  cases Option.some.inj (hc4.symm.trans hc5)
  obtain ⟨vm', X', st⟩ := X.thenCaughtThrough q (g := F0 m pc ls rest) rfl (Steps.refl _) (by rw [hT]; exact hcell) (by rw [hv]; rfl) (by obtain ⟨k9, h9, -⟩ := Vm.findClass_spec hcl; exact ⟨k9, h9⟩) pre x suf hsplit
    (fun z hz => by
      rcases hpass z hz with h | ⟨hz0, nm, hl1, hn1⟩
      · exact Or.inl h
      · obtain ⟨c6, hc6, hcl6⟩ := Cond.classLink_spec hown hl1 e.platform hpl
        obtain ⟨a8, b8, h1, h2, h3⟩ := hn1
        cases Option.some.inj (h1.symm.trans hcl)
        cases Option.some.inj (h2.symm.trans hc6)
        exact Or.inr ⟨hz0, _, hcl6, h3⟩) hx (Or.inr ⟨h0, c4, hcl5, hasg⟩)
  obtain ⟨t, a1, b1⟩ := kk (T.setVm vm') hT X'
  exact ⟨t, st.trans a1, b1⟩
end Rows
section Ends
variable {p : Program} {l : Launch} {e : Env} {R : Room} {s : State} {m : MethodId} {args : Array Value} {below : List Frame} {meth : Method} {c : Code} {H : Heap} {locs : List Loc} {cells slots : Nat} {Q : State → Prop}
variable {mc ms : Nat} {free : Addr → Prop} {A0 A1 : Nat → Prop} {H0 : Heap} {a : Array Value} {ls : Array Slot} {st0 rest : List Value}
variable {Qc : Array Value → State → Outcome → State → Prop} {XC : String → State → State → Prop}
/-- what a body that may throw owes at its end -/
def vx_MQ (below : List Frame) (Qc : Array Value → State → Outcome → State → Prop) (XC : String → State → State → Prop) (a : Array Value) (s : State) (mc ms : Nat) (free : Addr → Prop) : State → Prop := fun t =>
  ∃ o, t.status = .running ∧ Ended t below o ∧ vx_Q Qc XC mc ms free a s o t
theorem vx_ret {g : JFrame} {mc ms : Nat} (k : W p l e R s m args below meth c H locs cells slots (MQ below Qc args s mc ms free) g) : W p l e R s m args below meth c H locs cells slots (vx_MQ below Qc XC args s mc ms free) g := by
  intro T hT X
  obtain ⟨t, a1, o, b1, b2, b3, b4⟩ := k T hT X
  exact ⟨t, a1, o, b1, b2, Or.inl ⟨b3, b4⟩⟩
/-- not caught here: it goes on to the caller -/
theorem vx_widen {g : JFrame} {q : Addr} {k n : Nat} (h1 : cells ≤ k) (h2 : slots ≤ n) (kk : vx_W p l e R s m args below meth c H locs k n Q g q) : vx_W p l e R s m args below meth c H locs cells slots Q g q := fun T hT X => kk T hT (stand_widen X h1 h2)
theorem vx_out {pc : Nat} {E : String} {ce : Cell} {q : Addr} {mc ms : Nat} (hout : ∀ x ∈ c.exceptionTable.toList, covers x pc = false) (hlocks : meth.locks = false) (hcell : H[q]? = some ce) (hv : ce.vm = .none) (hcl : s.vm.findClass E = some ce.cls)
    (hx : ∀ t : State, t.heap = H → s.vm.Alike t.vm → XC E s t) (hf : ∀ z ∈ locs, free z.base) (hc : cells ≤ mc) (hs : slots ≤ ms) :
    vx_W p l e R s m args below meth c H locs cells slots (vx_MQ below Qc XC args s mc ms free) (F0 m pc ls rest) q := by
  intro T hT X
  obtain ⟨st1, hrun, hend, hW, hsm⟩ := X.leaveThrown q (g := F0 m pc ls rest) rfl rfl rfl hout hlocks
  have hcell9 : (T.setFrames (.throwing q :: below)).heap[q]? = some ce := by
    show T.heap[q]? = some ce
    rw [hT]; exact hcell
  exact ⟨_, st1, .threw q, hrun, hend, Or.inr ⟨q, rfl, E, ce, locs, hx _ hT hW.alike, hcell9, hv, hcl, hW, hsm.mono hc hs, hf⟩⟩
theorem vx_frame {U : State} {k n : Nat} (h : s.sameButNew ({ U with vm := s.vm } : State) locs k n) : s.heap.size ≤ U.heap.size ∧ ∀ q : Nat, q < s.heap.size → (∀ z ∈ locs, z.base ≠ q) → U.heap[q]? = s.heap[q]? := by
  obtain ⟨-, h2, -, -, -, h6⟩ := h
  refine ⟨h2, fun q hq hz => ?_⟩
  obtain ⟨c9, e1, e2, e3, e4⟩ := h6 q _ (Array.getElem?_eq_getElem hq)
  have hs : c9.slots = (s.heap[q]).slots := Array.ext_getElem? fun i => e4 i fun hm => hz _ hm rfl
  have h9 : c9 = s.heap[q] := by
    rw [hs] at e2
    exact e2
  have e5 : U.heap[q]? = some c9 := e1
  rw [e5, h9, Array.getElem?_eq_getElem hq]
/-- the words of a throw but the four that speak of the heap -/
def vx_no (w : Cond) : Bool := decide (w ≠ .isRef (.static Bundle.tN "UNASSIGNED_STACK" Bundle.steD)) && decide (w ≠ .isRef (.static Bundle.tN "SUPPRESSED_SENTINEL" Bundle.listD)) && decide (w ≠ .laysStatic Bundle.tN "UNASSIGNED_STACK" Bundle.steD) && decide (w ≠ .laysStatic Bundle.tN "SUPPRESSED_SENTINEL" Bundle.listD)
def vx_at0 (own : String) (ic : Nat) (X : String) (names : List String) : List Cond := (Bundle.ownAtoms0 own ic X names).filter vx_no
def vx_atS (own : String) (ic : Nat) (X : String) (names : List String) : List Cond := (Bundle.ownAtoms own ic X names).filter vx_no
/-- a word that the tables alone decide, or a good one -/
def vx_ot (w : Cond) : Bool := w.onTables || goodWord w
theorem vx_ot_at {args a' : Array Value} {s U : State} {w : Cond} (hW : s.WarmedH U.vm) (hvm : s.vm = U.vm) (hg : vx_ot w = true) (h : w.before args s = true) : w.before a' U = true := by
  simp only [vx_ot, Bool.or_eq_true] at hg
  rcases hg with hg | hg
  · exact va_tabs hg hvm h
  · exact word_at hW (good_of_word hg) h
/-- a list's words: the good ones out of the method's own list, the others by premises of their own -/
theorem vx_hat {args : Array Value} {s : State} {L B : List Cond} (h1 : ∀ w ∈ L.filter goodWord, w.before args s = true) (h2 : ∀ w ∈ L.filter (fun w => !goodWord w), w ∈ B) (h3 : ∀ w ∈ B, w.before args s = true) : ∀ w ∈ L, w.before args s = true := by
  intro w hw
  by_cases g : goodWord w = true
  · exact h1 w (List.mem_filter.mpr ⟨hw, g⟩)
  · refine h3 w (h2 w (List.mem_filter.mpr ⟨hw, ?_⟩))
    show (!goodWord w) = true
    cases hgw : goodWord w
    · rfl
    · exact absurd hgw g
theorem vx_c {args : Array Value} {s : State} {w : Cond} {B : List Cond} (h : w.before args s = true) (t : ∀ w ∈ B, w.before args s = true) : ∀ w' ∈ w :: B, w'.before args s = true := fun w' h' => (List.mem_cons.mp h').elim (fun e => by rw [e]; exact h) (t w')
theorem vx_n {args : Array Value} {s : State} : ∀ w ∈ ([] : List Cond), w.before args s = true := fun _ h => nomatch h
theorem vx_own {args : Array Value} {s : State} {L : List Cond} (h1 : ∀ w ∈ L.filter vx_no, w.before args s = true)
    (hU : (Cond.isRef (.static Bundle.tN "UNASSIGNED_STACK" Bundle.steD)).before args s = true) (hN : (Cond.isRef (.static Bundle.tN "SUPPRESSED_SENTINEL" Bundle.listD)).before args s = true)
    (lU : (Cond.laysStatic Bundle.tN "UNASSIGNED_STACK" Bundle.steD).before args s = true) (lN : (Cond.laysStatic Bundle.tN "SUPPRESSED_SENTINEL" Bundle.listD).before args s = true) : ∀ w ∈ L, w.before args s = true := by
  intro w hw
  by_cases e1 : w = .isRef (.static Bundle.tN "UNASSIGNED_STACK" Bundle.steD)
  · rw [e1]; exact hU
  · by_cases e2 : w = .isRef (.static Bundle.tN "SUPPRESSED_SENTINEL" Bundle.listD)
    · rw [e2]; exact hN
    · by_cases e3 : w = .laysStatic Bundle.tN "UNASSIGNED_STACK" Bundle.steD
      · rw [e3]; exact lU
      · by_cases e4 : w = .laysStatic Bundle.tN "SUPPRESSED_SENTINEL" Bundle.listD
        · rw [e4]; exact lN
        · exact h1 w (List.mem_filter.mpr ⟨hw, by unfold vx_no; rw [decide_eq_true e1, decide_eq_true e2, decide_eq_true e3, decide_eq_true e4]; rfl⟩)
/-- where a static field lies, its class's statics cell in H -/
def vx_L (C n d : String) (A : Nat → Prop) (U : State) (H : Heap) : Prop := ∃ (c : ClassId) (k : Class) (i : Nat) (f : Field) (a : Nat) (cell : Cell), U.vm.findClass C = some c ∧ U.fieldFound? C n d = some (c, k, i, f) ∧ f.isStatic = true ∧ k.statics = some a ∧ H[a]? = some cell ∧ cell.vm.isStatics = true ∧ cell.cls = c ∧ f.slot < cell.slots.size ∧ k.staticTypes[f.slot]? = some f.type ∧ ¬ A a
theorem vx_L.moved {C n d : String} {A : Nat → Prop} {u U : State} {H : Heap} (hvm : u.vm.Alike U.vm) (h : vx_L C n d A u H) : vx_L C n d A U H := by
  obtain ⟨c, k, i, f, a, cell, h1, h2, h3, h4, h5, h6, h7, h8, h9, h10⟩ := h
  obtain ⟨k', hi', he⟩ := State.fieldFound?_setVm hvm h2
  exact ⟨c, k', i, f, a, cell, by rw [hvm.findClass]; exact h1, hi', h3, by rw [he]; exact h4, h5, h6, h7, h8, by rw [he]; exact h9, h10⟩
theorem vx_L.kept {C n d : String} {A : Nat → Prop} {U : State} {H H1 : Heap} (h : vx_L C n d A U H) (hq : ∀ a : Nat, a < H.size → ¬ A a → H1[a]? = H[a]?) : vx_L C n d A U H1 := by
  obtain ⟨c, k, i, f, a, cell, h1, h2, h3, h4, h5, h6, h7, h8, h9, h10⟩ := h
  exact ⟨c, k, i, f, a, cell, h1, h2, h3, h4, by rw [hq a (Array.getElem?_eq_some_iff.mp h5).1 h10]; exact h5, h6, h7, h8, h9, h10⟩
theorem vx_L.narrow {C n d : String} {A B : Nat → Prop} {U : State} {H : Heap} (h : vx_L C n d A U H) (hAB : ∀ q, B q → A q) : vx_L C n d B U H := by
  obtain ⟨c, k, i, f, a, cell, h1, h2, h3, h4, h5, h6, h7, h8, h9, h10⟩ := h
  exact ⟨c, k, i, f, a, cell, h1, h2, h3, h4, h5, h6, h7, h8, h9, fun z => h10 (hAB _ z)⟩
theorem vx_L.word {C n d : String} {A : Nat → Prop} {s : State} {args : Array Value} (h : vx_L C n d A s s.heap) : (Cond.laysStatic C n d).before args s = true := by
  obtain ⟨c, k, i, f, a, cell, h1, h2, h3, h4, h5, h6, h7, h8, h9, -⟩ := h
  show (Cond.laysStatic C n d).holds args s none s [] = true
  exact Cond.laysStatic_of h1 h2 h3 h4 h5 h6 h7 h8 h9
/-- .. and what it holds: null or some reference -/
def vx_Zq (C n d : String) (A : Nat → Prop) (U : State) (H : Heap) : Prop := va_Zq C n d A U H ∧ vx_L C n d A U H
theorem vx_Zq.moved {C n d : String} {A : Nat → Prop} {u U : State} {H : Heap} (hvm : u.vm.Alike U.vm) (h : vx_Zq C n d A u H) : vx_Zq C n d A U H := ⟨va_Zq.moved hvm h.1, vx_L.moved hvm h.2⟩
theorem vx_Zq.kept {C n d : String} {A : Nat → Prop} {U : State} {H H1 : Heap} (h : vx_Zq C n d A U H) (hq : ∀ a : Nat, a < H.size → ¬ A a → H1[a]? = H[a]?) : vx_Zq C n d A U H1 := ⟨va_Zq.kept h.1 hq, vx_L.kept h.2 hq⟩
theorem vx_Zq.narrow {C n d : String} {A B : Nat → Prop} {U : State} {H : Heap} (h : vx_Zq C n d A U H) (hAB : ∀ q, B q → A q) : vx_Zq C n d B U H := ⟨va_Zq.narrow h.1 hAB, vx_L.narrow h.2 hAB⟩
theorem vx_Zqof {args : Array Value} {s : State} {C n d : String} {A : Nat → Prop} (hl : (Cond.laysStatic C n d).before args s = true) (hini : (Cond.initialized C).before args s = true) (h : (Cond.isRef (.static C n d)).before args s = true) (hA : ∀ a : Nat, a < s.heap.size → ¬ A a) : vx_Zq C n d A s s.heap := by
  refine ⟨va_Zqof hl hini h hA, ?_⟩
  obtain ⟨c, k, i, f, a, cell, h1, h2, h3, h4, h5, h6, h7, h8, h9⟩ := Cond.laysStatic_spec hl
  exact ⟨c, k, i, f, a, cell, h1, h2, h3, h4, h5, h6, h7, h8, h9, hA a (Array.getElem?_eq_some_iff.mp h5).1⟩
theorem vx_isRef {C n d : String} {v : Value} {A : Nat → Prop} {s : State} {args : Array Value} (h : va_Z C n d v A s s.heap) (hv : v.isRef = true) : (Cond.isRef (.static C n d)).before args s = true := by
  obtain ⟨cf, kf, fi, f, a, cell, h1, h2, h3, h4, h5, h6, h7, -⟩ := h
  have he : (Term.static C n d).eval args s none [] s = some v := by
    simp [Term.eval, State.fieldNamed?, h1, h2, h4, h5, h6, h7]
  simp only [Cond.before, Cond.holds, Cond.value, he]
  cases v <;> simp_all [Value.isRef]
theorem vx_isRefq {C n d : String} {A : Nat → Prop} {s : State} {args : Array Value} (h : va_Zq C n d A s s.heap) : (Cond.isRef (.static C n d)).before args s = true := by
  rcases h with h | ⟨t, h⟩
  · exact vx_isRef h rfl
  · exact vx_isRef h rfl
/-- the same frame, seen from here: as if the method were called anew in this heap -/
theorem vx_rebase {T : State} (X : Stand p l e R s m args below meth c T locs cells slots) {R' : Room} (hf : R'.frames ≤ R.frames) (hl : R'.locals ≤ R.locals) (hc : cells + R'.cells ≤ R.cells) (hs : slots + R'.slots ≤ R.slots) :
    Stand p l e R' ((T.setVm s.vm).setFrames (.invoking m args :: below)) m args below meth c T [] 0 0 := by
  have htop : (T.setVm s.vm).topJava?.isSome := X.here.top
  have hF : ((T.setVm s.vm).setFrames (.invoking m args :: below)).frames = .invoking m args :: below := State.frames_setFrames _ (State.cur_lt_of_top htop)
  obtain ⟨g₀, hg0⟩ := Option.isSome_iff_exists.mp htop
  obtain ⟨r, hr⟩ := State.topJava?_eq_some.mp hg0
  have hl9 : e.platform.stackLimits (T.setVm s.vm).me = e.platform.stackLimits s.me := X.limits
  have hb9 : (T.setVm s.vm).me.stackBytes = s.me.stackBytes := X.bytes
  refine ⟨X.admits, X.cas, X.clock, hF, ?_, X.hears, X.method, X.code, X.here, X.tail, X.warmed, ?_, ?_, ?_⟩
  · have h := X.room
    have hU : ((T.setVm s.vm).setFrames (.invoking m args :: below)).localsInUse = s.localsInUse := by
      rw [State.localsInUse_invoking hF (meth := meth) (c := c) X.method X.code, State.localsInUse_invoking X.frames X.method X.code]
    simp only [State.hasRoom, Bool.and_eq_true, decide_eq_true_eq] at h ⊢
    obtain ⟨⟨⟨⟨h1, h2, h3, h4, h5, h6⟩, h7⟩, h8⟩, h9⟩ := h
    rw [X.frames, List.length_cons] at h2 h3
    have q1 := X.heapSize
    have q2 := X.used
    simp only [hF, hU, List.length_cons, State.stackLimits_setFrames, State.stackBytes_setFrames, hl9, hb9]
    refine ⟨⟨⟨⟨by omega, by omega, by omega, by omega, by omega, h6⟩, ?_⟩, ?_⟩, X.book⟩
    · show T.heap.size + R'.cells ≤ e.platform.maxCells
      omega
    · show T.slotsUsed + R'.slots ≤ e.platform.maxSlots
      omega
  · rw [State.stackLimits_setFrames]; rfl
  · rw [State.stackBytes_setFrames]; rfl
  · refine ⟨?_, Nat.le_refl _, Nat.le_refl _, ?_, ?_, fun a c9 h9 => ⟨c9, h9, rfl, rfl, fun _ _ => rfl⟩⟩
    · obtain ⟨t, ht, -⟩ := State.frames_cons hr
      show T.setVm s.vm = { ((T.setVm s.vm).setFrames (.invoking m args :: below)).setFrames (T.setVm s.vm).frames with heap := T.heap, slotsUsed := T.slotsUsed }
      rw [State.setFrames_setFrames, State.setFrames_self ht]
      rfl
    · show T.slotsUsed = T.slotsUsed + ((T.heap.toList.drop T.heap.size).map (·.slots.size)).sum
      rw [List.drop_eq_nil_of_le (Nat.le_of_eq Array.length_toList)]
      rfl
    · show ((T.heap.toList.drop T.heap.size).map (·.slots.size)).sum ≤ 0
      rw [List.drop_eq_nil_of_le (Nat.le_of_eq Array.length_toList)]
      exact Nat.le_refl _
/-- 'throw new E()': new; dup; invokespecial; athrow -/
theorem vx_throw0 {cc : ByteArray} {pc : Nat} (hexec : p.tables.exec = Jvm.exec) (hb : c.code = cc) (hl : l.stackTraces = false) {own cls : String} {names : List String} {ik ic mc ms : Nat} {A : Nat → Prop}
    (hown : s.vm.findClass own = some m.cls) (hcls : Bundle.fit cls = true) (hnames : ∀ n ∈ names, Bundle.fit n = true)
    (hk : (Cond.classLink own ik cls).before args s = true) (hini : (Cond.initialized cls).before args s = true) (hat : ∀ w ∈ vx_at0 own ic cls names, w.before args s = true)
    (hgood : ∀ w ∈ Cond.classLink own ik cls :: Cond.initialized cls :: vx_at0 own ic cls names, vx_ot w = true)
    (hU : vx_Zq Bundle.tN "UNASSIGNED_STACK" Bundle.steD A s s.heap) (hN : vx_Zq Bundle.tN "SUPPRESSED_SENTINEL" Bundle.listD A s s.heap) (hS : va_S A s.heap H locs) (hsize : ls.size = c.maxLocals)
    (d0 : decode cc pc = .ok (.new ik, 3)) (d3 : decode cc (pc + 3) = .ok (.dup, 1)) (d4 : decode cc (pc + 4) = .ok (.invokespecial ic, 3)) (d7 : decode cc (pc + 7) = .ok (.athrow, 1))
    (hout : ∀ x ∈ c.exceptionTable.toList, covers x (pc + 7) = false)
    (hRframes : names.length + 3 < R.frames) (hRlocals : (rest.map fun v => v.category).sum + (13 * (names.length + 1) + 42) ≤ R.locals) (hRcells : cells + 1 ≤ R.cells) (hRslots : slots + 6 ≤ R.slots) (hlocks : meth.locks = false)
    (hx : ∀ t : State, s.vm.Alike t.vm → H.size ≤ t.heap.size → (∀ q : Nat, q < H.size → t.heap[q]? = H[q]?) → XC cls s t)
    (hf : ∀ z ∈ locs, free z.base) (hc : cells + 1 ≤ mc) (hs : slots + 6 ≤ ms) :
    W p l e R s m args below meth c H locs cells slots (vx_MQ below Qc XC args s mc ms free) (F0 m pc ls rest) := by
  intro T hT X
  have htr : e.platform.stackTraces = false := (show e.platform.stackTraces = l.stackTraces by rw [X.admits.platform]).trans hl
  have Y := vx_rebase X (R' := { frames := R.frames, locals := R.locals, cells := 1, slots := 6 }) (Nat.le_refl _) (Nat.le_refl _) hRcells hRslots
  obtain ⟨s', hA⟩ : ∃ z, z = (T.setVm s.vm).setFrames (.invoking m args :: below) := ⟨_, rfl⟩
  rw [← hA] at Y
  have hvm : s'.vm = s.vm := by rw [hA]; rfl
  have hhp : s'.heap = H := by rw [hA]; exact hT
  have hW0 : s.WarmedH s'.vm := by rw [hvm]; exact State.WarmedH.refl s
  have hat' : ∀ w ∈ vx_at0 own ic cls names, w.before args s' = true := fun w hw => vx_ot_at hW0 hvm.symm (hgood w (List.mem_cons_of_mem _ (List.mem_cons_of_mem _ hw))) (hat w hw)
  have hk' : (Cond.classLink own ik cls).before args s' = true := vx_ot_at hW0 hvm.symm (hgood _ List.mem_cons_self) hk
  have hini' : (Cond.initialized cls).before args s' = true := vx_ot_at hW0 hvm.symm (hgood _ (List.mem_cons_of_mem _ List.mem_cons_self)) hini
  have hU' : vx_Zq Bundle.tN "UNASSIGNED_STACK" Bundle.steD A s' s'.heap := by rw [hhp]; exact vx_Zq.moved hW0.alike (hU.kept hS.2.1)
  have hN' : vx_Zq Bundle.tN "SUPPRESSED_SENTINEL" Bundle.listD A s' s'.heap := by rw [hhp]; exact vx_Zq.moved hW0.alike (hN.kept hS.2.1)
  have h : ∀ w ∈ Bundle.ownAtoms0 own ic cls names, w.before args s' = true := vx_own hat' (vx_isRefq hU'.1) (vx_isRefq hN'.1) hU'.2.word hN'.2.word
  have hown' : s'.vm.findClass own = some m.cls := by rw [hvm]; exact hown
  have hins : (Cond.instantiable cls 6).before args s' = true := h _ (by simp [Bundle.ownAtoms0])
  obtain ⟨vm₁, cX, kX, hfX, hkX, -, -, X₁, st1⟩ := Y.newCold hexec (own := own) (C := cls) (index := ik) (n := 6) hown' hk' hins hini'
    (g := F0 m pc ls rest) rfl (by rw [hb]; exact d0) (Nat.le_refl _) (Nat.le_refl _)
  generalize hT1 : (T.setVm vm₁).pushCell { cls := cX, slots := kX.instanceTypes.map defaultValue, vm := .none } = T1 at X₁ st1
  have hcat : (Value.ref T.heap.size).category = 1 := rfl
  have hcellA : T1.heap[T.heap.size]? = some (freshCell cX kX) := by rw [← hT1]; exact State.heap_pushCell_size _ _
  have d3' : decode c.code (pc + 3) = .ok (.dup, 1) := by rw [hb]; exact d3
  obtain ⟨U, hsteps, hrun, hend, hW, hsame, ce, hce, hO⟩ := X₁.ctorThrow0 hexec htr (own := own) (cls := cls) (names := names) (ic := ic) hown' hcls hnames h (fun x hx => nomatch hx) hfX hkX hcellA (by rw [hhp, hT]; exact Nat.le_refl _)
    (g := { method := m, pc := pc + 4, locals := ls, stack := .ref T.heap.size :: .ref T.heap.size :: rest, locked := none }) rfl hsize rfl rfl (rest := rest) rfl
    (by rw [hb]; exact d4) (by rw [hb]; exact d7) hout hRframes (by simp only [List.map_cons, List.sum_cons, hcat]; omega) hlocks
  obtain ⟨f1, f2⟩ := vx_frame hsame
  rw [hhp] at f1 f2
  have hWs : s.WarmedH U.vm := State.WarmedH.trans hW0 hW
  have hcl : s.vm.findClass cls = some ce.cls := by
    have h9 := hO.cls
    rw [hvm] at h9
    exact h9
  have hall : s.sameButNew ({ U with vm := s.vm } : State) locs mc ms := by
    subst hA
    obtain ⟨e1, e2⟩ := hsame
    rw [State.setFrames_setFrames] at e1
    have h2 : (T.setVm s.vm).sameButNew ({ U with vm := s.vm } : State) [] (0 + 1) (0 + 6) := ⟨e1, e2⟩
    have h3 := X.same.trans h2
    rw [List.append_nil] at h3
    exact h3.mono hc hs
  refine ⟨U, ?_, .threw T.heap.size, hrun, hend, Or.inr ⟨T.heap.size, rfl, cls, ce, locs, hx U hWs.alike f1 (fun q hq => f2 q hq (fun z hz => nomatch hz)), hce, hO.vm, hcl, hWs, hall, hf⟩⟩
  refine st1 _ ?_
  show Steps p.tables e below (T1.setTop { method := m, pc := pc + 3, locals := ls, stack := .ref T.heap.size :: rest, locked := none }) _
  jvm_step X₁.here [X₁.here.top, hexec, d3', Value.category]
  exact hsteps
/-- 'throw new E("text")': new; dup; ldc; invokespecial; athrow -/
theorem vx_throwS {cc : ByteArray} {pc : Nat} (hexec : p.tables.exec = Jvm.exec) (hb : c.code = cc) (hl : l.stackTraces = false) {own cls text : String} {names : List String} {ik is ic mc ms sa : Nat} {A : Nat → Prop}
    (hown : s.vm.findClass own = some m.cls) (hcls : Bundle.fit cls = true) (hnames : ∀ n ∈ names, Bundle.fit n = true)
    (hk : (Cond.classLink own ik cls).before args s = true) (hini : (Cond.initialized cls).before args s = true) (hstr : vk_R own is text sa s) (hat : ∀ w ∈ vx_atS own ic cls names, w.before args s = true)
    (hgood : ∀ w ∈ Cond.classLink own ik cls :: Cond.initialized cls :: vx_atS own ic cls names, vx_ot w = true)
    (hU : vx_Zq Bundle.tN "UNASSIGNED_STACK" Bundle.steD A s s.heap) (hN : vx_Zq Bundle.tN "SUPPRESSED_SENTINEL" Bundle.listD A s s.heap) (hS : va_S A s.heap H locs) (hsize : ls.size = c.maxLocals)
    (d0 : decode cc pc = .ok (.new ik, 3)) (d3 : decode cc (pc + 3) = .ok (.dup, 1)) (d4 : decode cc (pc + 4) = .ok (.ldc is, 2)) (d6 : decode cc (pc + 6) = .ok (.invokespecial ic, 3)) (d9 : decode cc (pc + 9) = .ok (.athrow, 1))
    (hout : ∀ x ∈ c.exceptionTable.toList, covers x (pc + 9) = false)
    (hRframes : names.length + 3 < R.frames) (hRlocals : (rest.map fun v => v.category).sum + (13 * (names.length + 1) + 43) ≤ R.locals) (hRcells : cells + 1 ≤ R.cells) (hRslots : slots + 6 ≤ R.slots) (hlocks : meth.locks = false)
    (hx : ∀ t : State, s.vm.Alike t.vm → H.size ≤ t.heap.size → (∀ q : Nat, q < H.size → t.heap[q]? = H[q]?) → XC cls s t)
    (hf : ∀ z ∈ locs, free z.base) (hc : cells + 1 ≤ mc) (hs : slots + 6 ≤ ms) :
    W p l e R s m args below meth c H locs cells slots (vx_MQ below Qc XC args s mc ms free) (F0 m pc ls rest) := by
  intro T hT X
  have htr : e.platform.stackTraces = false := (show e.platform.stackTraces = l.stackTraces by rw [X.admits.platform]).trans hl
  have Y := vx_rebase X (R' := { frames := R.frames, locals := R.locals, cells := 1, slots := 6 }) (Nat.le_refl _) (Nat.le_refl _) hRcells hRslots
  obtain ⟨s', hA⟩ : ∃ z, z = (T.setVm s.vm).setFrames (.invoking m args :: below) := ⟨_, rfl⟩
  rw [← hA] at Y
  have hvm : s'.vm = s.vm := by rw [hA]; rfl
  have hhp : s'.heap = H := by rw [hA]; exact hT
  have hW0 : s.WarmedH s'.vm := by rw [hvm]; exact State.WarmedH.refl s
  have hat' : ∀ w ∈ vx_atS own ic cls names, w.before args s' = true := fun w hw => vx_ot_at hW0 hvm.symm (hgood w (List.mem_cons_of_mem _ (List.mem_cons_of_mem _ hw))) (hat w hw)
  have hk' : (Cond.classLink own ik cls).before args s' = true := vx_ot_at hW0 hvm.symm (hgood _ List.mem_cons_self) hk
  have hini' : (Cond.initialized cls).before args s' = true := vx_ot_at hW0 hvm.symm (hgood _ (List.mem_cons_of_mem _ List.mem_cons_self)) hini
  have hU' : vx_Zq Bundle.tN "UNASSIGNED_STACK" Bundle.steD A s' s'.heap := by rw [hhp]; exact vx_Zq.moved hW0.alike (hU.kept hS.2.1)
  have hN' : vx_Zq Bundle.tN "SUPPRESSED_SENTINEL" Bundle.listD A s' s'.heap := by rw [hhp]; exact vx_Zq.moved hW0.alike (hN.kept hS.2.1)
  have h : ∀ w ∈ Bundle.ownAtoms own ic cls names, w.before args s' = true := vx_own hat' (vx_isRefq hU'.1) (vx_isRefq hN'.1) hU'.2.word hN'.2.word
  have hown' : s'.vm.findClass own = some m.cls := by rw [hvm]; exact hown
  have hins : (Cond.instantiable cls 6).before args s' = true := h _ (by simp [Bundle.ownAtoms])
  obtain ⟨vm₁, cX, kX, hfX, hkX, -, -, X₁, st1⟩ := Y.newCold hexec (own := own) (C := cls) (index := ik) (n := 6) hown' hk' hins hini'
    (g := F0 m pc ls rest) rfl (by rw [hb]; exact d0) (Nat.le_refl _) (Nat.le_refl _)
  generalize hT1 : (T.setVm vm₁).pushCell { cls := cX, slots := kX.instanceTypes.map defaultValue, vm := .none } = T1 at X₁ st1
  have hcat : (Value.ref T.heap.size).category = 1 := rfl
  have hcellA : T1.heap[T.heap.size]? = some (freshCell cX kX) := by rw [← hT1]; exact State.heap_pushCell_size _ _
  have d3' : decode c.code (pc + 3) = .ok (.dup, 1) := by rw [hb]; exact d3
  have d4' : decode c.code (pc + 4) = .ok (.ldc is, 2) := by rw [hb]; exact d4
  have hstr' : vk_R own is text sa s' := vk_R.warm hW0 hstr
  obtain ⟨U, hsteps, hrun, hend, hW, hsame, ce, hce, hO⟩ := X₁.ctorThrowS hexec htr (own := own) (cls := cls) (names := names) (ic := ic) hown' hcls hnames h (fun x hx => nomatch hx) hfX hkX hcellA (by rw [hhp, hT]; exact Nat.le_refl _) (msg := .ref sa) rfl
    (g := { method := m, pc := pc + 6, locals := ls, stack := .ref sa :: .ref T.heap.size :: .ref T.heap.size :: rest, locked := none }) rfl hsize rfl rfl (rest := rest) rfl
    (by rw [hb]; exact d6) (by rw [hb]; exact d9) hout hRframes (by simp only [List.map_cons, List.sum_cons, hcat]; omega) hlocks
  obtain ⟨f1, f2⟩ := vx_frame hsame
  rw [hhp] at f1 f2
  have hWs : s.WarmedH U.vm := State.WarmedH.trans hW0 hW
  have hcl : s.vm.findClass cls = some ce.cls := by
    have h9 := hO.cls
    rw [hvm] at h9
    exact h9
  have hall : s.sameButNew ({ U with vm := s.vm } : State) locs mc ms := by
    subst hA
    obtain ⟨e1, e2⟩ := hsame
    rw [State.setFrames_setFrames] at e1
    have h2 : (T.setVm s.vm).sameButNew ({ U with vm := s.vm } : State) [] (0 + 1) (0 + 6) := ⟨e1, e2⟩
    have h3 := X.same.trans h2
    rw [List.append_nil] at h3
    exact h3.mono hc hs
  refine ⟨U, ?_, .threw T.heap.size, hrun, hend, Or.inr ⟨T.heap.size, rfl, cls, ce, locs, hx U hWs.alike f1 (fun q hq => f2 q hq (fun z hz => nomatch hz)), hce, hO.vm, hcl, hWs, hall, hf⟩⟩
  refine st1 _ ?_
  show Steps p.tables e below (T1.setTop { method := m, pc := pc + 3, locals := ls, stack := .ref T.heap.size :: rest, locked := none }) _
  jvm_step X₁.here [X₁.here.top, hexec, d3', Value.category]
  exact X₁.ldcString hexec (own := own) (text := text) (index := is) (a := sa) hown' hstr'.1 hstr'.2
    (g := { method := m, pc := pc + 4, locals := ls, stack := .ref T.heap.size :: .ref T.heap.size :: rest, locked := none }) rfl d4' _ hsteps
/-- 'throw new E("text")', the text by a wide index -/
theorem vx_throwSW {cc : ByteArray} {pc : Nat} (hexec : p.tables.exec = Jvm.exec) (hb : c.code = cc) (hl : l.stackTraces = false) {own cls text : String} {names : List String} {ik is ic mc ms sa : Nat} {A : Nat → Prop}
    (hown : s.vm.findClass own = some m.cls) (hcls : Bundle.fit cls = true) (hnames : ∀ n ∈ names, Bundle.fit n = true)
    (hk : (Cond.classLink own ik cls).before args s = true) (hini : (Cond.initialized cls).before args s = true) (hstr : vk_R own is text sa s) (hat : ∀ w ∈ vx_atS own ic cls names, w.before args s = true)
    (hgood : ∀ w ∈ Cond.classLink own ik cls :: Cond.initialized cls :: vx_atS own ic cls names, vx_ot w = true)
    (hU : vx_Zq Bundle.tN "UNASSIGNED_STACK" Bundle.steD A s s.heap) (hN : vx_Zq Bundle.tN "SUPPRESSED_SENTINEL" Bundle.listD A s s.heap) (hS : va_S A s.heap H locs) (hsize : ls.size = c.maxLocals)
    (d0 : decode cc pc = .ok (.new ik, 3)) (d3 : decode cc (pc + 3) = .ok (.dup, 1)) (d4 : decode cc (pc + 4) = .ok (.ldc_w is, 3)) (d7 : decode cc (pc + 7) = .ok (.invokespecial ic, 3)) (d10 : decode cc (pc + 10) = .ok (.athrow, 1))
    (hout : ∀ x ∈ c.exceptionTable.toList, covers x (pc + 10) = false)
    (hRframes : names.length + 3 < R.frames) (hRlocals : (rest.map fun v => v.category).sum + (13 * (names.length + 1) + 43) ≤ R.locals) (hRcells : cells + 1 ≤ R.cells) (hRslots : slots + 6 ≤ R.slots) (hlocks : meth.locks = false)
    (hx : ∀ t : State, s.vm.Alike t.vm → H.size ≤ t.heap.size → (∀ q : Nat, q < H.size → t.heap[q]? = H[q]?) → XC cls s t)
    (hf : ∀ z ∈ locs, free z.base) (hc : cells + 1 ≤ mc) (hs : slots + 6 ≤ ms) :
    W p l e R s m args below meth c H locs cells slots (vx_MQ below Qc XC args s mc ms free) (F0 m pc ls rest) := by
  intro T hT X
  have htr : e.platform.stackTraces = false := (show e.platform.stackTraces = l.stackTraces by rw [X.admits.platform]).trans hl
  have Y := vx_rebase X (R' := { frames := R.frames, locals := R.locals, cells := 1, slots := 6 }) (Nat.le_refl _) (Nat.le_refl _) hRcells hRslots
  obtain ⟨s', hA⟩ : ∃ z, z = (T.setVm s.vm).setFrames (.invoking m args :: below) := ⟨_, rfl⟩
  rw [← hA] at Y
  have hvm : s'.vm = s.vm := by rw [hA]; rfl
  have hhp : s'.heap = H := by rw [hA]; exact hT
  have hW0 : s.WarmedH s'.vm := by rw [hvm]; exact State.WarmedH.refl s
  have hat' : ∀ w ∈ vx_atS own ic cls names, w.before args s' = true := fun w hw => vx_ot_at hW0 hvm.symm (hgood w (List.mem_cons_of_mem _ (List.mem_cons_of_mem _ hw))) (hat w hw)
  have hk' : (Cond.classLink own ik cls).before args s' = true := vx_ot_at hW0 hvm.symm (hgood _ List.mem_cons_self) hk
  have hini' : (Cond.initialized cls).before args s' = true := vx_ot_at hW0 hvm.symm (hgood _ (List.mem_cons_of_mem _ List.mem_cons_self)) hini
  have hU' : vx_Zq Bundle.tN "UNASSIGNED_STACK" Bundle.steD A s' s'.heap := by rw [hhp]; exact vx_Zq.moved hW0.alike (hU.kept hS.2.1)
  have hN' : vx_Zq Bundle.tN "SUPPRESSED_SENTINEL" Bundle.listD A s' s'.heap := by rw [hhp]; exact vx_Zq.moved hW0.alike (hN.kept hS.2.1)
  have h : ∀ w ∈ Bundle.ownAtoms own ic cls names, w.before args s' = true := vx_own hat' (vx_isRefq hU'.1) (vx_isRefq hN'.1) hU'.2.word hN'.2.word
  have hown' : s'.vm.findClass own = some m.cls := by rw [hvm]; exact hown
  have hins : (Cond.instantiable cls 6).before args s' = true := h _ (by simp [Bundle.ownAtoms])
  obtain ⟨vm₁, cX, kX, hfX, hkX, -, -, X₁, st1⟩ := Y.newCold hexec (own := own) (C := cls) (index := ik) (n := 6) hown' hk' hins hini'
    (g := F0 m pc ls rest) rfl (by rw [hb]; exact d0) (Nat.le_refl _) (Nat.le_refl _)
  generalize hT1 : (T.setVm vm₁).pushCell { cls := cX, slots := kX.instanceTypes.map defaultValue, vm := .none } = T1 at X₁ st1
  have hcat : (Value.ref T.heap.size).category = 1 := rfl
  have hcellA : T1.heap[T.heap.size]? = some (freshCell cX kX) := by rw [← hT1]; exact State.heap_pushCell_size _ _
  have d3' : decode c.code (pc + 3) = .ok (.dup, 1) := by rw [hb]; exact d3
  have d4' : decode c.code (pc + 4) = .ok (.ldc_w is, 3) := by rw [hb]; exact d4
  have hstr' : vk_R own is text sa s' := vk_R.warm hW0 hstr
  obtain ⟨U, hsteps, hrun, hend, hW, hsame, ce, hce, hO⟩ := X₁.ctorThrowS hexec htr (own := own) (cls := cls) (names := names) (ic := ic) hown' hcls hnames h (fun x hx => nomatch hx) hfX hkX hcellA (by rw [hhp, hT]; exact Nat.le_refl _) (msg := .ref sa) rfl
    (g := { method := m, pc := pc + 7, locals := ls, stack := .ref sa :: .ref T.heap.size :: .ref T.heap.size :: rest, locked := none }) rfl hsize rfl rfl (rest := rest) rfl
    (by rw [hb]; exact d7) (by rw [hb]; exact d10) hout hRframes (by simp only [List.map_cons, List.sum_cons, hcat]; omega) hlocks
  obtain ⟨f1, f2⟩ := vx_frame hsame
  rw [hhp] at f1 f2
  have hWs : s.WarmedH U.vm := State.WarmedH.trans hW0 hW
  have hcl : s.vm.findClass cls = some ce.cls := by
    have h9 := hO.cls
    rw [hvm] at h9
    exact h9
  have hall : s.sameButNew ({ U with vm := s.vm } : State) locs mc ms := by
    subst hA
    obtain ⟨e1, e2⟩ := hsame
    rw [State.setFrames_setFrames] at e1
    have h2 : (T.setVm s.vm).sameButNew ({ U with vm := s.vm } : State) [] (0 + 1) (0 + 6) := ⟨e1, e2⟩
    have h3 := X.same.trans h2
    rw [List.append_nil] at h3
    exact h3.mono hc hs
  refine ⟨U, ?_, .threw T.heap.size, hrun, hend, Or.inr ⟨T.heap.size, rfl, cls, ce, locs, hx U hWs.alike f1 (fun q hq => f2 q hq (fun z hz => nomatch hz)), hce, hO.vm, hcl, hWs, hall, hf⟩⟩
  refine st1 _ ?_
  show Steps p.tables e below (T1.setTop { method := m, pc := pc + 3, locals := ls, stack := .ref T.heap.size :: rest, locked := none }) _
  jvm_step X₁.here [X₁.here.top, hexec, d3', Value.category]
  exact X₁.ldcStringW hexec (own := own) (text := text) (index := is) (a := sa) hown' hstr'.1 hstr'.2
    (g := { method := m, pc := pc + 4, locals := ls, stack := .ref T.heap.size :: .ref T.heap.size :: rest, locked := none }) rfl d4' _ hsteps
end Ends
section Bodies
variable {l : Launch}
theorem vx_ofW {y : MethodName} {ws ws' : List Cond} {rm : Room} {Pc : Array Value → State → Prop} {Qc : Array Value → State → Outcome → State → Prop} {XC : String → State → State → Prop} {mc ms : Nat} {free : Addr → Prop} {cc : ByteArray} {maxL : Nat} {ret : Option FieldType}
    (hy : plainName y.cls = true) (hw : ws = Cond.code y cc maxL ret :: ws')
    (body : ∀ p e s m args below meth c s₁, BodyLoose p l y (headSpec ws rm) cc maxL ret e s m args below meth c s₁ → c.maxLocals = maxL → (∀ x ∈ c.exceptionTable.toList, False) → Pc args s →
      W p l e (headSpec ws rm).room s m args below meth c s.heap [] 0 0 (vx_MQ below Qc XC args s mc ms free) (entryFrame m args maxL)) : vx_Met l y ws rm Pc Qc XC mc ms free := by
  refine MetFree.of_bodyS (code := cc) (maxLocals := maxL) (ret := ret) hy ?_ ?_
  · intro args s m h hn
    obtain ⟨meth, c, h1, h2, h3, h4, h5, h6, -, -⟩ := Cond.code_spec hn (atoms_spec (ws := ws) h _ (by rw [hw]; exact List.mem_cons_self))
    exact ⟨meth, c, h1, h2, h3, h4, h5, h6⟩
  · intro p e s m args below meth c s₁ B hml hP _
    have hh0 : s₁.heap = s.heap := by rw [B.state]; rfl
    have ht : ∀ x ∈ c.exceptionTable.toList, False := by
      obtain ⟨meth9, c9, h1, h2, -, -, -, -, h7, -⟩ := Cond.code_spec B.named (atoms_spec (ws := ws) B.pre _ (by rw [hw]; exact List.mem_cons_self))
      cases Option.some.inj (h1.symm.trans B.method)
      cases Option.some.inj (h2.symm.trans (Stand.of_body B).code)
      intro x hx
      rw [Array.isEmpty_iff.mp h7] at hx
      cases hx
    obtain ⟨t, a1, o, b1, b2, b3⟩ := body p e s m args below meth c s₁ B hml ht hP s₁ hh0 (Stand.of_body B)
    exact ⟨t, o, a1, b1, b2, b3⟩
/-- the table of a body with handlers -/
theorem vx_table {p : Program} {x y : MethodName} {S : Spec} {cc bytes : ByteArray} {maxL maxL' : Nat} {ret ret' : Option FieldType} {e : Env} {s s₁ : State} {m : MethodId} {args : Array Value} {below : List Frame} {meth : Method} {c : Code} {hh : List (Nat × Nat × Nat × Nat)}
    (B : BodyLoose p l y S cc maxL ret e s m args below meth c s₁) (h : (Cond.codeWith y bytes maxL' ret' hh).before args s = true) : c.exceptionTable.toList = tableOf hh := by
  obtain ⟨m9, meth9, c9, hn9, h1, h2, -, -, h6, -⟩ := Cond.codeWith_spec h
  cases Option.some.inj (hn9.symm.trans B.named)
  cases Option.some.inj (h1.symm.trans B.method)
  cases Option.some.inj (h2.symm.trans (Stand.of_body B).code)
  rw [← h6, table_eq]
end Bodies
end VXA
/-! ===== END ===== -/
/-! ===== BEGIN a static call of a method with an exception table ===== -/
section VXS
variable {p : Program} {l : Launch} {e : Env} {R : Room} {s : State} {m : MethodId} {args : Array Value} {below : List Frame} {meth : Method} {c : Code} {T : State} {H : Heap} {locs : List Loc} {cells slots : Nat}
abbrev vx_CSW (R : Room) (s : State) (args : Array Value) (own : String) (index : Nat) (y : MethodName) (bytes : ByteArray) (maxL : Nat) (ret : Option FieldType) (hh : List (Nat × Nat × Nat × Nat)) (ws : List Cond) (rm : Room) (mc ms n : Nat) : Prop :=
  (rm.cells = mc ∧ rm.slots = ms ∧ rm.frames + 1 ≤ R.frames ∧ 8 + (maxL + 11) + rm.locals ≤ R.locals ∧ (∀ w ∈ ws, ∀ (a' : Array Value) (U : State), s.WarmedH U.vm → w.before a' U = true) ∧ Cond.codeWith y bytes maxL ret hh ∈ ws) ∧
  (Cond.codeWith y bytes maxL ret hh).before args s = true ∧ (Cond.initialized y.cls).before args s = true ∧ (y.cls ≠ "java/lang/invoke/MethodHandle" ∧ y.cls ≠ "java/lang/invoke/VarHandle") ∧
  (∀ sig, parseMethodDescriptor y.desc = some sig → n = sig.parameters.length) ∧ (Cond.methodLink own index y).before args s = true ∧ (Cond.static y).before args s = true
theorem vx_cwSW {own : String} {index maxL mc ms : Nat} {y : MethodName} {bytes : ByteArray} {ret : Option FieldType} {hh : List (Nat × Nat × Nat × Nat)} {Ts ws ws' : List Cond} {rm : Room} (n : Nat) (ht : ∀ w ∈ Ts, w.before args s = true) (hT : GoodIn Ts (va_wsS own index y ws)) (hw : ws = Cond.codeWith y bytes maxL ret hh :: ws') (hrc : rm.cells = mc) (hrs : rm.slots = ms)
    (hd : y.cls ≠ "java/lang/invoke/MethodHandle" ∧ y.cls ≠ "java/lang/invoke/VarHandle" ∧ (parseMethodDescriptor y.desc).map (fun d => d.parameters.length) = some n) (hR : rm.frames + 1 ≤ R.frames ∧ 8 + (maxL + 11) + rm.locals ≤ R.locals) :
    vx_CSW R s args own index y bytes maxL ret hh ws rm mc ms n := by
  have ok : ∀ w ∈ va_wsS own index y ws, w.before args s = true := fun w h => ht w (hT w h).1
  have hG : GoodIn Ts ws := fun w h => hT w (by unfold va_wsS; exact List.mem_append_right _ h)
  have hc : Cond.codeWith y bytes maxL ret hh ∈ ws := by rw [hw]; exact List.mem_cons_self
  refine ⟨⟨hrc, hrs, hR.1, hR.2, pay_in ht hG, hc⟩, ht _ (hG _ hc).1, ok _ (by simp [va_wsS]), ⟨hd.1, hd.2.1⟩, fun sig h => ?_, ok _ (by simp [va_wsS]), ok _ (by simp [va_wsS])⟩
  have h2 := hd.2.2
  rw [h] at h2
  exact (Option.some.inj h2).symm
theorem vx_callSW (X : Stand p l e R s m args below meth c T locs cells slots) (hexec : p.tables.exec = Jvm.exec) {own : String} {index : Nat} {y : MethodName} {bytes : ByteArray} {maxL : Nat} {ret : Option FieldType} {hh : List (Nat × Nat × Nat × Nat)}
    (hown : s.vm.findClass own = some m.cls) (hlink : (Cond.methodLink own index y).before args s = true) (hstat : (Cond.static y).before args s = true) (hinit : (Cond.initialized y.cls).before args s = true)
    (hcode : (Cond.codeWith y bytes maxL ret hh).before args s = true) (hy : y.cls ≠ "java/lang/invoke/MethodHandle" ∧ y.cls ≠ "java/lang/invoke/VarHandle")
    {W9 : Nat} {Pre : Pt → Array Value → Prop} {Post : Pt → Array Value → Option Value → Pt → Prop} (hK : Back l R p e below s args y 3 W9 Pre Post)
    {g : JFrame} (hg : g.method = m) (hsize : g.locals.size = c.maxLocals) {argsL rest : List Value} (hlen : ∀ sig, parseMethodDescriptor y.desc = some sig → argsL.length = sig.parameters.length)
    (hstack : g.stack = argsL.reverse ++ rest) (hW : 2 * g.monitorRoom + (rest.map fun v => v.category).sum ≤ W9) (hdg : decode c.code g.pc = .ok (.invokestatic index, 3))
    (hpre : ∀ vm₁, s.WarmedH vm₁ → Pre ⟨T.setVm vm₁, locs, cells, slots⟩ argsL.toArray) :
    ∃ (v : Option Value) (vm₁ : Vm) (B : Pt), s.WarmedH vm₁ ∧ Stand p l e R s m args below meth c B.U B.locs B.cells B.slots ∧ Post ⟨T.setVm vm₁, locs, cells, slots⟩ argsL.toArray v B ∧
      ∀ target, Steps p.tables e below (B.U.setTop { g with pc := g.pc + 3, stack := v.toList ++ rest }) target → Steps p.tables e below (T.setTop g) target := by
  obtain ⟨mk, methM, cM, hnamed, hmethM, -, -, -, -, -, -, hsigM⟩ := Cond.codeWith_spec hcode
  have hstatic : methM.isStatic = true := Cond.static_spec hnamed hmethM hstat
  obtain ⟨kP, hkP, -⟩ := className_of_methodNamed hnamed
  have hinitP : kP.init = .initialized := Cond.initialized_spec (findClass_of_methodNamed hnamed) hkP hinit
  obtain ⟨vm₁, X₁, hstep₁⟩ := X.invokestatic hexec hown hlink hnamed hmethM hstatic hkP hinitP hy (g := g) hg (argsL := argsL) (rest := rest) (hlen _ hsigM) hstack hdg
  obtain ⟨v, B, X', hpost, hsteps⟩ := hK m meth c ⟨T.setVm vm₁, locs, cells, slots⟩ { g with stack := rest } (.invokestatic index) mk argsL.toArray X₁ hg hsize hdg hW (X₁.named hnamed) (hpre vm₁ X₁.warmed)
  exact ⟨v, vm₁, B, X₁.warmed, X', hpost, fun target h => hstep₁ _ fun acts => by rw [doInvoke_state]; exact hsteps.trans h⟩
theorem vx_runSW {y : MethodName} {bytes cc : ByteArray} {maxL nL mc ms n index : Nat} {ret : Option FieldType} {hh : List (Nat × Nat × Nat × Nat)} {ws : List Cond} {rm : Room} {Pc : Array Value → State → Prop} {Qc : Array Value → State → Outcome → State → Prop} {free : Addr → Prop} {Ts : List Cond} {own : String} {As rest : List Value} {g : JFrame}
    (S : CallFix p m c cc nL s args Ts own) (hM : Met l y ws rm Pc Qc mc ms free) (cw : vx_CSW R s args own index y bytes maxL ret hh ws rm mc ms n) (hp : PreS s H Pc As)
    (hg : g.method = m) (hn : As.length = n) (hsize : g.locals.size = nL) (hstack : g.stack = As.reverse ++ rest) (hW : 2 * g.monitorRoom + (rest.map fun v => v.category).sum ≤ 8) (hdg : decode cc g.pc = .ok (.invokestatic index, 3)) (hf : cells + mc ≤ R.cells ∧ slots + ms ≤ R.slots) :
    va_Run p l e R s m args below meth c H locs cells slots mc ms g rest (Qc As.toArray) (free) := by
  obtain ⟨⟨hrc, hrs, hfr, hlo, hws, hcw⟩, hcode, hini, hy, hlen, hl, hstt⟩ := cw
  have hK : Back l R p e below s args y 3 8 (PreOf R mc ms Pc) (PostOf Qc mc ms free) := va_backW (hh := hh) (bytes := bytes) (maxL := maxL) (ret := ret) hM hp.1 hrc hrs hfr hlo hws hcw (fun a' U hW => word_at hW (Or.inl (by first | rfl | simp [Cond.onTables, Cond.keeps, Cond.steady])) hini)
  obtain ⟨hx, hb, hml, ho, -⟩ := S
  intro T hT X
  obtain ⟨v, vm₁, ⟨U', l2, c2, s2⟩, hW₁, X', ⟨g', mk, t, L, e1, e2, hq, h1, hL, h2, h3⟩, st⟩ := vx_callSW X hx (hh := hh) (bytes := bytes) (maxL := maxL) (ret := ret) ho hl hstt hini hcode hy hK hg (hsize.trans hml.symm) (argsL := As) (rest := rest) (fun sig h => hn.trans (hlen sig h)) hstack hW (by rw [hb]; exact hdg)
    (fun vm₁ hW₁ => ⟨hf.1, hf.2, hp.2 (T.setVm vm₁) hT hW₁⟩)
  dsimp only [Pt.U, Pt.locs, Pt.cells, Pt.slots] at X' e1 e2 h1 h2 h3 st
  subst h1; subst h2; subst h3
  exact ⟨v, (T.setVm vm₁).calling g' mk As.toArray, t, U', L, hT, X', hL, e1, e2, hq, st⟩
/-- not caught here, past rows that name other classes: it goes on to the caller -/
theorem vx_outP {p : Program} {l : Launch} {e : Env} {R : Room} {s : State} {m : MethodId} {args : Array Value} {below : List Frame} {meth : Method} {c : Code} {H : Heap} {locs : List Loc} {cells slots : Nat} {free : Addr → Prop} {ls : Array Slot} {rest : List Value} {Qc : Array Value → State → Outcome → State → Prop} {XC : String → State → State → Prop}
    {pc : Nat} {own E : String} {ce : Cell} {q : Addr} {mc ms : Nat} (hown : s.vm.findClass own = some m.cls) (hlocks : meth.locks = false)
    (hpass : ∀ z ∈ c.exceptionTable.toList, covers z pc = false ∨ (z.catchType ≠ 0 ∧ ∃ nm : String, (Cond.classLink own z.catchType nm).before args s = true ∧ va_Nc E nm s)) (hcell : H[q]? = some ce) (hv : ce.vm = .none) (hcl : s.vm.findClass E = some ce.cls)
    (hx : ∀ t : State, t.heap = H → s.vm.Alike t.vm → XC E s t) (hf : ∀ z ∈ locs, free z.base) (hc : cells ≤ mc) (hs : slots ≤ ms) :
    vx_W p l e R s m args below meth c H locs cells slots (vx_MQ below Qc XC args s mc ms free) (F0 m pc ls rest) q := by
  intro T hT X
  have hpl : e.platform.magicAccessors = ({} : Platform).magicAccessors := by rw [X.admits.platform]
  obtain ⟨vm', hW', X', st⟩ := X.outThrough hlocks q (g := F0 m pc ls rest) rfl rfl rfl (cell := ce) (by rw [hT]; exact hcell) (by rw [hv]; rfl)
    (by obtain ⟨k9, h9, -⟩ := Vm.findClass_spec hcl; exact ⟨k9, h9⟩) (fun z hz => by
      rcases hpass z hz with h | ⟨hz0, nm, hl1, hn1⟩
      · exact Or.inl h
      · obtain ⟨c6, hc6, hcl6⟩ := Cond.classLink_spec hown hl1 e.platform hpl
        obtain ⟨a8, b8, h1, h2, h3⟩ := hn1
        cases Option.some.inj (h1.symm.trans hcl)
        cases Option.some.inj (h2.symm.trans hc6)
        exact Or.inr ⟨hz0, _, hcl6, h3⟩)
  obtain ⟨g₀, hfr⟩ := X'.frames_eq
  have hcell9 : ((T.setVm vm').setFrames (.throwing q :: below)).heap[q]? = some ce := by
    show T.heap[q]? = some ce
    rw [hT]; exact hcell
  have hend : Ended ((T.setVm vm').setFrames (.throwing q :: below)) below (.threw q) := State.frames_setFrames _ (State.cur_lt_of_frames hfr)
  refine ⟨(T.setVm vm').setFrames (.throwing q :: below), ?_, .threw q, X'.here.running, hend, Or.inr ⟨q, rfl, E, ce, locs, hx _ hT (X'.ends _).1.alike, hcell9, hv, hcl, (X'.ends _).1, (X'.ends _).2.mono hc hs, hf⟩⟩
  rw [X.pushThrowing_eq]
  exact st
/-- a thing of a world lies in the heap -/
theorem vx_lt {D : va_G} {cl : List vw_C} {ws : va_W} {H1 : Heap} (h : va_P D cl ws H1) {k : Nat} {q : Nat × va_E} (hk : ws[k]? = some q) : q.1 < H1.size := (h k q hk).lt
end VXS
/-! ===== END ===== -/
/-! ===== BEGIN methods with a table of their own: called by a name, returning or throwing ===== -/
section VXH
/-! vx_backW, vx_callVX, vx_callSX, vx_callVW, vx_runVW, vx_runVX, vx_runSX, vx_ofWH follow the same proofs as their sisters above (Free/Laws.lean, Shelf42/LK1.lean); vx_outP calls Shelf42/NT130.lean (outThrough). -/
section
variable {l : Launch} {R : Room} {p : Program} {e : Env} {below : List Frame} {s : State} {sargs : Array Value} {y : MethodName} {len W9 : Nat}
theorem vx_backW {ws : List Cond} {rm : Room} {Pc : Array Value → State → Prop} {Qc : Array Value → State → Outcome → State → Prop} {XC : String → State → State → Prop} {mc ms : Nat} {free : Addr → Prop} {bytes : ByteArray} {maxL : Nat} {ret : Option FieldType} {hh : List (Nat × Nat × Nat × Nat)}
    (hM : vx_Met l y ws rm Pc Qc XC mc ms free) (hblind : FrameBlind Pc) (hrc : rm.cells = mc) (hrs : rm.slots = ms)
    (hframes : rm.frames + 1 ≤ R.frames) (hlocals : W9 + (maxL + 11) + rm.locals ≤ R.locals)
    (hws : ∀ w ∈ ws, ∀ a' U, s.WarmedH U.vm → w.before a' U = true) (hcode : Cond.codeWith y bytes maxL ret hh ∈ ws) (hinit : ∀ a' U, s.WarmedH U.vm → (Cond.initialized y.cls).before a' U = true) :
    vx_Back l R p e below s sargs y len W9 (PreOf R mc ms Pc) (PostOf Qc mc ms free) (vx_Post XC mc ms free) := by
  intro m meth c A g ig mk a X hg hsize hdg hW hn hp
  have h1 : (headSpec ws rm).pre.before a A.U = true := atoms_intro fun w hw => hws w hw _ _ X.warmed
  have h2 : (Cond.codeWith y bytes maxL ret hh).before a A.U = true := hws _ hcode _ _ X.warmed
  have h3 : (Cond.initialized y.cls).before a A.U = true := hinit _ _ X.warmed
  have h4 : A.cells + (headSpec ws rm).room.cells ≤ R.cells := by rw [show (headSpec ws rm).room.cells = mc from hrc]; exact hp.1
  have h5 : A.slots + (headSpec ws rm).room.slots ≤ R.slots := by rw [show (headSpec ws rm).room.slots = ms from hrs]; exact hp.2.1
  have hPc : Pc a (A.U.calling g mk a) := hblind _ _ _ _ hp.2.2
  obtain ⟨U, Ls, c0, s0⟩ := A
  dsimp only [Pt.U, Pt.locs, Pt.cells, Pt.slots] at h1 h2 h3 h4 h5 X hn hPc ⊢
  obtain ⟨m9, methY, cY, hn9, hmY, hcY, -, hlY, -⟩ := Cond.codeWith_spec h2
  cases Option.some.inj (hn9.symm.trans hn)
  obtain ⟨kY, hkY, -⟩ := className_of_methodNamed hn
  have hinitY : kY.init = .initialized := Cond.initialized_spec (findClass_of_methodNamed hn) hkY h3
  have h : At U g.method c below := by rw [hg]; exact X.here
  have hlocals9 : W9 + (maxL + 11) + (headSpec ws rm).room.locals ≤ R.locals := hlocals
  have happ : (headSpec ws rm).appliesLoose y e.platform (U.calling g mk a) = true :=
    Spec.appliesLoose_calling (g := g) h hdg hn hkY hinitY
      (X.room_calling (g := g) (R' := (headSpec ws rm).room) hsize hmY hcY hframes (by rw [hlY]; omega) h4 h5) h1
  obtain ⟨mid, hmid⟩ := h.above
  have hfr : (U.setTop g).frames = (.java g :: mid) ++ below := by rw [State.frames_setTop' g h.top, hmid]; rfl
  obtain ⟨o, s₂, hsteps, -, hend, hq⟩ := Steps.callFree hM p X.admits X.cas X.clock (acts := []) hfr happ hPc trivial
  have hq' : vx_Q Qc XC mc ms free a (U.calling g mk a) o s₂ := hq
  rw [State.frames_setTop' g h.top] at hend
  obtain ⟨g₀, hg0⟩ := Option.isSome_iff_exists.mp h.top
  obtain ⟨r, hr⟩ := State.topJava?_eq_some.mp hg0
  have hr' : (({ U with heap := s₂.heap, slotsUsed := s₂.slotsUsed } : State).setVm s₂.vm).frames = .java g₀ :: r := hr
  rcases hq' with ⟨hqc, L, hfe, hL⟩ | ⟨q, rfl, E, ce, L, hx, hce, hcv, hcl, hW₂, hsm, hL⟩
  · obtain ⟨⟨v, rfl⟩, hW₂, e2, q2, q3, q4, q5, q6⟩ := id hfe
    have e3 : s₂ = ({ (U.calling g mk a).setFrames s₂.frames with heap := s₂.heap, slotsUsed := s₂.slotsUsed } : State).setVm s₂.vm := by
      have : s₂ = ({ s₂ with vm := (U.calling g mk a).vm } : State).setVm s₂.vm := rfl
      rw [e2] at this
      exact this
    obtain ⟨c₂, i₂, len₂, hc₂, hd₂, hf₂⟩ := hend
    have hW' : U.WarmedH s₂.vm := hW₂
    have hcc : c₂ = c := by
      have h1 : s₂.code? g.method = U.code? g.method := by
        rw [State.code?_eq, State.code?_eq, hW'.alike.method?]
      exact Option.some.inj (hc₂.symm.trans (h1.trans h.code))
    subst hcc
    have hlen : len₂ = len := by rw [hdg] at hd₂; cases hd₂; rfl
    subst hlen
    have hs₂ : s₂ = (({ U with heap := s₂.heap, slotsUsed := s₂.slotsUsed } : State).setVm s₂.vm).setTop { g with pc := g.pc + len₂, stack := v.toList ++ g.stack } := by
      refine e3.trans ?_
      rw [hf₂, State.calling_eq h.top, State.setFrames_setFrames, State.setTop_of_frames _ hr', hr]
      rfl
    have hsame : U.sameButNew ({ U with heap := s₂.heap, slotsUsed := s₂.slotsUsed } : State) L mc ms := by
      refine ⟨?_, q2, q3, q4, q5, q6⟩
      obtain ⟨t, ht, -⟩ := State.frames_cons hr
      show ({ U with heap := s₂.heap, slotsUsed := s₂.slotsUsed } : State) = { U.setFrames U.frames with heap := s₂.heap, slotsUsed := s₂.slotsUsed }
      rw [State.setFrames_self ht]
    subst hg
    refine Or.inl ⟨v, ⟨(({ U with heap := s₂.heap, slotsUsed := s₂.slotsUsed } : State).setVm s₂.vm), Ls ++ L, c0 + mc, s0 + ms⟩,
      ⟨X.admits, X.cas, X.clock, X.frames, X.room, X.hears, X.method, X.code, (X.here.setHeapUsed s₂.heap s₂.slotsUsed).setVm hW'.alike, X.tail, State.WarmedH.trans X.warmed hW', X.limits, X.bytes, X.same.trans (hsame.setVm s.vm)⟩,
      ⟨g, mk, s₂, L, rfl, rfl, hqc, rfl, hL, rfl, rfl⟩, ?_⟩
    show Steps p.tables e below _ ((({ U with heap := s₂.heap, slotsUsed := s₂.slotsUsed } : State).setVm s₂.vm).setTop { g with pc := g.pc + len₂, stack := v.toList ++ g.stack })
    rw [← hs₂]
    exact hsteps
  · obtain ⟨e2, q2, q3, q4, q5, q6⟩ := id hsm
    have e3 : s₂ = ({ (U.calling g mk a).setFrames s₂.frames with heap := s₂.heap, slotsUsed := s₂.slotsUsed } : State).setVm s₂.vm := by
      have : s₂ = ({ s₂ with vm := (U.calling g mk a).vm } : State).setVm s₂.vm := rfl
      rw [e2] at this
      exact this
    have hf₂ : s₂.frames = .throwing q :: .java g :: U.frames.tail := hend
    have hW' : U.WarmedH s₂.vm := hW₂
    have hs₂ : s₂ = ((({ U with heap := s₂.heap, slotsUsed := s₂.slotsUsed } : State).setVm s₂.vm).setTop g).pushFrame (.throwing q) := by
      refine e3.trans ?_
      rw [hf₂, State.calling_eq h.top, State.setFrames_setFrames, State.pushFrame, State.frames_setTop _ hr', State.setTop_of_frames _ hr', State.setFrames_setFrames, hr]
      rfl
    have hsame : U.sameButNew ({ U with heap := s₂.heap, slotsUsed := s₂.slotsUsed } : State) L mc ms := by
      refine ⟨?_, q2, q3, q4, q5, q6⟩
      obtain ⟨t, ht, -⟩ := State.frames_cons hr
      show ({ U with heap := s₂.heap, slotsUsed := s₂.slotsUsed } : State) = { U.setFrames U.frames with heap := s₂.heap, slotsUsed := s₂.slotsUsed }
      rw [State.setFrames_self ht]
    subst hg
    refine Or.inr ⟨q, ⟨(({ U with heap := s₂.heap, slotsUsed := s₂.slotsUsed } : State).setVm s₂.vm), Ls ++ L, c0 + mc, s0 + ms⟩,
      ⟨X.admits, X.cas, X.clock, X.frames, X.room, X.hears, X.method, X.code, (X.here.setHeapUsed s₂.heap s₂.slotsUsed).setVm hW'.alike, X.tail, State.WarmedH.trans X.warmed hW', X.limits, X.bytes, X.same.trans (hsame.setVm s.vm)⟩,
      ⟨g, mk, s₂, L, E, ce, rfl, rfl, hx, hce, hcv, hcl, rfl, hL, rfl, rfl⟩, ?_⟩
    show Steps p.tables e below _ (((({ U with heap := s₂.heap, slotsUsed := s₂.slotsUsed } : State).setVm s₂.vm).setTop g).pushFrame (.throwing q))
    rw [← hs₂]
    exact hsteps
end
variable {p : Program} {l : Launch} {e : Env} {R : Room} {s : State} {m : MethodId} {args : Array Value} {below : List Frame} {meth : Method} {c : Code} {T : State} {H : Heap} {locs : List Loc} {cells slots : Nat}
theorem vx_callVX (X : Stand p l e R s m args below meth c T locs cells slots) (hexec : p.tables.exec = Jvm.exec) {own C : String} {index : Nat} {y : MethodName} {bytes : ByteArray} {maxL : Nat} {ret : Option FieldType} {hh : List (Nat × Nat × Nat × Nat)}
    (hown : s.vm.findClass own = some m.cls) (hlink : (Cond.methodLink own index y).before args s = true) (hinst : (Cond.instanceMethod y).before args s = true) (hsel : (Cond.selects C y y).before args s = true)
    (hcode : (Cond.codeWith y bytes maxL ret hh).before args s = true) (hy : y.cls ≠ "java/lang/invoke/MethodHandle" ∧ y.cls ≠ "java/lang/invoke/VarHandle")
    {W9 : Nat} {Pre : Pt → Array Value → Prop} {Post : Pt → Array Value → Option Value → Pt → Prop} {PostX : Pt → Array Value → Addr → Pt → Prop} (hK : vx_Back l R p e below s args y 3 W9 Pre Post PostX)
    {b : Addr} {cellB : Cell} (hcell : T.heap[b]? = some cellB) (hobj : cellB.vm.isStatics = false) (hcls : s.vm.findClass C = some cellB.cls)
    {g : JFrame} (hg : g.method = m) (hsize : g.locals.size = c.maxLocals) {argsL rest : List Value} (hlen : ∀ sig, parseMethodDescriptor y.desc = some sig → argsL.length = sig.parameters.length)
    (hstack : g.stack = argsL.reverse ++ .ref b :: rest) (hW : 2 * g.monitorRoom + (rest.map fun v => v.category).sum ≤ W9) (hdg : decode c.code g.pc = .ok (.invokevirtual index, 3))
    (hpre : ∀ vm₁, s.WarmedH vm₁ → Pre ⟨T.setVm vm₁, locs, cells, slots⟩ (Value.ref b :: argsL).toArray) :
    (∃ (v : Option Value) (vm₁ : Vm) (B : Pt), s.WarmedH vm₁ ∧ Stand p l e R s m args below meth c B.U B.locs B.cells B.slots ∧ Post ⟨T.setVm vm₁, locs, cells, slots⟩ (Value.ref b :: argsL).toArray v B ∧
      ∀ target, Steps p.tables e below (B.U.setTop { g with pc := g.pc + 3, stack := v.toList ++ rest }) target → Steps p.tables e below (T.setTop g) target) ∨
    (∃ (q : Addr) (vm₁ : Vm) (B : Pt), s.WarmedH vm₁ ∧ Stand p l e R s m args below meth c B.U B.locs B.cells B.slots ∧ PostX ⟨T.setVm vm₁, locs, cells, slots⟩ (Value.ref b :: argsL).toArray q B ∧
      Steps p.tables e below (T.setTop g) ((B.U.setTop { g with stack := rest }).pushFrame (.throwing q))) := by
  obtain ⟨mk, methM, hnamed, hmethM, hstM, habM⟩ := Cond.instanceMethod_spec hinst
  obtain ⟨m8, methM', cM, hn8, hmethM', -, -, -, -, -, -, hsigM⟩ := Cond.codeWith_spec hcode
  cases Option.some.inj (hn8.symm.trans hnamed)
  cases hmethM.symm.trans hmethM'
  obtain ⟨c2, r2, m2, q1, q2, q3, q4, kP, hkP, hkPi⟩ := Cond.selects_spec hsel
  cases hcls.symm.trans q1
  cases (State.methodFound?_of_named hnamed hy).symm.trans q2
  cases hnamed.symm.trans q3
  have hselP : selectMethod e.platform s.vm cellB.cls mk = .method mk := by rw [Launch.admits_selectMethod X.admits]; exact q4
  obtain ⟨vm₁, X₁, hstep₁⟩ := X.invokevirtual hexec hown hlink hnamed hmethM hstM hkP hkPi hy (a := b) (cell := cellB) hcell
    (fun z h => by rw [h] at hobj; cases hobj) hselP hmethM habM hkP hkPi (g := g) hg (argsL := argsL) (rest := rest) (hlen _ hsigM) hstack hdg
  rcases hK m meth c ⟨T.setVm vm₁, locs, cells, slots⟩ { g with stack := rest } (.invokevirtual index) mk (Value.ref b :: argsL).toArray X₁ hg hsize hdg hW (X₁.named hnamed) (hpre vm₁ X₁.warmed) with ⟨v, B, X', hpost, hsteps⟩ | ⟨q, B, X', hpost, hsteps⟩
  · exact Or.inl ⟨v, vm₁, B, X₁.warmed, X', hpost, fun target h => hstep₁ _ fun acts => by rw [doInvoke_state]; exact hsteps.trans h⟩
  · exact Or.inr ⟨q, vm₁, B, X₁.warmed, X', hpost, hstep₁ _ fun acts => by rw [doInvoke_state]; exact hsteps⟩
theorem vx_callSX (X : Stand p l e R s m args below meth c T locs cells slots) (hexec : p.tables.exec = Jvm.exec) {own : String} {index : Nat} {y : MethodName} {bytes : ByteArray} {maxL : Nat} {ret : Option FieldType} {hh : List (Nat × Nat × Nat × Nat)}
    (hown : s.vm.findClass own = some m.cls) (hlink : (Cond.methodLink own index y).before args s = true) (hstat : (Cond.static y).before args s = true) (hinit : (Cond.initialized y.cls).before args s = true)
    (hcode : (Cond.codeWith y bytes maxL ret hh).before args s = true) (hy : y.cls ≠ "java/lang/invoke/MethodHandle" ∧ y.cls ≠ "java/lang/invoke/VarHandle")
    {W9 : Nat} {Pre : Pt → Array Value → Prop} {Post : Pt → Array Value → Option Value → Pt → Prop} {PostX : Pt → Array Value → Addr → Pt → Prop} (hK : vx_Back l R p e below s args y 3 W9 Pre Post PostX)
    {g : JFrame} (hg : g.method = m) (hsize : g.locals.size = c.maxLocals) {argsL rest : List Value} (hlen : ∀ sig, parseMethodDescriptor y.desc = some sig → argsL.length = sig.parameters.length)
    (hstack : g.stack = argsL.reverse ++ rest) (hW : 2 * g.monitorRoom + (rest.map fun v => v.category).sum ≤ W9) (hdg : decode c.code g.pc = .ok (.invokestatic index, 3))
    (hpre : ∀ vm₁, s.WarmedH vm₁ → Pre ⟨T.setVm vm₁, locs, cells, slots⟩ argsL.toArray) :
    (∃ (v : Option Value) (vm₁ : Vm) (B : Pt), s.WarmedH vm₁ ∧ Stand p l e R s m args below meth c B.U B.locs B.cells B.slots ∧ Post ⟨T.setVm vm₁, locs, cells, slots⟩ argsL.toArray v B ∧
      ∀ target, Steps p.tables e below (B.U.setTop { g with pc := g.pc + 3, stack := v.toList ++ rest }) target → Steps p.tables e below (T.setTop g) target) ∨
    (∃ (q : Addr) (vm₁ : Vm) (B : Pt), s.WarmedH vm₁ ∧ Stand p l e R s m args below meth c B.U B.locs B.cells B.slots ∧ PostX ⟨T.setVm vm₁, locs, cells, slots⟩ argsL.toArray q B ∧
      Steps p.tables e below (T.setTop g) ((B.U.setTop { g with stack := rest }).pushFrame (.throwing q))) := by
  obtain ⟨mk, methM, cM, hnamed, hmethM, -, -, -, -, -, -, hsigM⟩ := Cond.codeWith_spec hcode
  have hstatic : methM.isStatic = true := Cond.static_spec hnamed hmethM hstat
  obtain ⟨kP, hkP, -⟩ := className_of_methodNamed hnamed
  have hinitP : kP.init = .initialized := Cond.initialized_spec (findClass_of_methodNamed hnamed) hkP hinit
  obtain ⟨vm₁, X₁, hstep₁⟩ := X.invokestatic hexec hown hlink hnamed hmethM hstatic hkP hinitP hy (g := g) hg (argsL := argsL) (rest := rest) (hlen _ hsigM) hstack hdg
  rcases hK m meth c ⟨T.setVm vm₁, locs, cells, slots⟩ { g with stack := rest } (.invokestatic index) mk argsL.toArray X₁ hg hsize hdg hW (X₁.named hnamed) (hpre vm₁ X₁.warmed) with ⟨v, B, X', hpost, hsteps⟩ | ⟨q, B, X', hpost, hsteps⟩
  · exact Or.inl ⟨v, vm₁, B, X₁.warmed, X', hpost, fun target h => hstep₁ _ fun acts => by rw [doInvoke_state]; exact hsteps.trans h⟩
  · exact Or.inr ⟨q, vm₁, B, X₁.warmed, X', hpost, hstep₁ _ fun acts => by rw [doInvoke_state]; exact hsteps⟩
theorem vx_callVW (X : Stand p l e R s m args below meth c T locs cells slots) (hexec : p.tables.exec = Jvm.exec) {own C : String} {index : Nat} {y : MethodName} {bytes : ByteArray} {maxL : Nat} {ret : Option FieldType} {hh : List (Nat × Nat × Nat × Nat)}
    (hown : s.vm.findClass own = some m.cls) (hlink : (Cond.methodLink own index y).before args s = true) (hinst : (Cond.instanceMethod y).before args s = true) (hsel : (Cond.selects C y y).before args s = true)
    (hcode : (Cond.codeWith y bytes maxL ret hh).before args s = true) (hy : y.cls ≠ "java/lang/invoke/MethodHandle" ∧ y.cls ≠ "java/lang/invoke/VarHandle")
    {W9 : Nat} {Pre : Pt → Array Value → Prop} {Post : Pt → Array Value → Option Value → Pt → Prop} (hK : Back l R p e below s args y 3 W9 Pre Post)
    {b : Addr} {cellB : Cell} (hcell : T.heap[b]? = some cellB) (hobj : cellB.vm.isStatics = false) (hcls : s.vm.findClass C = some cellB.cls)
    {g : JFrame} (hg : g.method = m) (hsize : g.locals.size = c.maxLocals) {argsL rest : List Value} (hlen : ∀ sig, parseMethodDescriptor y.desc = some sig → argsL.length = sig.parameters.length)
    (hstack : g.stack = argsL.reverse ++ .ref b :: rest) (hW : 2 * g.monitorRoom + (rest.map fun v => v.category).sum ≤ W9) (hdg : decode c.code g.pc = .ok (.invokevirtual index, 3))
    (hpre : ∀ vm₁, s.WarmedH vm₁ → Pre ⟨T.setVm vm₁, locs, cells, slots⟩ (Value.ref b :: argsL).toArray) :
    ∃ (v : Option Value) (vm₁ : Vm) (B : Pt), s.WarmedH vm₁ ∧ Stand p l e R s m args below meth c B.U B.locs B.cells B.slots ∧ Post ⟨T.setVm vm₁, locs, cells, slots⟩ (Value.ref b :: argsL).toArray v B ∧
      ∀ target, Steps p.tables e below (B.U.setTop { g with pc := g.pc + 3, stack := v.toList ++ rest }) target → Steps p.tables e below (T.setTop g) target := by
  obtain ⟨mk, methM, hnamed, hmethM, hstM, habM⟩ := Cond.instanceMethod_spec hinst
  obtain ⟨m8, methM', cM, hn8, hmethM', -, -, -, -, -, -, hsigM⟩ := Cond.codeWith_spec hcode
  cases Option.some.inj (hn8.symm.trans hnamed)
  cases hmethM.symm.trans hmethM'
  obtain ⟨c2, r2, m2, q1, q2, q3, q4, kP, hkP, hkPi⟩ := Cond.selects_spec hsel
  cases hcls.symm.trans q1
  cases (State.methodFound?_of_named hnamed hy).symm.trans q2
  cases hnamed.symm.trans q3
  have hselP : selectMethod e.platform s.vm cellB.cls mk = .method mk := by rw [Launch.admits_selectMethod X.admits]; exact q4
  obtain ⟨vm₁, X₁, hstep₁⟩ := X.invokevirtual hexec hown hlink hnamed hmethM hstM hkP hkPi hy (a := b) (cell := cellB) hcell
    (fun z h => by rw [h] at hobj; cases hobj) hselP hmethM habM hkP hkPi (g := g) hg (argsL := argsL) (rest := rest) (hlen _ hsigM) hstack hdg
  obtain ⟨v, B, X', hpost, hsteps⟩ := hK m meth c ⟨T.setVm vm₁, locs, cells, slots⟩ { g with stack := rest } (.invokevirtual index) mk (Value.ref b :: argsL).toArray X₁ hg hsize hdg hW (X₁.named hnamed) (hpre vm₁ X₁.warmed)
  exact ⟨v, vm₁, B, X₁.warmed, X', hpost, fun target h => hstep₁ _ fun acts => by rw [doInvoke_state]; exact hsteps.trans h⟩
abbrev vx_CVW (R : Room) (s : State) (args : Array Value) (own C : String) (index : Nat) (y : MethodName) (bytes : ByteArray) (maxL : Nat) (ret : Option FieldType) (hh : List (Nat × Nat × Nat × Nat)) (ws : List Cond) (rm : Room) (mc ms n : Nat) : Prop :=
  (rm.cells = mc ∧ rm.slots = ms ∧ rm.frames + 1 ≤ R.frames ∧ 8 + (maxL + 11) + rm.locals ≤ R.locals ∧ (∀ w ∈ ws, ∀ (a' : Array Value) (U : State), s.WarmedH U.vm → w.before a' U = true) ∧ Cond.codeWith y bytes maxL ret hh ∈ ws) ∧
  (Cond.codeWith y bytes maxL ret hh).before args s = true ∧ (Cond.initialized y.cls).before args s = true ∧ (y.cls ≠ "java/lang/invoke/MethodHandle" ∧ y.cls ≠ "java/lang/invoke/VarHandle") ∧
  (∀ sig, parseMethodDescriptor y.desc = some sig → n = sig.parameters.length) ∧ (Cond.methodLink own index y).before args s = true ∧ (Cond.instanceMethod y).before args s = true ∧ (Cond.selects C y y).before args s = true
theorem vx_cwVW {own C : String} {index maxL mc ms : Nat} {y : MethodName} {bytes : ByteArray} {ret : Option FieldType} {hh : List (Nat × Nat × Nat × Nat)} {Ts ws ws' : List Cond} {rm : Room} (n : Nat) (ht : ∀ w ∈ Ts, w.before args s = true) (hT : GoodIn Ts (wsV own index C y ws)) (hw : ws = Cond.codeWith y bytes maxL ret hh :: ws') (hrc : rm.cells = mc) (hrs : rm.slots = ms)
    (hd : y.cls = C ∧ y.cls ≠ "java/lang/invoke/MethodHandle" ∧ y.cls ≠ "java/lang/invoke/VarHandle" ∧ (parseMethodDescriptor y.desc).map (fun d => d.parameters.length) = some n) (hR : rm.frames + 1 ≤ R.frames ∧ 8 + (maxL + 11) + rm.locals ≤ R.locals) :
    vx_CVW R s args own C index y bytes maxL ret hh ws rm mc ms n := by
  obtain ⟨hC, hd⟩ := hd
  subst hC
  have ok : ∀ w ∈ wsV own index y.cls y ws, w.before args s = true := fun w h => ht w (hT w h).1
  have hG : GoodIn Ts ws := fun w h => hT w (by unfold wsV; exact List.mem_append_right _ h)
  have hc : Cond.codeWith y bytes maxL ret hh ∈ ws := by rw [hw]; exact List.mem_cons_self
  refine ⟨⟨hrc, hrs, hR.1, hR.2, pay_in ht hG, hc⟩, ht _ (hG _ hc).1, ok _ (by simp [wsV]), ⟨hd.1, hd.2.1⟩, fun sig h => ?_, ok _ (by simp [wsV]), ok _ (by simp [wsV]), ok _ (by simp [wsV])⟩
  have h2 := hd.2.2
  rw [h] at h2
  exact (Option.some.inj h2).symm
theorem vx_runVW {y : MethodName} {bytes cc : ByteArray} {maxL nL mc ms n index : Nat} {ret : Option FieldType} {hh : List (Nat × Nat × Nat × Nat)} {ws : List Cond} {rm : Room} {Pc : Array Value → State → Prop} {Qc : Array Value → State → Outcome → State → Prop} {free : Addr → Prop} {Ts : List Cond} {own C : String} {b : Addr} {As rest : List Value} {g : JFrame}
    (S : CallFix p m c cc nL s args Ts own) (hM : Met l y ws rm Pc Qc mc ms free) (cw : vx_CVW R s args own C index y bytes maxL ret hh ws rm mc ms n) (hp : PreV s H C b Pc As)
    (hg : g.method = m) (hn : As.length = n) (hsize : g.locals.size = nL) (hstack : g.stack = As.reverse ++ .ref b :: rest) (hW : 2 * g.monitorRoom + (rest.map fun v => v.category).sum ≤ 8) (hdg : decode cc g.pc = .ok (.invokevirtual index, 3)) (hf : cells + mc ≤ R.cells ∧ slots + ms ≤ R.slots) :
    va_Run p l e R s m args below meth c H locs cells slots mc ms g rest (Qc (Value.ref b :: As).toArray) free := by
  obtain ⟨⟨hrc, hrs, hfr, hlo, hws, hcw⟩, hcode, hini, hy, hlen, hl, hin, hse⟩ := cw
  have hK : Back l R p e below s args y 3 8 (PreOf R mc ms Pc) (PostOf Qc mc ms free) := va_backW (hh := hh) (bytes := bytes) (maxL := maxL) (ret := ret) hM hp.1 hrc hrs hfr hlo hws hcw (fun a' U hW => word_at hW (Or.inl (by first | rfl | simp [Cond.onTables, Cond.keeps, Cond.steady])) hini)
  obtain ⟨hx, hb, hml, ho, -⟩ := S
  obtain ⟨-, ⟨cellB, hcB, hoB, hclB⟩, hPc⟩ := hp
  intro T hT X
  obtain ⟨v, vm₁, ⟨U', l2, c2, s2⟩, hW₁, X', ⟨g', mk, t, L, e1, e2, hq, h1, hL, h2, h3⟩, st⟩ := vx_callVW X hx (C := C) (hh := hh) (bytes := bytes) (maxL := maxL) (ret := ret) ho hl hin hse hcode hy hK (by rw [hT]; exact hcB) hoB hclB hg (hsize.trans hml.symm) (argsL := As) (rest := rest) (fun sig h => hn.trans (hlen sig h)) hstack hW (by rw [hb]; exact hdg)
    (fun vm₁ hW₁ => ⟨hf.1, hf.2, hPc (T.setVm vm₁) hT hW₁⟩)
  dsimp only [Pt.U, Pt.locs, Pt.cells, Pt.slots] at X' e1 e2 h1 h2 h3 st
  subst h1; subst h2; subst h3
  exact ⟨v, (T.setVm vm₁).calling g' mk (Value.ref b :: As).toArray, t, U', L, hT, X', hL, e1, e2, hq, st⟩
section
variable {y : MethodName} {bytes cc : ByteArray} {maxL nL mc ms n index : Nat} {ret : Option FieldType} {ws : List Cond} {rm : Room} {Pc : Array Value → State → Prop} {Qc : Array Value → State → Outcome → State → Prop} {XC : String → State → State → Prop} {free : Addr → Prop} {Ts : List Cond} {own C : String} {b : Addr} {As rest : List Value} {g : JFrame}
theorem vx_runVX {hh : List (Nat × Nat × Nat × Nat)} (S : CallFix p m c cc nL s args Ts own) (hM : vx_Met l y ws rm Pc Qc XC mc ms free) (cw : vx_CVW R s args own C index y bytes maxL ret hh ws rm mc ms n) (hp : PreV s H C b Pc As)
    (hg : g.method = m) (hn : As.length = n) (hsize : g.locals.size = nL) (hstack : g.stack = As.reverse ++ .ref b :: rest) (hW : 2 * g.monitorRoom + (rest.map fun v => v.category).sum ≤ 8) (hdg : decode cc g.pc = .ok (.invokevirtual index, 3)) (hf : cells + mc ≤ R.cells ∧ slots + ms ≤ R.slots) :
    vx_Run p l e R s m args below meth c H locs cells slots mc ms g rest (Qc (Value.ref b :: As).toArray) XC free := by
  obtain ⟨⟨hrc, hrs, hfr, hlo, hws, hcw⟩, hcode, hini, hy, hlen, hl, hin, hse⟩ := cw
  have hK : vx_Back l R p e below s args y 3 8 (PreOf R mc ms Pc) (PostOf Qc mc ms free) (vx_Post XC mc ms free) := vx_backW (hh := hh) (bytes := bytes) (maxL := maxL) (ret := ret) hM hp.1 hrc hrs hfr hlo hws hcw (fun a' U hW => word_at hW (Or.inl (by first | rfl | simp [Cond.onTables, Cond.keeps, Cond.steady])) hini)
  obtain ⟨hx, hb, hml, ho, -⟩ := S
  obtain ⟨-, ⟨cellB, hcB, hoB, hclB⟩, hPc⟩ := hp
  intro T hT X
  rcases vx_callVX X hx (C := C) (hh := hh) (bytes := bytes) (maxL := maxL) (ret := ret) ho hl hin hse hcode hy hK (by rw [hT]; exact hcB) hoB hclB hg (hsize.trans hml.symm) (argsL := As) (rest := rest) (fun sig h => hn.trans (hlen sig h)) hstack hW (by rw [hb]; exact hdg)
    (fun vm₁ hW₁ => ⟨hf.1, hf.2, hPc (T.setVm vm₁) hT hW₁⟩) with ⟨v, vm₁, ⟨U', l2, c2, s2⟩, hW₁, X', ⟨g', mk, t, L, e1, e2, hq, h1, hL, h2, h3⟩, st⟩ | ⟨q, vm₁, ⟨U', l2, c2, s2⟩, hW₁, X', ⟨g', mk, t, L, E, ce, e1, e2, hq, hce, hcv, hcl, h1, hL, h2, h3⟩, st⟩
  · dsimp only [Pt.U, Pt.locs, Pt.cells, Pt.slots] at X' e1 e2 h1 h2 h3 st
    subst h1; subst h2; subst h3
    exact Or.inl ⟨v, (T.setVm vm₁).calling g' mk (Value.ref b :: As).toArray, t, U', L, hT, X', hL, e1, e2, hq, st⟩
  · dsimp only [Pt.U, Pt.locs, Pt.cells, Pt.slots] at X' e1 e2 h1 h2 h3 st hcl
    subst h1; subst h2; subst h3
    exact Or.inr ⟨q, (T.setVm vm₁).calling g' mk (Value.ref b :: As).toArray, t, U', L, E, ce, hT, X', hL, e1, e2, hq, hce, hcv, vx_cls hW₁ hcl, st⟩
theorem vx_runSX {hh : List (Nat × Nat × Nat × Nat)} (S : CallFix p m c cc nL s args Ts own) (hM : vx_Met l y ws rm Pc Qc XC mc ms free) (cw : vx_CSW R s args own index y bytes maxL ret hh ws rm mc ms n) (hp : PreS s H Pc As)
    (hg : g.method = m) (hn : As.length = n) (hsize : g.locals.size = nL) (hstack : g.stack = As.reverse ++ rest) (hW : 2 * g.monitorRoom + (rest.map fun v => v.category).sum ≤ 8) (hdg : decode cc g.pc = .ok (.invokestatic index, 3)) (hf : cells + mc ≤ R.cells ∧ slots + ms ≤ R.slots) :
    vx_Run p l e R s m args below meth c H locs cells slots mc ms g rest (Qc As.toArray) XC free := by
  obtain ⟨⟨hrc, hrs, hfr, hlo, hws, hcw⟩, hcode, hini, hy, hlen, hl, hstt⟩ := cw
  have hK : vx_Back l R p e below s args y 3 8 (PreOf R mc ms Pc) (PostOf Qc mc ms free) (vx_Post XC mc ms free) := vx_backW (hh := hh) (bytes := bytes) (maxL := maxL) (ret := ret) hM hp.1 hrc hrs hfr hlo hws hcw (fun a' U hW => word_at hW (Or.inl (by first | rfl | simp [Cond.onTables, Cond.keeps, Cond.steady])) hini)
  obtain ⟨hx, hb, hml, ho, -⟩ := S
  intro T hT X
  rcases vx_callSX X hx (hh := hh) (bytes := bytes) (maxL := maxL) (ret := ret) ho hl hstt hini hcode hy hK hg (hsize.trans hml.symm) (argsL := As) (rest := rest) (fun sig h => hn.trans (hlen sig h)) hstack hW (by rw [hb]; exact hdg)
    (fun vm₁ hW₁ => ⟨hf.1, hf.2, hp.2 (T.setVm vm₁) hT hW₁⟩) with ⟨v, vm₁, ⟨U', l2, c2, s2⟩, hW₁, X', ⟨g', mk, t, L, e1, e2, hq, h1, hL, h2, h3⟩, st⟩ | ⟨q, vm₁, ⟨U', l2, c2, s2⟩, hW₁, X', ⟨g', mk, t, L, E, ce, e1, e2, hq, hce, hcv, hcl, h1, hL, h2, h3⟩, st⟩
  · dsimp only [Pt.U, Pt.locs, Pt.cells, Pt.slots] at X' e1 e2 h1 h2 h3 st
    subst h1; subst h2; subst h3
    exact Or.inl ⟨v, (T.setVm vm₁).calling g' mk As.toArray, t, U', L, hT, X', hL, e1, e2, hq, st⟩
  · dsimp only [Pt.U, Pt.locs, Pt.cells, Pt.slots] at X' e1 e2 h1 h2 h3 st hcl
    subst h1; subst h2; subst h3
    exact Or.inr ⟨q, (T.setVm vm₁).calling g' mk As.toArray, t, U', L, E, ce, hT, X', hL, e1, e2, hq, hce, hcv, vx_cls hW₁ hcl, st⟩
end
end VXH
theorem vx_ofWH {l : Launch} {y : MethodName} {ws ws' : List Cond} {rm : Room} {Pc : Array Value → State → Prop} {Qc : Array Value → State → Outcome → State → Prop} {XC : String → State → State → Prop} {mc ms : Nat} {free : Addr → Prop} {cc : ByteArray} {maxL : Nat} {ret : Option FieldType} {hh : List (Nat × Nat × Nat × Nat)}
    (hy : plainName y.cls = true) (hw : ws = Cond.codeWith y cc maxL ret hh :: ws')
    (body : ∀ p e s m args below meth c s₁, BodyLoose p l y (headSpec ws rm) cc maxL ret e s m args below meth c s₁ → c.maxLocals = maxL → Pc args s →
      W p l e (headSpec ws rm).room s m args below meth c s.heap [] 0 0 (vx_MQ below Qc XC args s mc ms free) (entryFrame m args maxL)) : vx_Met l y ws rm Pc Qc XC mc ms free := by
  refine MetFree.of_bodyS (code := cc) (maxLocals := maxL) (ret := ret) hy ?_ ?_
  · intro args s m h hn
    obtain ⟨m9, meth, c, hn9, h1, h2, h3, h4, -, h5, h6, -⟩ := Cond.codeWith_spec (atoms_spec (ws := ws) h _ (by rw [hw]; exact List.mem_cons_self))
    cases hn.symm.trans hn9
    exact ⟨meth, c, h1, h2, h3, h4, h5, h6⟩
  · intro p e s m args below meth c s₁ B hml hP _
    have hh0 : s₁.heap = s.heap := by rw [B.state]; rfl
    obtain ⟨t, a1, o, b1, b2, b3⟩ := body p e s m args below meth c s₁ B hml hP s₁ hh0 (Stand.of_body B)
    exact ⟨t, o, a1, b1, b2, b3⟩
/-! ===== END ===== -/
end
section
/-! ===== BEGIN printed: names, fields, word lists, decode rows ===== -/
def RX0 : String := "CampBook$Badges"
def TX0 : u_T := fun k => match k with
  | 0 => ("CampBook$Badges", "size", "I", false)
  | 1 => ("CampBook$Badges", "leastAge", "[I", true)
  | _ => ("CampBook$Badges", "wants", "[I", true)
def tyX0 : Nat → FieldType := fun k => match k with
  | 0 => .int
  | 1 => .array .int
  | _ => .array .int
abbrev wsX00 : List Cond := u_ws RX0 TX0 3
theorem nmX0 : ∀ a, a < 3 → ∀ b, b < 3 → a ≠ b → (TX0 a).2.1 ≠ (TX0 b).2.1 := by decide +kernel
theorem tyX0_ok : ∀ k, k < 3 → parseFieldDescriptor (TX0 k).2.2.1 = some (tyX0 k) := by decide +kernel
abbrev cX0_init : ByteArray := prog_2_method_1_code
def yX0_init : MethodName := ⟨RX0, "<init>", "()V"⟩
abbrev cX0_distance : ByteArray := prog_2_method_2_code
def yX0_distance : MethodName := ⟨RX0, "distance", "(IILCampBook$People;)I"⟩
abbrev cX0_hoursLacking : ByteArray := prog_2_method_3_code
def yX0_hoursLacking : MethodName := ⟨RX0, "hoursLacking", "(IILCampBook$People;)I"⟩
def RX1 : String := "CampBook$Duties"
def TX1 : u_T := fun k => match k with
  | 0 => ("CampBook$Duties", "holders", "[I", true)
  | _ => ("CampBook$Duties", "points", "[I", true)
def tyX1 : Nat → FieldType := fun k => match k with
  | 0 => .array .int
  | _ => .array .int
abbrev wsX10 : List Cond := u_ws RX1 TX1 2
theorem nmX1 : ∀ a, a < 2 → ∀ b, b < 2 → a ≠ b → (TX1 a).2.1 ≠ (TX1 b).2.1 := by decide +kernel
theorem tyX1_ok : ∀ k, k < 2 → parseFieldDescriptor (TX1 k).2.2.1 = some (tyX1 k) := by decide +kernel
abbrev cX1_init : ByteArray := prog_3_method_1_code
def yX1_init : MethodName := ⟨RX1, "<init>", "()V"⟩
abbrev cX1_holderOn : ByteArray := prog_3_method_2_code
def yX1_holderOn : MethodName := ⟨RX1, "holderOn", "(II)I"⟩
abbrev cX1_canBeGiven : ByteArray := prog_3_method_3_code
def yX1_canBeGiven : MethodName := ⟨RX1, "canBeGiven", "(IIILCampBook$People;)Z"⟩
abbrev cX1_hasFitScout : ByteArray := prog_3_method_4_code
def yX1_hasFitScout : MethodName := ⟨RX1, "hasFitScout", "(IILCampBook$People;)Z"⟩
abbrev cX1_doesOther : ByteArray := prog_3_method_5_code
def yX1_doesOther : MethodName := ⟨RX1, "doesOther", "(III)Z"⟩
abbrev cX1_assign : ByteArray := prog_3_method_6_code
def yX1_assign : MethodName := ⟨RX1, "assign", "(III)V"⟩
abbrev cX1_bestFor : ByteArray := prog_3_method_7_code
def yX1_bestFor : MethodName := ⟨RX1, "bestFor", "(IILCampBook$People;)I"⟩
abbrev cX1_openOn : ByteArray := prog_3_method_8_code
def yX1_openOn : MethodName := ⟨RX1, "openOn", "(I)I"⟩
def RX2 : String := "CampBook$Kitchen"
def TX2 : u_T := fun k => match k with
  | 0 => ("CampBook$Kitchen", "foods", "I", false)
  | 1 => ("CampBook$Kitchen", "meals", "I", false)
  | 2 => ("CampBook$Kitchen", "mealsToday", "I", false)
  | 3 => ("CampBook$Kitchen", "ateToday", "J", false)
  | 4 => ("CampBook$Kitchen", "stores", "[I", true)
  | _ => ("CampBook$Kitchen", "needs", "[I", true)
def tyX2 : Nat → FieldType := fun k => match k with
  | 0 => .int
  | 1 => .int
  | 2 => .int
  | 3 => .long
  | 4 => .array .int
  | _ => .array .int
abbrev wsX20 : List Cond := u_ws RX2 TX2 6
theorem nmX2 : ∀ a, a < 6 → ∀ b, b < 6 → a ≠ b → (TX2 a).2.1 ≠ (TX2 b).2.1 := by decide +kernel
theorem tyX2_ok : ∀ k, k < 6 → parseFieldDescriptor (TX2 k).2.2.1 = some (tyX2 k) := by decide +kernel
abbrev cX2_init : ByteArray := prog_4_method_1_code
def yX2_init : MethodName := ⟨RX2, "<init>", "()V"⟩
abbrev cX2_needOf : ByteArray := prog_4_method_2_code
def yX2_needOf : MethodName := ⟨RX2, "needOf", "(II)I"⟩
abbrev cX2_foodsOf : ByteArray := prog_4_method_3_code
def yX2_foodsOf : MethodName := ⟨RX2, "foodsOf", "(I)I"⟩
abbrev cX2_eatersOf : ByteArray := prog_4_method_4_code
def yX2_eatersOf : MethodName := ⟨RX2, "eatersOf", "(ILCampBook$People;)J"⟩
abbrev cX2_canBeEaten : ByteArray := prog_4_method_5_code
def yX2_canBeEaten : MethodName := ⟨RX2, "canBeEaten", "(ILCampBook$People;)Z"⟩
abbrev cX2_isStocked : ByteArray := prog_4_method_6_code
def yX2_isStocked : MethodName := ⟨RX2, "isStocked", "(II)Z"⟩
abbrev cX2_serve : ByteArray := prog_4_method_7_code
def yX2_serve : MethodName := ⟨RX2, "serve", "(ILCampBook$People;)I"⟩
abbrev cX2_bestMeal : ByteArray := prog_4_method_8_code
def yX2_bestMeal : MethodName := ⟨RX2, "bestMeal", "(LCampBook$People;)I"⟩
abbrev cX2_clearTable : ByteArray := prog_4_method_9_code
def yX2_clearTable : MethodName := ⟨RX2, "clearTable", "()V"⟩
def RX3 : String := "CampBook$People"
def TX3 : u_T := fun k => match k with
  | 0 => ("CampBook$People", "patrols", "I", false)
  | 1 => ("CampBook$People", "scouts", "I", false)
  | 2 => ("CampBook$People", "patrol", "[I", true)
  | 3 => ("CampBook$People", "age", "[I", true)
  | 4 => ("CampBook$People", "skills", "[I", true)
  | 5 => ("CampBook$People", "refused", "[I", true)
  | 6 => ("CampBook$People", "badges", "[I", true)
  | _ => ("CampBook$People", "hours", "[I", true)
def tyX3 : Nat → FieldType := fun k => match k with
  | 0 => .int
  | 1 => .int
  | 2 => .array .int
  | 3 => .array .int
  | 4 => .array .int
  | 5 => .array .int
  | 6 => .array .int
  | _ => .array .int
abbrev wsX30 : List Cond := u_ws RX3 TX3 8
theorem nmX3 : ∀ a, a < 8 → ∀ b, b < 8 → a ≠ b → (TX3 a).2.1 ≠ (TX3 b).2.1 := by decide +kernel
theorem tyX3_ok : ∀ k, k < 8 → parseFieldDescriptor (TX3 k).2.2.1 = some (tyX3 k) := by decide +kernel
abbrev cX3_init : ByteArray := prog_5_method_1_code
def yX3_init : MethodName := ⟨RX3, "<init>", "()V"⟩
abbrev cX3_enrol : ByteArray := prog_5_method_2_code
def yX3_enrol : MethodName := ⟨RX3, "enrol", "(III)I"⟩
abbrev cX3_hoursIn : ByteArray := prog_5_method_3_code
def yX3_hoursIn : MethodName := ⟨RX3, "hoursIn", "(II)I"⟩
abbrev cX3_allHours : ByteArray := prog_5_method_4_code
def yX3_allHours : MethodName := ⟨RX3, "allHours", "(I)I"⟩
abbrev cX3_train : ByteArray := prog_5_method_5_code
def yX3_train : MethodName := ⟨RX3, "train", "(III)I"⟩
abbrev cX3_everyone : ByteArray := prog_5_method_6_code
def yX3_everyone : MethodName := ⟨RX3, "everyone", "()J"⟩
abbrev cX3_membersOf : ByteArray := prog_5_method_7_code
def yX3_membersOf : MethodName := ⟨RX3, "membersOf", "(I)J"⟩
abbrev cX3_agedAtLeast : ByteArray := prog_5_method_8_code
def yX3_agedAtLeast : MethodName := ⟨RX3, "agedAtLeast", "(I)J"⟩
abbrev cX3_skilledIn : ByteArray := prog_5_method_9_code
def yX3_skilledIn : MethodName := ⟨RX3, "skilledIn", "(I)J"⟩
abbrev cX3_paceOf : ByteArray := prog_5_method_10_code
def yX3_paceOf : MethodName := ⟨RX3, "paceOf", "(I)I"⟩
abbrev cX3_slowestPace : ByteArray := prog_5_method_11_code
def yX3_slowestPace : MethodName := ⟨RX3, "slowestPace", "(J)I"⟩
def RX4 : String := "CampBook$Tents"
def TX4 : u_T := fun k => match k with
  | 0 => ("CampBook$Tents", "size", "I", false)
  | 1 => ("CampBook$Tents", "places", "[I", true)
  | _ => ("CampBook$Tents", "sleepers", "[J", true)
def tyX4 : Nat → FieldType := fun k => match k with
  | 0 => .int
  | 1 => .array .int
  | _ => .array .long
abbrev wsX40 : List Cond := u_ws RX4 TX4 3
theorem nmX4 : ∀ a, a < 3 → ∀ b, b < 3 → a ≠ b → (TX4 a).2.1 ≠ (TX4 b).2.1 := by decide +kernel
theorem tyX4_ok : ∀ k, k < 3 → parseFieldDescriptor (TX4 k).2.2.1 = some (tyX4 k) := by decide +kernel
abbrev cX4_init : ByteArray := prog_6_method_1_code
def yX4_init : MethodName := ⟨RX4, "<init>", "()V"⟩
abbrev cX4_pitch : ByteArray := prog_6_method_2_code
def yX4_pitch : MethodName := ⟨RX4, "pitch", "(I)I"⟩
abbrev cX4_tentOf : ByteArray := prog_6_method_3_code
def yX4_tentOf : MethodName := ⟨RX4, "tentOf", "(I)I"⟩
abbrev cX4_leave : ByteArray := prog_6_method_4_code
def yX4_leave : MethodName := ⟨RX4, "leave", "(II)V"⟩
abbrev cX4_enter : ByteArray := prog_6_method_5_code
def yX4_enter : MethodName := ⟨RX4, "enter", "(II)V"⟩
abbrev cX4_allSleepers : ByteArray := prog_6_method_6_code
def yX4_allSleepers : MethodName := ⟨RX4, "allSleepers", "()I"⟩
abbrev cX4_canTake : ByteArray := prog_6_method_7_code
def yX4_canTake : MethodName := ⟨RX4, "canTake", "(IILCampBook$People;)Z"⟩
abbrev cX4_agesFit : ByteArray := prog_6_method_8_code
def yX4_agesFit : MethodName := ⟨RX4, "agesFit", "(IILCampBook$People;)Z"⟩
abbrev cX4_bestFor : ByteArray := prog_6_method_9_code
def yX4_bestFor : MethodName := ⟨RX4, "bestFor", "(ILCampBook$People;)I"⟩
abbrev cX4_rankOf : ByteArray := prog_6_method_10_code
def yX4_rankOf : MethodName := ⟨RX4, "rankOf", "(IJ)I"⟩
def RX5 : String := "CampBook"
def TX5 : u_T := fun k => match k with
  | 0 => ("CampBook", "people", "LCampBook$People;", true)
  | 1 => ("CampBook", "tents", "LCampBook$Tents;", true)
  | 2 => ("CampBook", "duties", "LCampBook$Duties;", true)
  | 3 => ("CampBook", "kitchen", "LCampBook$Kitchen;", true)
  | 4 => ("CampBook", "badges", "LCampBook$Badges;", true)
  | _ => ("CampBook", "today", "I", false)
def tyX5 : Nat → FieldType := fun k => match k with
  | 0 => .object "CampBook$People"
  | 1 => .object "CampBook$Tents"
  | 2 => .object "CampBook$Duties"
  | 3 => .object "CampBook$Kitchen"
  | 4 => .object "CampBook$Badges"
  | _ => .int
abbrev wsX50 : List Cond := u_ws RX5 TX5 6
theorem nmX5 : ∀ a, a < 6 → ∀ b, b < 6 → a ≠ b → (TX5 a).2.1 ≠ (TX5 b).2.1 := by decide +kernel
theorem tyX5_ok : ∀ k, k < 6 → parseFieldDescriptor (TX5 k).2.2.1 = some (tyX5 k) := by decide +kernel
abbrev cX5_init : ByteArray := prog_1_method_1_code
def yX5_init : MethodName := ⟨RX5, "<init>", "()V"⟩
abbrev cX5_addPatrol : ByteArray := prog_1_method_2_code
def yX5_addPatrol : MethodName := ⟨RX5, "addPatrol", "()I"⟩
abbrev cX5_addScout : ByteArray := prog_1_method_3_code
def yX5_addScout : MethodName := ⟨RX5, "addScout", "(III)I"⟩
abbrev cX5_scout : ByteArray := prog_1_method_4_code
def yX5_scout : MethodName := ⟨RX5, "scout", "(II)I"⟩
abbrev cX5_addTent : ByteArray := prog_1_method_5_code
def yX5_addTent : MethodName := ⟨RX5, "addTent", "(I)I"⟩
abbrev cX5_sleep : ByteArray := prog_1_method_6_code
def yX5_sleep : MethodName := ⟨RX5, "sleep", "(II)I"⟩
abbrev cX5_inTent : ByteArray := prog_1_method_7_code
def yX5_inTent : MethodName := ⟨RX5, "inTent", "(I)J"⟩
abbrev cX5_findTents : ByteArray := prog_1_method_8_code
def yX5_findTents : MethodName := ⟨RX5, "findTents", "()I"⟩
abbrev cX5_count : ByteArray := prog_1_method_9_code
def yX5_count : MethodName := ⟨RX5, "count", "(I)I"⟩
abbrev cX5_giveDuty : ByteArray := prog_1_method_10_code
def yX5_giveDuty : MethodName := ⟨RX5, "giveDuty", "(III)I"⟩
abbrev cX5_duty : ByteArray := prog_1_method_11_code
def yX5_duty : MethodName := ⟨RX5, "duty", "(II)I"⟩
abbrev cX5_points : ByteArray := prog_1_method_12_code
def yX5_points : MethodName := ⟨RX5, "points", "(I)I"⟩
abbrev cX5_findDuties : ByteArray := prog_1_method_13_code
def yX5_findDuties : MethodName := ⟨RX5, "findDuties", "()I"⟩
abbrev cX5_addFood : ByteArray := prog_1_method_14_code
def yX5_addFood : MethodName := ⟨RX5, "addFood", "(I)I"⟩
abbrev cX5_buy : ByteArray := prog_1_method_15_code
def yX5_buy : MethodName := ⟨RX5, "buy", "(II)I"⟩
abbrev cX5_store : ByteArray := prog_1_method_16_code
def yX5_store : MethodName := ⟨RX5, "store", "(I)I"⟩
abbrev cX5_diet : ByteArray := prog_1_method_17_code
def yX5_diet : MethodName := ⟨RX5, "diet", "(IIZ)Z"⟩
abbrev cX5_addMeal : ByteArray := prog_1_method_18_code
def yX5_addMeal : MethodName := ⟨RX5, "addMeal", "()I"⟩
abbrev cX5_need : ByteArray := prog_1_method_19_code
def yX5_need : MethodName := ⟨RX5, "need", "(III)I"⟩
abbrev cX5_eaters : ByteArray := prog_1_method_20_code
def yX5_eaters : MethodName := ⟨RX5, "eaters", "(I)J"⟩
abbrev cX5_lacks : ByteArray := prog_1_method_21_code
def yX5_lacks : MethodName := ⟨RX5, "lacks", "(III)I"⟩
abbrev cX5_eat : ByteArray := prog_1_method_22_code
def yX5_eat : MethodName := ⟨RX5, "eat", "(I)I"⟩
abbrev cX5_table : ByteArray := prog_1_method_23_code
def yX5_table : MethodName := ⟨RX5, "table", "(I)I"⟩
abbrev cX5_addBadge : ByteArray := prog_1_method_24_code
def yX5_addBadge : MethodName := ⟨RX5, "addBadge", "(I)I"⟩
abbrev cX5_want : ByteArray := prog_1_method_25_code
def yX5_want : MethodName := ⟨RX5, "want", "(III)I"⟩
abbrev cX5_practise : ByteArray := prog_1_method_26_code
def yX5_practise : MethodName := ⟨RX5, "practise", "(III)I"⟩
abbrev cX5_away : ByteArray := prog_1_method_27_code
def yX5_away : MethodName := ⟨RX5, "away", "(II)I"⟩
abbrev cX5_earn : ByteArray := prog_1_method_28_code
def yX5_earn : MethodName := ⟨RX5, "earn", "(II)I"⟩
abbrev cX5_hike : ByteArray := prog_1_method_29_code
def yX5_hike : MethodName := ⟨RX5, "hike", "(JII)I"⟩
abbrev cX5_end : ByteArray := prog_1_method_30_code
def yX5_end : MethodName := ⟨RX5, "end", "()I"⟩
abbrev cX5_day : ByteArray := prog_1_method_31_code
def yX5_day : MethodName := ⟨RX5, "day", "()I"⟩
abbrev cX5_meanAge : ByteArray := prog_1_method_32_code
def yX5_meanAge : MethodName := ⟨RX5, "meanAge", "()D"⟩
abbrev cX5_digest : ByteArray := prog_1_method_33_code
def yX5_digest : MethodName := ⟨RX5, "digest", "()J"⟩
abbrev cX5_checkNumber : ByteArray := prog_1_method_34_code
def yX5_checkNumber : MethodName := ⟨RX5, "checkNumber", "(II)V"⟩
abbrev cX5_checkNumberOrNone : ByteArray := prog_1_method_35_code
def yX5_checkNumberOrNone : MethodName := ⟨RX5, "checkNumberOrNone", "(II)V"⟩
abbrev cX5_checkArgument : ByteArray := prog_1_method_36_code
def yX5_checkArgument : MethodName := ⟨RX5, "checkArgument", "(III)V"⟩
abbrev cX5_factOf : ByteArray := prog_1_method_37_code
def yX5_factOf : MethodName := ⟨RX5, "factOf", "(II)I"⟩
abbrev cX5_countOf : ByteArray := prog_1_method_38_code
def yX5_countOf : MethodName := ⟨RX5, "countOf", "(I)I"⟩
abbrev cX5_scoutsWithoutTent : ByteArray := prog_1_method_39_code
def yX5_scoutsWithoutTent : MethodName := ⟨RX5, "scoutsWithoutTent", "()I"⟩
abbrev cX5_hungryScouts : ByteArray := prog_1_method_40_code
def yX5_hungryScouts : MethodName := ⟨RX5, "hungryScouts", "()I"⟩
abbrev cX5_withPeople : ByteArray := prog_1_method_41_code
def yX5_withPeople : MethodName := ⟨RX5, "withPeople", "(J)J"⟩
abbrev cX5_withKitchen : ByteArray := prog_1_method_42_code
def yX5_withKitchen : MethodName := ⟨RX5, "withKitchen", "(J)J"⟩
abbrev cX5_mixed : ByteArray := prog_1_method_43_code
def yX5_mixed : MethodName := ⟨RX5, "mixed", "(JJ)J"⟩
def RX6 : String := "CampBookModel"
def TX6 : u_T := fun k => match k with
  | 0 => ("CampBookModel", "thrown", "I", false)
  | 1 => ("CampBookModel", "day", "I", false)
  | 2 => ("CampBookModel", "patrols", "I", false)
  | 3 => ("CampBookModel", "scouts", "I", false)
  | 4 => ("CampBookModel", "patrolOf", "[I", true)
  | 5 => ("CampBookModel", "ages", "[I", true)
  | 6 => ("CampBookModel", "skills", "[I", true)
  | 7 => ("CampBookModel", "avoids", "[I", true)
  | 8 => ("CampBookModel", "tentOf", "[I", true)
  | 9 => ("CampBookModel", "badgesOf", "[I", true)
  | 10 => ("CampBookModel", "hours", "[I", true)
  | 11 => ("CampBookModel", "hasEaten", "[Z", true)
  | 12 => ("CampBookModel", "tents", "I", false)
  | 13 => ("CampBookModel", "places", "[I", true)
  | 14 => ("CampBookModel", "duties", "[I", true)
  | 15 => ("CampBookModel", "foods", "I", false)
  | 16 => ("CampBookModel", "stores", "[I", true)
  | 17 => ("CampBookModel", "meals", "I", false)
  | 18 => ("CampBookModel", "units", "[I", true)
  | 19 => ("CampBookModel", "eaten", "I", false)
  | 20 => ("CampBookModel", "badges", "I", false)
  | 21 => ("CampBookModel", "badgeAges", "[I", true)
  | _ => ("CampBookModel", "wants", "[I", true)
def tyX6 : Nat → FieldType := fun k => match k with
  | 0 => .int
  | 1 => .int
  | 2 => .int
  | 3 => .int
  | 4 => .array .int
  | 5 => .array .int
  | 6 => .array .int
  | 7 => .array .int
  | 8 => .array .int
  | 9 => .array .int
  | 10 => .array .int
  | 11 => .array .boolean
  | 12 => .int
  | 13 => .array .int
  | 14 => .array .int
  | 15 => .int
  | 16 => .array .int
  | 17 => .int
  | 18 => .array .int
  | 19 => .int
  | 20 => .int
  | 21 => .array .int
  | _ => .array .int
abbrev wsX60 : List Cond := u_ws RX6 TX6 23
theorem nmX6 : ∀ a, a < 23 → ∀ b, b < 23 → a ≠ b → (TX6 a).2.1 ≠ (TX6 b).2.1 := by decide +kernel
theorem tyX6_ok : ∀ k, k < 23 → parseFieldDescriptor (TX6 k).2.2.1 = some (tyX6 k) := by decide +kernel
abbrev cX6_init : ByteArray := prog_8_method_1_code
def yX6_init : MethodName := ⟨RX6, "<init>", "()V"⟩
abbrev cX6_thrown : ByteArray := prog_8_method_2_code
def yX6_thrown : MethodName := ⟨RX6, "thrown", "()I"⟩
abbrev cX6_no : ByteArray := prog_8_method_3_code
def yX6_no : MethodName := ⟨RX6, "no", "(I)I"⟩
abbrev cX6_isIn : ByteArray := prog_8_method_4_code
def yX6_isIn : MethodName := ⟨RX6, "isIn", "(III)Z"⟩
abbrev cX6_isPatrol : ByteArray := prog_8_method_5_code
def yX6_isPatrol : MethodName := ⟨RX6, "isPatrol", "(I)Z"⟩
abbrev cX6_isScout : ByteArray := prog_8_method_6_code
def yX6_isScout : MethodName := ⟨RX6, "isScout", "(I)Z"⟩
abbrev cX6_isTent : ByteArray := prog_8_method_7_code
def yX6_isTent : MethodName := ⟨RX6, "isTent", "(I)Z"⟩
abbrev cX6_isFood : ByteArray := prog_8_method_8_code
def yX6_isFood : MethodName := ⟨RX6, "isFood", "(I)Z"⟩
abbrev cX6_isMeal : ByteArray := prog_8_method_9_code
def yX6_isMeal : MethodName := ⟨RX6, "isMeal", "(I)Z"⟩
abbrev cX6_isBadge : ByteArray := prog_8_method_10_code
def yX6_isBadge : MethodName := ⟨RX6, "isBadge", "(I)Z"⟩
abbrev cX6_addPatrol : ByteArray := prog_8_method_11_code
def yX6_addPatrol : MethodName := ⟨RX6, "addPatrol", "()I"⟩
abbrev cX6_addScout : ByteArray := prog_8_method_12_code
def yX6_addScout : MethodName := ⟨RX6, "addScout", "(III)I"⟩
abbrev cX6_hoursOf : ByteArray := prog_8_method_13_code
def yX6_hoursOf : MethodName := ⟨RX6, "hoursOf", "(I)I"⟩
abbrev cX6_told : ByteArray := prog_8_method_14_code
def yX6_told : MethodName := ⟨RX6, "told", "(II)I"⟩
abbrev cX6_scout : ByteArray := prog_8_method_15_code
def yX6_scout : MethodName := ⟨RX6, "scout", "(II)I"⟩
abbrev cX6_addTent : ByteArray := prog_8_method_16_code
def yX6_addTent : MethodName := ⟨RX6, "addTent", "(I)I"⟩
abbrev cX6_sleepers : ByteArray := prog_8_method_17_code
def yX6_sleepers : MethodName := ⟨RX6, "sleepers", "(II)I"⟩
abbrev cX6_canSleep : ByteArray := prog_8_method_18_code
def yX6_canSleep : MethodName := ⟨RX6, "canSleep", "(II)Z"⟩
abbrev cX6_sleep : ByteArray := prog_8_method_19_code
def yX6_sleep : MethodName := ⟨RX6, "sleep", "(II)I"⟩
abbrev cX6_in : ByteArray := prog_8_method_20_code
def yX6_in : MethodName := ⟨RX6, "in", "(I)J"⟩
abbrev cX6_inTent : ByteArray := prog_8_method_21_code
def yX6_inTent : MethodName := ⟨RX6, "inTent", "(I)J"⟩
abbrev cX6_bestTent : ByteArray := prog_8_method_22_code
def yX6_bestTent : MethodName := ⟨RX6, "bestTent", "(I)I"⟩
abbrev cX6_findTents : ByteArray := prog_8_method_23_code
def yX6_findTents : MethodName := ⟨RX6, "findTents", "()I"⟩
abbrev cX6_counted : ByteArray := prog_8_method_24_code
def yX6_counted : MethodName := ⟨RX6, "counted", "(I)I"⟩
abbrev cX6_count : ByteArray := prog_8_method_25_code
def yX6_count : MethodName := ⟨RX6, "count", "(I)I"⟩
abbrev cX6_at : ByteArray := prog_8_method_26_code
def yX6_at : MethodName := ⟨RX6, "at", "(II)I"⟩
abbrev cX6_hasScout : ByteArray := prog_8_method_27_code
def yX6_hasScout : MethodName := ⟨RX6, "hasScout", "(II)Z"⟩
abbrev cX6_canBeGiven : ByteArray := prog_8_method_28_code
def yX6_canBeGiven : MethodName := ⟨RX6, "canBeGiven", "(III)Z"⟩
abbrev cX6_giveDuty : ByteArray := prog_8_method_29_code
def yX6_giveDuty : MethodName := ⟨RX6, "giveDuty", "(III)I"⟩
abbrev cX6_duty : ByteArray := prog_8_method_30_code
def yX6_duty : MethodName := ⟨RX6, "duty", "(II)I"⟩
abbrev cX6_pointsOf : ByteArray := prog_8_method_31_code
def yX6_pointsOf : MethodName := ⟨RX6, "pointsOf", "(I)I"⟩
abbrev cX6_points : ByteArray := prog_8_method_32_code
def yX6_points : MethodName := ⟨RX6, "points", "(I)I"⟩
abbrev cX6_findDuties : ByteArray := prog_8_method_33_code
def yX6_findDuties : MethodName := ⟨RX6, "findDuties", "()I"⟩
abbrev cX6_addFood : ByteArray := prog_8_method_34_code
def yX6_addFood : MethodName := ⟨RX6, "addFood", "(I)I"⟩
abbrev cX6_buy : ByteArray := prog_8_method_35_code
def yX6_buy : MethodName := ⟨RX6, "buy", "(II)I"⟩
abbrev cX6_store : ByteArray := prog_8_method_36_code
def yX6_store : MethodName := ⟨RX6, "store", "(I)I"⟩
abbrev cX6_diet : ByteArray := prog_8_method_37_code
def yX6_diet : MethodName := ⟨RX6, "diet", "(IIZ)Z"⟩
abbrev cX6_addMeal : ByteArray := prog_8_method_38_code
def yX6_addMeal : MethodName := ⟨RX6, "addMeal", "()I"⟩
abbrev cX6_need : ByteArray := prog_8_method_39_code
def yX6_need : MethodName := ⟨RX6, "need", "(III)I"⟩
abbrev cX6_canEat : ByteArray := prog_8_method_40_code
def yX6_canEat : MethodName := ⟨RX6, "canEat", "(II)Z"⟩
abbrev cX6_eatersOf : ByteArray := prog_8_method_41_code
def yX6_eatersOf : MethodName := ⟨RX6, "eatersOf", "(IZ)I"⟩
abbrev cX6_setOf : ByteArray := prog_8_method_42_code
def yX6_setOf : MethodName := ⟨RX6, "setOf", "(I)J"⟩
abbrev cX6_eaters : ByteArray := prog_8_method_43_code
def yX6_eaters : MethodName := ⟨RX6, "eaters", "(I)J"⟩
abbrev cX6_lacks : ByteArray := prog_8_method_44_code
def yX6_lacks : MethodName := ⟨RX6, "lacks", "(III)I"⟩
abbrev cX6_canBeEaten : ByteArray := prog_8_method_45_code
def yX6_canBeEaten : MethodName := ⟨RX6, "canBeEaten", "(I)Z"⟩
abbrev cX6_eat : ByteArray := prog_8_method_46_code
def yX6_eat : MethodName := ⟨RX6, "eat", "(I)I"⟩
abbrev cX6_tableOf : ByteArray := prog_8_method_47_code
def yX6_tableOf : MethodName := ⟨RX6, "tableOf", "(I)I"⟩
abbrev cX6_table : ByteArray := prog_8_method_48_code
def yX6_table : MethodName := ⟨RX6, "table", "(I)I"⟩
abbrev cX6_addBadge : ByteArray := prog_8_method_49_code
def yX6_addBadge : MethodName := ⟨RX6, "addBadge", "(I)I"⟩
abbrev cX6_isActivity : ByteArray := prog_8_method_50_code
def yX6_isActivity : MethodName := ⟨RX6, "isActivity", "(I)Z"⟩
abbrev cX6_want : ByteArray := prog_8_method_51_code
def yX6_want : MethodName := ⟨RX6, "want", "(III)I"⟩
abbrev cX6_practise : ByteArray := prog_8_method_52_code
def yX6_practise : MethodName := ⟨RX6, "practise", "(III)I"⟩
abbrev cX6_awayFrom : ByteArray := prog_8_method_53_code
def yX6_awayFrom : MethodName := ⟨RX6, "awayFrom", "(II)I"⟩
abbrev cX6_away : ByteArray := prog_8_method_54_code
def yX6_away : MethodName := ⟨RX6, "away", "(II)I"⟩
abbrev cX6_earn : ByteArray := prog_8_method_55_code
def yX6_earn : MethodName := ⟨RX6, "earn", "(II)I"⟩
abbrev cX6_hike : ByteArray := prog_8_method_56_code
def yX6_hike : MethodName := ⟨RX6, "hike", "(JII)I"⟩
abbrev cX6_end : ByteArray := prog_8_method_57_code
def yX6_end : MethodName := ⟨RX6, "end", "()I"⟩
abbrev cX6_day : ByteArray := prog_8_method_58_code
def yX6_day : MethodName := ⟨RX6, "day", "()I"⟩
abbrev cX6_meanAge : ByteArray := prog_8_method_59_code
def yX6_meanAge : MethodName := ⟨RX6, "meanAge", "()D"⟩
abbrev cX6_digest : ByteArray := prog_8_method_60_code
def yX6_digest : MethodName := ⟨RX6, "digest", "()J"⟩
def RJx145de : String := "java/io/Serializable"
def TJx145de : u_T := fun k => match k with
  | _ => ("", "", "", false)
def tyJx145de : Nat → FieldType := fun k => match k with
  | _ => .int
abbrev wsJx145de0 : List Cond := u_ws RJx145de TJx145de 0
theorem nmJx145de : ∀ a, a < 0 → ∀ b, b < 0 → a ≠ b → (TJx145de a).2.1 ≠ (TJx145de b).2.1 := by decide +kernel
theorem tyJx145de_ok : ∀ k, k < 0 → parseFieldDescriptor (TJx145de k).2.2.1 = some (tyJx145de k) := by decide +kernel
def RJ6 : String := "java/lang/Integer"
def TJ6 : u_T := fun k => match k with
  | _ => ("", "", "", false)
def tyJ6 : Nat → FieldType := fun k => match k with
  | _ => .int
abbrev wsJ60 : List Cond := u_ws RJ6 TJ6 0
theorem nmJ6 : ∀ a, a < 0 → ∀ b, b < 0 → a ≠ b → (TJ6 a).2.1 ≠ (TJ6 b).2.1 := by decide +kernel
theorem tyJ6_ok : ∀ k, k < 0 → parseFieldDescriptor (TJ6 k).2.2.1 = some (tyJ6 k) := by decide +kernel
abbrev cJ6_bitCount_0f7a4 : ByteArray := prog_13_method_49_code
def yJ6_bitCount_0f7a4 : MethodName := ⟨RJ6, "bitCount", "(I)I"⟩
def RJ13 : String := "java/lang/Long"
def TJ13 : u_T := fun k => match k with
  | _ => ("", "", "", false)
def tyJ13 : Nat → FieldType := fun k => match k with
  | _ => .int
abbrev wsJ130 : List Cond := u_ws RJ13 TJ13 0
theorem nmJ13 : ∀ a, a < 0 → ∀ b, b < 0 → a ≠ b → (TJ13 a).2.1 ≠ (TJ13 b).2.1 := by decide +kernel
theorem tyJ13_ok : ∀ k, k < 0 → parseFieldDescriptor (TJ13 k).2.2.1 = some (tyJ13 k) := by decide +kernel
abbrev cJ13_bitCount_95d88 : ByteArray := prog_14_method_50_code
def yJ13_bitCount_95d88 : MethodName := ⟨RJ13, "bitCount", "(J)I"⟩
def RJ9 : String := "java/lang/Math"
def TJ9 : u_T := fun k => match k with
  | _ => ("", "", "", false)
def tyJ9 : Nat → FieldType := fun k => match k with
  | _ => .int
abbrev wsJ90 : List Cond := u_ws RJ9 TJ9 0
theorem nmJ9 : ∀ a, a < 0 → ∀ b, b < 0 → a ≠ b → (TJ9 a).2.1 ≠ (TJ9 b).2.1 := by decide +kernel
theorem tyJ9_ok : ∀ k, k < 0 → parseFieldDescriptor (TJ9 k).2.2.1 = some (tyJ9 k) := by decide +kernel
abbrev cJ9_abs_0f7a4 : ByteArray := prog_15_method_59_code
def yJ9_abs_0f7a4 : MethodName := ⟨RJ9, "abs", "(I)I"⟩
abbrev cJ9_max_7cf53 : ByteArray := prog_15_method_65_code
def yJ9_max_7cf53 : MethodName := ⟨RJ9, "max", "(II)I"⟩
def RJ0 : String := "java/lang/String"
def TJ0 : u_T := fun k => match k with
  | _ => ("", "", "", false)
def tyJ0 : Nat → FieldType := fun k => match k with
  | _ => .int
abbrev wsJ00 : List Cond := u_ws RJ0 TJ0 0
theorem nmJ0 : ∀ a, a < 0 → ∀ b, b < 0 → a ≠ b → (TJ0 a).2.1 ≠ (TJ0 b).2.1 := by decide +kernel
theorem tyJ0_ok : ∀ k, k < 0 → parseFieldDescriptor (TJ0 k).2.2.1 = some (tyJ0 k) := by decide +kernel
def RJ7 : String := "java/util/Arrays"
def TJ7 : u_T := fun k => match k with
  | _ => ("", "", "", false)
def tyJ7 : Nat → FieldType := fun k => match k with
  | _ => .int
abbrev wsJ70 : List Cond := u_ws RJ7 TJ7 0
theorem nmJ7 : ∀ a, a < 0 → ∀ b, b < 0 → a ≠ b → (TJ7 a).2.1 ≠ (TJ7 b).2.1 := by decide +kernel
theorem tyJ7_ok : ∀ k, k < 0 → parseFieldDescriptor (TJ7 k).2.2.1 = some (tyJ7 k) := by decide +kernel
abbrev cJ7_fill_53178 : ByteArray := prog_19_method_103_code
def yJ7_fill_53178 : MethodName := ⟨RJ7, "fill", "([II)V"⟩
def RL : String := "CampBookLaw"
abbrev cL_addPatrol : ByteArray := method_3_code
def yL_addPatrol : MethodName := ⟨RL, "addPatrol", "(LCampBook;[J)I"⟩
abbrev cL_addScout : ByteArray := method_4_code
def yL_addScout : MethodName := ⟨RL, "addScout", "(LCampBook;III[J)I"⟩
abbrev cL_scout : ByteArray := method_5_code
def yL_scout : MethodName := ⟨RL, "scout", "(LCampBook;II[J)I"⟩
abbrev cL_addTent : ByteArray := method_6_code
def yL_addTent : MethodName := ⟨RL, "addTent", "(LCampBook;I[J)I"⟩
abbrev cL_sleep : ByteArray := method_7_code
def yL_sleep : MethodName := ⟨RL, "sleep", "(LCampBook;II[J)I"⟩
abbrev cL_inTent : ByteArray := method_8_code
def yL_inTent : MethodName := ⟨RL, "inTent", "(LCampBook;I[J)I"⟩
abbrev cL_count : ByteArray := method_9_code
def yL_count : MethodName := ⟨RL, "count", "(LCampBook;I[J)I"⟩
abbrev cL_giveDuty : ByteArray := method_10_code
def yL_giveDuty : MethodName := ⟨RL, "giveDuty", "(LCampBook;III[J)I"⟩
abbrev cL_duty : ByteArray := method_11_code
def yL_duty : MethodName := ⟨RL, "duty", "(LCampBook;II[J)I"⟩
abbrev cL_points : ByteArray := method_12_code
def yL_points : MethodName := ⟨RL, "points", "(LCampBook;I[J)I"⟩
abbrev cL_addFood : ByteArray := method_13_code
def yL_addFood : MethodName := ⟨RL, "addFood", "(LCampBook;I[J)I"⟩
abbrev cL_buy : ByteArray := method_14_code
def yL_buy : MethodName := ⟨RL, "buy", "(LCampBook;II[J)I"⟩
abbrev cL_store : ByteArray := method_15_code
def yL_store : MethodName := ⟨RL, "store", "(LCampBook;I[J)I"⟩
abbrev cL_diet : ByteArray := method_16_code
def yL_diet : MethodName := ⟨RL, "diet", "(LCampBook;IIZ[J)I"⟩
abbrev cL_addMeal : ByteArray := method_17_code
def yL_addMeal : MethodName := ⟨RL, "addMeal", "(LCampBook;[J)I"⟩
abbrev cL_need : ByteArray := method_18_code
def yL_need : MethodName := ⟨RL, "need", "(LCampBook;III[J)I"⟩
abbrev cL_eaters : ByteArray := method_19_code
def yL_eaters : MethodName := ⟨RL, "eaters", "(LCampBook;I[J)I"⟩
abbrev cL_lacks : ByteArray := method_20_code
def yL_lacks : MethodName := ⟨RL, "lacks", "(LCampBook;III[J)I"⟩
abbrev cL_eat : ByteArray := method_21_code
def yL_eat : MethodName := ⟨RL, "eat", "(LCampBook;I[J)I"⟩
abbrev cL_table : ByteArray := method_22_code
def yL_table : MethodName := ⟨RL, "table", "(LCampBook;I[J)I"⟩
abbrev cL_addBadge : ByteArray := method_23_code
def yL_addBadge : MethodName := ⟨RL, "addBadge", "(LCampBook;I[J)I"⟩
abbrev cL_want : ByteArray := method_24_code
def yL_want : MethodName := ⟨RL, "want", "(LCampBook;III[J)I"⟩
abbrev cL_practise : ByteArray := method_25_code
def yL_practise : MethodName := ⟨RL, "practise", "(LCampBook;III[J)I"⟩
abbrev cL_away : ByteArray := method_26_code
def yL_away : MethodName := ⟨RL, "away", "(LCampBook;II[J)I"⟩
abbrev cL_earn : ByteArray := method_27_code
def yL_earn : MethodName := ⟨RL, "earn", "(LCampBook;II[J)I"⟩
abbrev cL_hike : ByteArray := method_28_code
def yL_hike : MethodName := ⟨RL, "hike", "(LCampBook;JII[J)I"⟩
abbrev cL_end : ByteArray := method_29_code
def yL_end : MethodName := ⟨RL, "end", "(LCampBook;[J)I"⟩
abbrev cL_law : ByteArray := code
def yL_law : MethodName := ⟨RL, "law", "([I)Z"⟩
def wsX0_init : List Cond := .code yX0_init cX0_init 1 none :: ([.methodLink RX0 3 objectInit, .instanceMethod objectInit, .code objectInit ⟨#[0xb1]⟩ 1 none, .arrayClass .int, .fieldLink RX0 9 "CampBook$Badges" "leastAge" "[I", .fieldLink RX0 15 "CampBook$Badges" "wants" "[I"] ++ wsX00)
def wsX3_hoursIn : List Cond := .code yX3_hoursIn cX3_hoursIn 3 (some .int) :: ([.fieldLink RX3 27 "CampBook$People" "hours" "[I"] ++ wsX30)
def wsX0_hoursLacking : List Cond := .code yX0_hoursLacking cX0_hoursLacking 7 (some .int) :: ([.fieldLink RX0 15 "CampBook$Badges" "wants" "[I", .methodLink RX0 34 Lib.Math.max.name, .static Lib.Math.max.name, .initialized "java/lang/Math", .code Lib.Math.max.name Lib.Math.max.code 2 (some .int), .methodLink RX0 30 yX3_hoursIn, .instanceMethod yX3_hoursIn, .selects RX3 yX3_hoursIn yX3_hoursIn, .initialized RX3, .code yX3_hoursIn cX3_hoursIn 3 (some .int), .fieldLink RX3 27 "CampBook$People" "hours" "[I"] ++ wsX00 ++ wsX30)
def wsX0_distance : List Cond := .code yX0_distance cX0_distance 4 (some .int) :: ([.fieldLink RX0 18 "CampBook$People" "age" "[I", .fieldLink RX0 9 "CampBook$Badges" "leastAge" "[I", .fieldLink RX0 23 "CampBook$People" "badges" "[I", .methodLink RX0 26 yX0_hoursLacking, .instanceMethod yX0_hoursLacking, .selects RX0 yX0_hoursLacking yX0_hoursLacking, .initialized RX0, .code yX0_hoursLacking cX0_hoursLacking 7 (some .int), .fieldLink RX0 15 "CampBook$Badges" "wants" "[I", .methodLink RX0 34 Lib.Math.max.name, .static Lib.Math.max.name, .initialized "java/lang/Math", .code Lib.Math.max.name Lib.Math.max.code 2 (some .int), .methodLink RX0 30 yX3_hoursIn, .instanceMethod yX3_hoursIn, .selects RX3 yX3_hoursIn yX3_hoursIn, .initialized RX3, .code yX3_hoursIn cX3_hoursIn 3 (some .int), .fieldLink RX3 27 "CampBook$People" "hours" "[I"] ++ wsX30 ++ wsX00)
def wsJ7_fill_53178 : List Cond := .code yJ7_fill_53178 cJ7_fill_53178 4 none :: ([])
def wsX1_init : List Cond := .code yX1_init cX1_init 1 none :: ([.methodLink RX1 3 objectInit, .instanceMethod objectInit, .code objectInit ⟨#[0xb1]⟩ 1 none, .arrayClass .int, .fieldLink RX1 11 "CampBook$Duties" "holders" "[I", .fieldLink RX1 15 "CampBook$Duties" "points" "[I", .methodLink RX1 18 yJ7_fill_53178, .static yJ7_fill_53178, .initialized RJ7, .code yJ7_fill_53178 cJ7_fill_53178 4 none] ++ wsX10)
def wsX1_holderOn : List Cond := .code yX1_holderOn cX1_holderOn 3 (some .int) :: ([.fieldLink RX1 11 "CampBook$Duties" "holders" "[I"] ++ wsX10)
def wsX3_membersOf : List Cond := .code yX3_membersOf cX3_membersOf 5 (some .long) :: ([.fieldLink RX3 30 "CampBook$People" "scouts" "I", .fieldLink RX3 9 "CampBook$People" "patrol" "[I"] ++ wsX30)
def wsX3_agedAtLeast : List Cond := .code yX3_agedAtLeast cX3_agedAtLeast 5 (some .long) :: ([.fieldLink RX3 30 "CampBook$People" "scouts" "I", .fieldLink RX3 15 "CampBook$People" "age" "[I"] ++ wsX30)
def wsX1_hasFitScout : List Cond := .code yX1_hasFitScout cX1_hasFitScout 5 (some .boolean) :: ([.methodLink RX1 36 yX3_membersOf, .instanceMethod yX3_membersOf, .selects RX3 yX3_membersOf yX3_membersOf, .initialized RX3, .code yX3_membersOf cX3_membersOf 5 (some .long), .fieldLink RX3 30 "CampBook$People" "scouts" "I", .fieldLink RX3 9 "CampBook$People" "patrol" "[I", .methodLink RX1 42 yX3_agedAtLeast, .instanceMethod yX3_agedAtLeast, .selects RX3 yX3_agedAtLeast yX3_agedAtLeast, .code yX3_agedAtLeast cX3_agedAtLeast 5 (some .long), .fieldLink RX3 15 "CampBook$People" "age" "[I"] ++ wsX30)
def wsX1_doesOther : List Cond := .code yX1_doesOther cX1_doesOther 5 (some .boolean) :: ([.methodLink RX1 32 yX1_holderOn, .instanceMethod yX1_holderOn, .selects RX1 yX1_holderOn yX1_holderOn, .initialized RX1, .code yX1_holderOn cX1_holderOn 3 (some .int), .fieldLink RX1 11 "CampBook$Duties" "holders" "[I"] ++ wsX10)
def wsX1_canBeGiven_r1 : List Cond := [Cond.methodLink RX1 24 yX1_hasFitScout, Cond.instanceMethod yX1_hasFitScout, Cond.selects RX1 yX1_hasFitScout yX1_hasFitScout, Cond.initialized RX1, Cond.code yX1_hasFitScout cX1_hasFitScout 5 (some .boolean), Cond.methodLink RX1 36 yX3_membersOf, Cond.instanceMethod yX3_membersOf, Cond.selects RX3 yX3_membersOf yX3_membersOf, Cond.initialized RX3, Cond.code yX3_membersOf cX3_membersOf 5 (some .long), Cond.fieldLink RX3 30 "CampBook$People" "scouts" "I", Cond.fieldLink RX3 9 "CampBook$People" "patrol" "[I", Cond.methodLink RX1 42 yX3_agedAtLeast, Cond.instanceMethod yX3_agedAtLeast, Cond.selects RX3 yX3_agedAtLeast yX3_agedAtLeast, Cond.code yX3_agedAtLeast cX3_agedAtLeast 5 (some .long), Cond.fieldLink RX3 15 "CampBook$People" "age" "[I", Cond.methodLink RX1 28 yX1_doesOther, Cond.instanceMethod yX1_doesOther, Cond.selects RX1 yX1_doesOther yX1_doesOther, Cond.code yX1_doesOther cX1_doesOther 5 (some .boolean), Cond.methodLink RX1 32 yX1_holderOn, Cond.instanceMethod yX1_holderOn, Cond.selects RX1 yX1_holderOn yX1_holderOn]
def wsX1_canBeGiven_r2 : List Cond := [Cond.code yX1_holderOn cX1_holderOn 3 (some .int), Cond.fieldLink RX1 11 "CampBook$Duties" "holders" "[I"]
def wsX1_canBeGiven : List Cond := .code yX1_canBeGiven cX1_canBeGiven 5 (some .boolean) :: ((wsX1_canBeGiven_r1 ++ wsX1_canBeGiven_r2) ++ wsX30 ++ wsX10)
def wsX1_assign : List Cond := .code yX1_assign cX1_assign 5 none :: ([.fieldLink RX1 15 "CampBook$Duties" "points" "[I", .fieldLink RX1 45 "CampBook$Duties" "POINTS" "[I", .fieldLink RX1 11 "CampBook$Duties" "holders" "[I", .methodLink RX1 32 yX1_holderOn, .instanceMethod yX1_holderOn, .selects RX1 yX1_holderOn yX1_holderOn, .initialized RX1, .code yX1_holderOn cX1_holderOn 3 (some .int)] ++ wsX10)
def wsX1_bestFor_r1 : List Cond := [Cond.fieldLink RX1 48 "CampBook$People" "patrols" "I", Cond.fieldLink RX1 15 "CampBook$Duties" "points" "[I", Cond.methodLink RX1 52 yX1_canBeGiven, Cond.instanceMethod yX1_canBeGiven, Cond.selects RX1 yX1_canBeGiven yX1_canBeGiven, Cond.initialized RX1, Cond.code yX1_canBeGiven cX1_canBeGiven 5 (some .boolean), Cond.methodLink RX1 24 yX1_hasFitScout, Cond.instanceMethod yX1_hasFitScout, Cond.selects RX1 yX1_hasFitScout yX1_hasFitScout, Cond.code yX1_hasFitScout cX1_hasFitScout 5 (some .boolean), Cond.methodLink RX1 36 yX3_membersOf, Cond.instanceMethod yX3_membersOf, Cond.selects RX3 yX3_membersOf yX3_membersOf, Cond.initialized RX3, Cond.code yX3_membersOf cX3_membersOf 5 (some .long), Cond.fieldLink RX3 30 "CampBook$People" "scouts" "I", Cond.fieldLink RX3 9 "CampBook$People" "patrol" "[I", Cond.methodLink RX1 42 yX3_agedAtLeast, Cond.instanceMethod yX3_agedAtLeast, Cond.selects RX3 yX3_agedAtLeast yX3_agedAtLeast, Cond.code yX3_agedAtLeast cX3_agedAtLeast 5 (some .long), Cond.fieldLink RX3 15 "CampBook$People" "age" "[I", Cond.methodLink RX1 28 yX1_doesOther]
def wsX1_bestFor_r2 : List Cond := [Cond.instanceMethod yX1_doesOther, Cond.selects RX1 yX1_doesOther yX1_doesOther, Cond.code yX1_doesOther cX1_doesOther 5 (some .boolean), Cond.methodLink RX1 32 yX1_holderOn, Cond.instanceMethod yX1_holderOn, Cond.selects RX1 yX1_holderOn yX1_holderOn, Cond.code yX1_holderOn cX1_holderOn 3 (some .int), Cond.fieldLink RX1 11 "CampBook$Duties" "holders" "[I"]
def wsX1_bestFor : List Cond := .code yX1_bestFor cX1_bestFor 7 (some .int) :: ((wsX1_bestFor_r1 ++ wsX1_bestFor_r2) ++ wsX30 ++ wsX10)
def wsX1_openOn : List Cond := .code yX1_openOn cX1_openOn 4 (some .int) :: ([.methodLink RX1 32 yX1_holderOn, .instanceMethod yX1_holderOn, .selects RX1 yX1_holderOn yX1_holderOn, .initialized RX1, .code yX1_holderOn cX1_holderOn 3 (some .int), .fieldLink RX1 11 "CampBook$Duties" "holders" "[I"] ++ wsX10)
def wsX2_init : List Cond := .code yX2_init cX2_init 1 none :: ([.methodLink RX2 3 objectInit, .instanceMethod objectInit, .code objectInit ⟨#[0xb1]⟩ 1 none, .arrayClass .int, .fieldLink RX2 9 "CampBook$Kitchen" "stores" "[I", .fieldLink RX2 15 "CampBook$Kitchen" "needs" "[I"] ++ wsX20)
def wsX2_needOf : List Cond := .code yX2_needOf cX2_needOf 3 (some .int) :: ([.fieldLink RX2 15 "CampBook$Kitchen" "needs" "[I"] ++ wsX20)
def wsX2_foodsOf : List Cond := .code yX2_foodsOf cX2_foodsOf 4 (some .int) :: ([.fieldLink RX2 18 "CampBook$Kitchen" "foods" "I", .methodLink RX2 22 yX2_needOf, .instanceMethod yX2_needOf, .selects RX2 yX2_needOf yX2_needOf, .initialized RX2, .code yX2_needOf cX2_needOf 3 (some .int), .fieldLink RX2 15 "CampBook$Kitchen" "needs" "[I"] ++ wsX20)
def wsX2_eatersOf : List Cond := .code yX2_eatersOf cX2_eatersOf 7 (some .long) :: ([.fieldLink RX2 30 "CampBook$People" "scouts" "I", .fieldLink RX2 35 "CampBook$People" "refused" "[I", .methodLink RX2 26 yX2_foodsOf, .instanceMethod yX2_foodsOf, .selects RX2 yX2_foodsOf yX2_foodsOf, .initialized RX2, .code yX2_foodsOf cX2_foodsOf 4 (some .int), .fieldLink RX2 18 "CampBook$Kitchen" "foods" "I", .methodLink RX2 22 yX2_needOf, .instanceMethod yX2_needOf, .selects RX2 yX2_needOf yX2_needOf, .code yX2_needOf cX2_needOf 3 (some .int), .fieldLink RX2 15 "CampBook$Kitchen" "needs" "[I"] ++ wsX30 ++ wsX20)
def wsJ13_bitCount_95d88 : List Cond := .code yJ13_bitCount_95d88 cJ13_bitCount_95d88 2 (some .int) :: ([.constantLong RJ13 314 (6148914691236517205), .constantLong RJ13 316 (3689348814741910323), .constantLong RJ13 318 (1085102592571150095)])
def wsX2_isStocked : List Cond := .code yX2_isStocked cX2_isStocked 4 (some .boolean) :: ([.fieldLink RX2 18 "CampBook$Kitchen" "foods" "I", .fieldLink RX2 9 "CampBook$Kitchen" "stores" "[I", .methodLink RX2 22 yX2_needOf, .instanceMethod yX2_needOf, .selects RX2 yX2_needOf yX2_needOf, .initialized RX2, .code yX2_needOf cX2_needOf 3 (some .int), .fieldLink RX2 15 "CampBook$Kitchen" "needs" "[I"] ++ wsX20)
def wsX2_canBeEaten_r1 : List Cond := [Cond.fieldLink RX2 48 "CampBook$Kitchen" "mealsToday" "I", Cond.methodLink RX2 38 yX2_eatersOf, Cond.instanceMethod yX2_eatersOf, Cond.selects RX2 yX2_eatersOf yX2_eatersOf, Cond.initialized RX2, Cond.code yX2_eatersOf cX2_eatersOf 7 (some .long), Cond.fieldLink RX2 30 "CampBook$People" "scouts" "I", Cond.fieldLink RX2 35 "CampBook$People" "refused" "[I", Cond.methodLink RX2 26 yX2_foodsOf, Cond.instanceMethod yX2_foodsOf, Cond.selects RX2 yX2_foodsOf yX2_foodsOf, Cond.code yX2_foodsOf cX2_foodsOf 4 (some .int), Cond.fieldLink RX2 18 "CampBook$Kitchen" "foods" "I", Cond.methodLink RX2 22 yX2_needOf, Cond.instanceMethod yX2_needOf, Cond.selects RX2 yX2_needOf yX2_needOf, Cond.code yX2_needOf cX2_needOf 3 (some .int), Cond.fieldLink RX2 15 "CampBook$Kitchen" "needs" "[I", Cond.methodLink RX2 42 yJ13_bitCount_95d88, Cond.static yJ13_bitCount_95d88, Cond.initialized RJ13, Cond.code yJ13_bitCount_95d88 cJ13_bitCount_95d88 2 (some .int), Cond.constantLong RJ13 314 (6148914691236517205), Cond.constantLong RJ13 316 (3689348814741910323)]
def wsX2_canBeEaten_r2 : List Cond := [Cond.constantLong RJ13 318 (1085102592571150095), Cond.methodLink RX2 51 yX2_isStocked, Cond.instanceMethod yX2_isStocked, Cond.selects RX2 yX2_isStocked yX2_isStocked, Cond.code yX2_isStocked cX2_isStocked 4 (some .boolean), Cond.fieldLink RX2 9 "CampBook$Kitchen" "stores" "[I"]
def wsX2_canBeEaten : List Cond := .code yX2_canBeEaten cX2_canBeEaten 4 (some .boolean) :: ((wsX2_canBeEaten_r1 ++ wsX2_canBeEaten_r2) ++ wsX20 ++ wsX30)
def wsX2_serve_r1 : List Cond := [Cond.fieldLink RX2 18 "CampBook$Kitchen" "foods" "I", Cond.fieldLink RX2 9 "CampBook$Kitchen" "stores" "[I", Cond.fieldLink RX2 55 "CampBook$Kitchen" "ateToday" "J", Cond.fieldLink RX2 48 "CampBook$Kitchen" "mealsToday" "I", Cond.methodLink RX2 38 yX2_eatersOf, Cond.instanceMethod yX2_eatersOf, Cond.selects RX2 yX2_eatersOf yX2_eatersOf, Cond.initialized RX2, Cond.code yX2_eatersOf cX2_eatersOf 7 (some .long), Cond.fieldLink RX2 30 "CampBook$People" "scouts" "I", Cond.fieldLink RX2 35 "CampBook$People" "refused" "[I", Cond.methodLink RX2 26 yX2_foodsOf, Cond.instanceMethod yX2_foodsOf, Cond.selects RX2 yX2_foodsOf yX2_foodsOf, Cond.code yX2_foodsOf cX2_foodsOf 4 (some .int), Cond.methodLink RX2 22 yX2_needOf, Cond.instanceMethod yX2_needOf, Cond.selects RX2 yX2_needOf yX2_needOf, Cond.code yX2_needOf cX2_needOf 3 (some .int), Cond.fieldLink RX2 15 "CampBook$Kitchen" "needs" "[I", Cond.methodLink RX2 42 yJ13_bitCount_95d88, Cond.static yJ13_bitCount_95d88, Cond.initialized RJ13, Cond.code yJ13_bitCount_95d88 cJ13_bitCount_95d88 2 (some .int)]
def wsX2_serve_r2 : List Cond := [Cond.constantLong RJ13 314 (6148914691236517205), Cond.constantLong RJ13 316 (3689348814741910323), Cond.constantLong RJ13 318 (1085102592571150095)]
def wsX2_serve : List Cond := .code yX2_serve cX2_serve 7 (some .int) :: ((wsX2_serve_r1 ++ wsX2_serve_r2) ++ wsX20 ++ wsX30)
def wsX2_bestMeal_r1 : List Cond := [Cond.fieldLink RX2 59 "CampBook$Kitchen" "meals" "I", Cond.fieldLink RX2 55 "CampBook$Kitchen" "ateToday" "J", Cond.constantLong RX2 62 (-1), Cond.methodLink RX2 38 yX2_eatersOf, Cond.instanceMethod yX2_eatersOf, Cond.selects RX2 yX2_eatersOf yX2_eatersOf, Cond.initialized RX2, Cond.code yX2_eatersOf cX2_eatersOf 7 (some .long), Cond.fieldLink RX2 30 "CampBook$People" "scouts" "I", Cond.fieldLink RX2 35 "CampBook$People" "refused" "[I", Cond.methodLink RX2 26 yX2_foodsOf, Cond.instanceMethod yX2_foodsOf, Cond.selects RX2 yX2_foodsOf yX2_foodsOf, Cond.code yX2_foodsOf cX2_foodsOf 4 (some .int), Cond.fieldLink RX2 18 "CampBook$Kitchen" "foods" "I", Cond.methodLink RX2 22 yX2_needOf, Cond.instanceMethod yX2_needOf, Cond.selects RX2 yX2_needOf yX2_needOf, Cond.code yX2_needOf cX2_needOf 3 (some .int), Cond.fieldLink RX2 15 "CampBook$Kitchen" "needs" "[I", Cond.methodLink RX2 42 yJ13_bitCount_95d88, Cond.static yJ13_bitCount_95d88, Cond.initialized RJ13, Cond.code yJ13_bitCount_95d88 cJ13_bitCount_95d88 2 (some .int)]
def wsX2_bestMeal_r2 : List Cond := [Cond.constantLong RJ13 314 (6148914691236517205), Cond.constantLong RJ13 316 (3689348814741910323), Cond.constantLong RJ13 318 (1085102592571150095), Cond.methodLink RX2 64 yX2_canBeEaten, Cond.instanceMethod yX2_canBeEaten, Cond.selects RX2 yX2_canBeEaten yX2_canBeEaten, Cond.code yX2_canBeEaten cX2_canBeEaten 4 (some .boolean), Cond.fieldLink RX2 48 "CampBook$Kitchen" "mealsToday" "I", Cond.methodLink RX2 51 yX2_isStocked, Cond.instanceMethod yX2_isStocked, Cond.selects RX2 yX2_isStocked yX2_isStocked, Cond.code yX2_isStocked cX2_isStocked 4 (some .boolean), Cond.fieldLink RX2 9 "CampBook$Kitchen" "stores" "[I"]
def wsX2_bestMeal : List Cond := .code yX2_bestMeal cX2_bestMeal 6 (some .int) :: ((wsX2_bestMeal_r1 ++ wsX2_bestMeal_r2) ++ wsX20 ++ wsX30)
def wsX2_clearTable : List Cond := .code yX2_clearTable cX2_clearTable 1 none :: ([.fieldLink RX2 48 "CampBook$Kitchen" "mealsToday" "I", .fieldLink RX2 55 "CampBook$Kitchen" "ateToday" "J"] ++ wsX20)
def wsX3_init : List Cond := .code yX3_init cX3_init 1 none :: ([.methodLink RX3 3 objectInit, .instanceMethod objectInit, .code objectInit ⟨#[0xb1]⟩ 1 none, .arrayClass .int, .fieldLink RX3 9 "CampBook$People" "patrol" "[I", .fieldLink RX3 15 "CampBook$People" "age" "[I", .fieldLink RX3 18 "CampBook$People" "skills" "[I", .fieldLink RX3 21 "CampBook$People" "refused" "[I", .fieldLink RX3 24 "CampBook$People" "badges" "[I", .fieldLink RX3 27 "CampBook$People" "hours" "[I"] ++ wsX30)
def wsX3_enrol : List Cond := .code yX3_enrol cX3_enrol 5 (some .int) :: ([.fieldLink RX3 30 "CampBook$People" "scouts" "I", .fieldLink RX3 9 "CampBook$People" "patrol" "[I", .fieldLink RX3 15 "CampBook$People" "age" "[I", .fieldLink RX3 18 "CampBook$People" "skills" "[I"] ++ wsX30)
def wsX3_allHours : List Cond := .code yX3_allHours cX3_allHours 4 (some .int) :: ([.methodLink RX3 34 yX3_hoursIn, .instanceMethod yX3_hoursIn, .selects RX3 yX3_hoursIn yX3_hoursIn, .initialized RX3, .code yX3_hoursIn cX3_hoursIn 3 (some .int), .fieldLink RX3 27 "CampBook$People" "hours" "[I"] ++ wsX30)
def wsX3_train : List Cond := .code yX3_train cX3_train 6 (some .int) :: ([.fieldLink RX3 30 "CampBook$People" "scouts" "I", .fieldLink RX3 9 "CampBook$People" "patrol" "[I", .fieldLink RX3 27 "CampBook$People" "hours" "[I"] ++ wsX30)
def wsX3_everyone : List Cond := .code yX3_everyone cX3_everyone 1 (some .long) :: ([.fieldLink RX3 30 "CampBook$People" "scouts" "I"] ++ wsX30)
def wsX3_skilledIn : List Cond := .code yX3_skilledIn cX3_skilledIn 5 (some .long) :: ([.fieldLink RX3 30 "CampBook$People" "scouts" "I", .fieldLink RX3 18 "CampBook$People" "skills" "[I"] ++ wsX30)
def wsX3_paceOf : List Cond := .code yX3_paceOf cX3_paceOf 3 (some .int) :: ([.fieldLink RX3 15 "CampBook$People" "age" "[I", .methodLink RX3 38 Lib.Math.max.name, .static Lib.Math.max.name, .initialized "java/lang/Math", .code Lib.Math.max.name Lib.Math.max.code 2 (some .int), .fieldLink RX3 18 "CampBook$People" "skills" "[I"] ++ wsX30)
def wsX3_slowestPace : List Cond := .code yX3_slowestPace cX3_slowestPace 5 (some .int) :: ([.fieldLink RX3 30 "CampBook$People" "scouts" "I", .methodLink RX3 38 Lib.Math.max.name, .static Lib.Math.max.name, .initialized "java/lang/Math", .code Lib.Math.max.name Lib.Math.max.code 2 (some .int), .methodLink RX3 43 yX3_paceOf, .instanceMethod yX3_paceOf, .selects RX3 yX3_paceOf yX3_paceOf, .initialized RX3, .code yX3_paceOf cX3_paceOf 3 (some .int), .fieldLink RX3 15 "CampBook$People" "age" "[I", .fieldLink RX3 18 "CampBook$People" "skills" "[I"] ++ wsX30)
def wsX4_init : List Cond := .code yX4_init cX4_init 1 none :: ([.methodLink RX4 3 objectInit, .instanceMethod objectInit, .code objectInit ⟨#[0xb1]⟩ 1 none, .arrayClass .int, .fieldLink RX4 9 "CampBook$Tents" "places" "[I", .arrayClass .long, .fieldLink RX4 15 "CampBook$Tents" "sleepers" "[J"] ++ wsX40)
def wsX4_pitch : List Cond := .code yX4_pitch cX4_pitch 3 (some .int) :: ([.fieldLink RX4 19 "CampBook$Tents" "size" "I", .fieldLink RX4 9 "CampBook$Tents" "places" "[I"] ++ wsX40)
def wsX4_tentOf : List Cond := .code yX4_tentOf cX4_tentOf 3 (some .int) :: ([.fieldLink RX4 19 "CampBook$Tents" "size" "I", .fieldLink RX4 15 "CampBook$Tents" "sleepers" "[J"] ++ wsX40)
def wsX4_leave : List Cond := .code yX4_leave cX4_leave 3 none :: ([.fieldLink RX4 15 "CampBook$Tents" "sleepers" "[J", .constantLong RX4 23 (-1)] ++ wsX40)
def wsX4_enter : List Cond := .code yX4_enter cX4_enter 3 none :: ([.fieldLink RX4 15 "CampBook$Tents" "sleepers" "[J"] ++ wsX40)
def wsX4_allSleepers : List Cond := .code yX4_allSleepers cX4_allSleepers 3 (some .int) :: ([.fieldLink RX4 19 "CampBook$Tents" "size" "I", .fieldLink RX4 15 "CampBook$Tents" "sleepers" "[J", .methodLink RX4 25 yJ13_bitCount_95d88, .static yJ13_bitCount_95d88, .initialized RJ13, .code yJ13_bitCount_95d88 cJ13_bitCount_95d88 2 (some .int), .constantLong RJ13 314 (6148914691236517205), .constantLong RJ13 316 (3689348814741910323), .constantLong RJ13 318 (1085102592571150095)] ++ wsX40)
def wsX4_agesFit : List Cond := .code yX4_agesFit cX4_agesFit 6 (some .boolean) :: ([.fieldLink RX4 35 "CampBook$People" "scouts" "I", .fieldLink RX4 15 "CampBook$Tents" "sleepers" "[J", .fieldLink RX4 40 "CampBook$People" "age" "[I", .methodLink RX4 43 Lib.Math.abs.name, .static Lib.Math.abs.name, .initialized "java/lang/Math", .code Lib.Math.abs.name Lib.Math.abs.code 1 (some .int)] ++ wsX30 ++ wsX40)
def wsX4_canTake : List Cond := .code yX4_canTake cX4_canTake 4 (some .boolean) :: ([.fieldLink RX4 15 "CampBook$Tents" "sleepers" "[J", .fieldLink RX4 9 "CampBook$Tents" "places" "[I", .methodLink RX4 25 yJ13_bitCount_95d88, .static yJ13_bitCount_95d88, .initialized RJ13, .code yJ13_bitCount_95d88 cJ13_bitCount_95d88 2 (some .int), .constantLong RJ13 314 (6148914691236517205), .constantLong RJ13 316 (3689348814741910323), .constantLong RJ13 318 (1085102592571150095), .methodLink RX4 31 yX4_agesFit, .instanceMethod yX4_agesFit, .selects RX4 yX4_agesFit yX4_agesFit, .initialized RX4, .code yX4_agesFit cX4_agesFit 6 (some .boolean), .fieldLink RX4 35 "CampBook$People" "scouts" "I", .fieldLink RX4 40 "CampBook$People" "age" "[I", .methodLink RX4 43 Lib.Math.abs.name, .static Lib.Math.abs.name, .initialized "java/lang/Math", .code Lib.Math.abs.name Lib.Math.abs.code 1 (some .int)] ++ wsX40 ++ wsX30)
def wsX4_rankOf : List Cond := .code yX4_rankOf cX4_rankOf 4 (some .int) :: ([.fieldLink RX4 15 "CampBook$Tents" "sleepers" "[J", .methodLink RX4 25 yJ13_bitCount_95d88, .static yJ13_bitCount_95d88, .initialized RJ13, .code yJ13_bitCount_95d88 cJ13_bitCount_95d88 2 (some .int), .constantLong RJ13 314 (6148914691236517205), .constantLong RJ13 316 (3689348814741910323), .constantLong RJ13 318 (1085102592571150095)] ++ wsX40)
def wsX4_bestFor_r1 : List Cond := [Cond.fieldLink RX4 49 "CampBook$People" "patrol" "[I", Cond.fieldLink RX4 19 "CampBook$Tents" "size" "I", Cond.methodLink RX4 52 yX3_membersOf, Cond.instanceMethod yX3_membersOf, Cond.selects RX3 yX3_membersOf yX3_membersOf, Cond.initialized RX3, Cond.code yX3_membersOf cX3_membersOf 5 (some .long), Cond.fieldLink RX3 30 "CampBook$People" "scouts" "I", Cond.fieldLink RX3 9 "CampBook$People" "patrol" "[I", Cond.methodLink RX4 56 yX4_rankOf, Cond.instanceMethod yX4_rankOf, Cond.selects RX4 yX4_rankOf yX4_rankOf, Cond.initialized RX4, Cond.code yX4_rankOf cX4_rankOf 4 (some .int), Cond.fieldLink RX4 15 "CampBook$Tents" "sleepers" "[J", Cond.methodLink RX4 25 yJ13_bitCount_95d88, Cond.static yJ13_bitCount_95d88, Cond.initialized RJ13, Cond.code yJ13_bitCount_95d88 cJ13_bitCount_95d88 2 (some .int), Cond.constantLong RJ13 314 (6148914691236517205), Cond.constantLong RJ13 316 (3689348814741910323), Cond.constantLong RJ13 318 (1085102592571150095), Cond.methodLink RX4 60 yX4_canTake, Cond.instanceMethod yX4_canTake]
def wsX4_bestFor_r2 : List Cond := [Cond.selects RX4 yX4_canTake yX4_canTake, Cond.code yX4_canTake cX4_canTake 4 (some .boolean), Cond.fieldLink RX4 9 "CampBook$Tents" "places" "[I", Cond.methodLink RX4 31 yX4_agesFit, Cond.instanceMethod yX4_agesFit, Cond.selects RX4 yX4_agesFit yX4_agesFit, Cond.code yX4_agesFit cX4_agesFit 6 (some .boolean), Cond.fieldLink RX4 35 "CampBook$People" "scouts" "I", Cond.fieldLink RX4 40 "CampBook$People" "age" "[I", Cond.methodLink RX4 43 Lib.Math.abs.name, Cond.static Lib.Math.abs.name, Cond.initialized "java/lang/Math", Cond.code Lib.Math.abs.name Lib.Math.abs.code 1 (some .int)]
def wsX4_bestFor : List Cond := .code yX4_bestFor cX4_bestFor 9 (some .int) :: ((wsX4_bestFor_r1 ++ wsX4_bestFor_r2) ++ wsX30 ++ wsX40)
def wsX5_init_r1 : List Cond := [Cond.methodLink RX5 1 objectInit, Cond.instanceMethod objectInit, Cond.code objectInit ⟨#[0xb1]⟩ 1 none, Cond.classLink RX5 7 RX3, Cond.instantiable RX3 8, Cond.initialized RX3, Cond.fieldLink RX5 10 "CampBook" "people" "LCampBook$People;", Cond.classLink RX5 16 RX4, Cond.instantiable RX4 3, Cond.initialized RX4, Cond.fieldLink RX5 19 "CampBook" "tents" "LCampBook$Tents;", Cond.classLink RX5 23 RX1, Cond.instantiable RX1 2, Cond.initialized RX1, Cond.fieldLink RX5 26 "CampBook" "duties" "LCampBook$Duties;", Cond.classLink RX5 30 RX2, Cond.instantiable RX2 6, Cond.initialized RX2, Cond.fieldLink RX5 33 "CampBook" "kitchen" "LCampBook$Kitchen;", Cond.classLink RX5 37 RX0, Cond.instantiable RX0 3, Cond.initialized RX0, Cond.fieldLink RX5 40 "CampBook" "badges" "LCampBook$Badges;", Cond.fieldLink RX5 44 "CampBook" "today" "I"]
def wsX5_init_r2 : List Cond := [Cond.instanceMethod yX3_init, Cond.code yX3_init cX3_init 1 none, Cond.methodLink RX3 3 objectInit, Cond.arrayClass .int, Cond.fieldLink RX3 9 "CampBook$People" "patrol" "[I", Cond.fieldLink RX3 15 "CampBook$People" "age" "[I", Cond.fieldLink RX3 18 "CampBook$People" "skills" "[I", Cond.fieldLink RX3 21 "CampBook$People" "refused" "[I", Cond.fieldLink RX3 24 "CampBook$People" "badges" "[I", Cond.fieldLink RX3 27 "CampBook$People" "hours" "[I", Cond.instanceMethod yX4_init, Cond.code yX4_init cX4_init 1 none, Cond.methodLink RX4 3 objectInit, Cond.fieldLink RX4 9 "CampBook$Tents" "places" "[I", Cond.arrayClass .long, Cond.fieldLink RX4 15 "CampBook$Tents" "sleepers" "[J", Cond.methodLink RX5 25 yX1_init, Cond.instanceMethod yX1_init, Cond.code yX1_init cX1_init 1 none, Cond.methodLink RX1 3 objectInit, Cond.fieldLink RX1 11 "CampBook$Duties" "holders" "[I", Cond.fieldLink RX1 15 "CampBook$Duties" "points" "[I", Cond.methodLink RX1 18 yJ7_fill_53178, Cond.static yJ7_fill_53178]
def wsX5_init_r3 : List Cond := [Cond.initialized RJ7, Cond.code yJ7_fill_53178 cJ7_fill_53178 4 none, Cond.instanceMethod yX2_init, Cond.code yX2_init cX2_init 1 none, Cond.methodLink RX2 3 objectInit, Cond.fieldLink RX2 9 "CampBook$Kitchen" "stores" "[I", Cond.fieldLink RX2 15 "CampBook$Kitchen" "needs" "[I", Cond.instanceMethod yX0_init, Cond.code yX0_init cX0_init 1 none, Cond.methodLink RX0 3 objectInit, Cond.fieldLink RX0 9 "CampBook$Badges" "leastAge" "[I", Cond.fieldLink RX0 15 "CampBook$Badges" "wants" "[I"]
def wsX5_init : List Cond := .code yX5_init cX5_init 1 none :: ((wsX5_init_r1 ++ (wsX5_init_r2 ++ wsX5_init_r3)) ++ wsX30 ++ wsX50 ++ wsX40 ++ wsX10 ++ wsX20 ++ wsX00)
def wsX5_addPatrol : List Cond := .code yX5_addPatrol cX5_addPatrol 1 (some .int) :: ([.classLink RX5 51 "java/lang/IllegalStateException", .initialized "java/lang/IllegalStateException", .fieldLink RX5 10 "CampBook" "people" "LCampBook$People;", .fieldLink RX5 48 "CampBook$People" "patrols" "I"] ++ wsX50 ++ wsX30 ++ (vx_atS RX5 55 "java/lang/IllegalStateException" ["java/lang/RuntimeException", "java/lang/Exception"]).filter goodWord)
def wsX5_checkNumber : List Cond := .code yX5_checkNumber cX5_checkNumber 2 none :: ([.classLink RX5 273 "java/lang/IndexOutOfBoundsException", .initialized "java/lang/IndexOutOfBoundsException"] ++ (vx_atS RX5 277 "java/lang/IndexOutOfBoundsException" ["java/lang/RuntimeException", "java/lang/Exception"]).filter goodWord)
def wsX5_checkArgument : List Cond := .code yX5_checkArgument cX5_checkArgument 3 none :: ([.classLink RX5 238 "java/lang/IllegalArgumentException", .initialized "java/lang/IllegalArgumentException"] ++ (vx_atS RX5 242 "java/lang/IllegalArgumentException" ["java/lang/RuntimeException", "java/lang/Exception"]).filter goodWord)
def wsX5_addScout_r1 : List Cond := [Cond.classLink RX5 51 "java/lang/IllegalStateException", Cond.initialized "java/lang/IllegalStateException", Cond.fieldLink RX5 10 "CampBook" "people" "LCampBook$People;", Cond.fieldLink RX5 48 "CampBook$People" "patrols" "I", Cond.fieldLink RX5 66 "CampBook$People" "scouts" "I", Cond.methodLink RX5 58 yX5_checkNumber, Cond.static yX5_checkNumber, Cond.initialized RX5, Cond.code yX5_checkNumber cX5_checkNumber 2 none, Cond.classLink RX5 273 "java/lang/IndexOutOfBoundsException", Cond.initialized "java/lang/IndexOutOfBoundsException", Cond.methodLink RX5 62 yX5_checkArgument, Cond.static yX5_checkArgument, Cond.code yX5_checkArgument cX5_checkArgument 3 none, Cond.classLink RX5 238 "java/lang/IllegalArgumentException", Cond.initialized "java/lang/IllegalArgumentException", Cond.methodLink RX5 71 yX3_enrol, Cond.instanceMethod yX3_enrol, Cond.selects RX3 yX3_enrol yX3_enrol, Cond.initialized RX3, Cond.code yX3_enrol cX3_enrol 5 (some .int), Cond.fieldLink RX3 30 "CampBook$People" "scouts" "I", Cond.fieldLink RX3 9 "CampBook$People" "patrol" "[I", Cond.fieldLink RX3 15 "CampBook$People" "age" "[I"]
def wsX5_addScout_r2 : List Cond := [Cond.fieldLink RX3 18 "CampBook$People" "skills" "[I"]
def wsX5_addScout : List Cond := .code yX5_addScout cX5_addScout 4 (some .int) :: ((wsX5_addScout_r1 ++ wsX5_addScout_r2) ++ wsX50 ++ wsX30 ++ (vx_atS RX5 55 "java/lang/IllegalStateException" ["java/lang/RuntimeException", "java/lang/Exception"]).filter goodWord ++ (vx_atS RX5 277 "java/lang/IndexOutOfBoundsException" ["java/lang/RuntimeException", "java/lang/Exception"]).filter goodWord ++ (vx_atS RX5 242 "java/lang/IllegalArgumentException" ["java/lang/RuntimeException", "java/lang/Exception"]).filter goodWord)
def wsX5_factOf : List Cond := .code yX5_factOf cX5_factOf 3 (some .int) :: ([.fieldLink RX5 10 "CampBook" "people" "LCampBook$People;", .fieldLink RX5 280 "CampBook$People" "patrol" "[I", .fieldLink RX5 112 "CampBook$People" "age" "[I", .fieldLink RX5 283 "CampBook$People" "skills" "[I", .fieldLink RX5 161 "CampBook$People" "refused" "[I", .fieldLink RX5 19 "CampBook" "tents" "LCampBook$Tents;", .fieldLink RX5 226 "CampBook$People" "badges" "[I", .methodLink RX5 91 yX4_tentOf, .instanceMethod yX4_tentOf, .selects RX4 yX4_tentOf yX4_tentOf, .initialized RX4, .code yX4_tentOf cX4_tentOf 3 (some .int), .fieldLink RX4 19 "CampBook$Tents" "size" "I", .fieldLink RX4 15 "CampBook$Tents" "sleepers" "[J", .methodLink RX5 286 yX3_allHours, .instanceMethod yX3_allHours, .selects RX3 yX3_allHours yX3_allHours, .initialized RX3, .code yX3_allHours cX3_allHours 4 (some .int), .methodLink RX3 34 yX3_hoursIn, .instanceMethod yX3_hoursIn, .selects RX3 yX3_hoursIn yX3_hoursIn, .code yX3_hoursIn cX3_hoursIn 3 (some .int), .fieldLink RX3 27 "CampBook$People" "hours" "[I"] ++ wsX50 ++ wsX30 ++ wsX40)
def wsX5_scout_r1 : List Cond := [Cond.fieldLink RX5 10 "CampBook" "people" "LCampBook$People;", Cond.fieldLink RX5 66 "CampBook$People" "scouts" "I", Cond.methodLink RX5 58 yX5_checkNumber, Cond.static yX5_checkNumber, Cond.initialized RX5, Cond.code yX5_checkNumber cX5_checkNumber 2 none, Cond.classLink RX5 273 "java/lang/IndexOutOfBoundsException", Cond.initialized "java/lang/IndexOutOfBoundsException", Cond.methodLink RX5 75 yX5_factOf, Cond.instanceMethod yX5_factOf, Cond.selects RX5 yX5_factOf yX5_factOf, Cond.code yX5_factOf cX5_factOf 3 (some .int), Cond.fieldLink RX5 280 "CampBook$People" "patrol" "[I", Cond.fieldLink RX5 112 "CampBook$People" "age" "[I", Cond.fieldLink RX5 283 "CampBook$People" "skills" "[I", Cond.fieldLink RX5 161 "CampBook$People" "refused" "[I", Cond.fieldLink RX5 19 "CampBook" "tents" "LCampBook$Tents;", Cond.fieldLink RX5 226 "CampBook$People" "badges" "[I", Cond.methodLink RX5 91 yX4_tentOf, Cond.instanceMethod yX4_tentOf, Cond.selects RX4 yX4_tentOf yX4_tentOf, Cond.initialized RX4, Cond.code yX4_tentOf cX4_tentOf 3 (some .int), Cond.fieldLink RX4 19 "CampBook$Tents" "size" "I"]
def wsX5_scout_r2 : List Cond := [Cond.fieldLink RX4 15 "CampBook$Tents" "sleepers" "[J", Cond.methodLink RX5 286 yX3_allHours, Cond.instanceMethod yX3_allHours, Cond.selects RX3 yX3_allHours yX3_allHours, Cond.initialized RX3, Cond.code yX3_allHours cX3_allHours 4 (some .int), Cond.methodLink RX3 34 yX3_hoursIn, Cond.instanceMethod yX3_hoursIn, Cond.selects RX3 yX3_hoursIn yX3_hoursIn, Cond.code yX3_hoursIn cX3_hoursIn 3 (some .int), Cond.fieldLink RX3 27 "CampBook$People" "hours" "[I"]
def wsX5_scout : List Cond := .code yX5_scout cX5_scout 3 (some .int) :: ((wsX5_scout_r1 ++ wsX5_scout_r2) ++ wsX50 ++ wsX30 ++ wsX40 ++ (vx_atS RX5 277 "java/lang/IndexOutOfBoundsException" ["java/lang/RuntimeException", "java/lang/Exception"]).filter goodWord)
def wsX5_addTent : List Cond := .code yX5_addTent cX5_addTent 2 (some .int) :: ([.classLink RX5 51 "java/lang/IllegalStateException", .initialized "java/lang/IllegalStateException", .fieldLink RX5 19 "CampBook" "tents" "LCampBook$Tents;", .fieldLink RX5 79 "CampBook$Tents" "size" "I", .methodLink RX5 62 yX5_checkArgument, .static yX5_checkArgument, .initialized RX5, .code yX5_checkArgument cX5_checkArgument 3 none, .classLink RX5 238 "java/lang/IllegalArgumentException", .initialized "java/lang/IllegalArgumentException", .methodLink RX5 84 yX4_pitch, .instanceMethod yX4_pitch, .selects RX4 yX4_pitch yX4_pitch, .initialized RX4, .code yX4_pitch cX4_pitch 3 (some .int), .fieldLink RX4 19 "CampBook$Tents" "size" "I", .fieldLink RX4 9 "CampBook$Tents" "places" "[I"] ++ wsX50 ++ wsX40 ++ (vx_atS RX5 55 "java/lang/IllegalStateException" ["java/lang/RuntimeException", "java/lang/Exception"]).filter goodWord ++ (vx_atS RX5 242 "java/lang/IllegalArgumentException" ["java/lang/RuntimeException", "java/lang/Exception"]).filter goodWord)
def wsX5_checkNumberOrNone : List Cond := .code yX5_checkNumberOrNone cX5_checkNumberOrNone 2 none :: ([.methodLink RX5 58 yX5_checkNumber, .static yX5_checkNumber, .initialized RX5, .code yX5_checkNumber cX5_checkNumber 2 none, .classLink RX5 273 "java/lang/IndexOutOfBoundsException", .initialized "java/lang/IndexOutOfBoundsException"] ++ (vx_atS RX5 277 "java/lang/IndexOutOfBoundsException" ["java/lang/RuntimeException", "java/lang/Exception"]).filter goodWord)
def wsX5_sleep_r1 : List Cond := [Cond.classLink RX5 51 "java/lang/IllegalStateException", Cond.initialized "java/lang/IllegalStateException", Cond.fieldLink RX5 10 "CampBook" "people" "LCampBook$People;", Cond.fieldLink RX5 66 "CampBook$People" "scouts" "I", Cond.fieldLink RX5 19 "CampBook" "tents" "LCampBook$Tents;", Cond.fieldLink RX5 79 "CampBook$Tents" "size" "I", Cond.methodLink RX5 58 yX5_checkNumber, Cond.static yX5_checkNumber, Cond.initialized RX5, Cond.code yX5_checkNumber cX5_checkNumber 2 none, Cond.classLink RX5 273 "java/lang/IndexOutOfBoundsException", Cond.initialized "java/lang/IndexOutOfBoundsException", Cond.methodLink RX5 88 yX5_checkNumberOrNone, Cond.static yX5_checkNumberOrNone, Cond.code yX5_checkNumberOrNone cX5_checkNumberOrNone 2 none, Cond.methodLink RX5 91 yX4_tentOf, Cond.instanceMethod yX4_tentOf, Cond.selects RX4 yX4_tentOf yX4_tentOf, Cond.initialized RX4, Cond.code yX4_tentOf cX4_tentOf 3 (some .int), Cond.fieldLink RX4 19 "CampBook$Tents" "size" "I", Cond.fieldLink RX4 15 "CampBook$Tents" "sleepers" "[J", Cond.methodLink RX5 96 yX4_canTake, Cond.instanceMethod yX4_canTake]
def wsX5_sleep_r2 : List Cond := [Cond.selects RX4 yX4_canTake yX4_canTake, Cond.code yX4_canTake cX4_canTake 4 (some .boolean), Cond.fieldLink RX4 9 "CampBook$Tents" "places" "[I", Cond.methodLink RX4 25 yJ13_bitCount_95d88, Cond.static yJ13_bitCount_95d88, Cond.initialized RJ13, Cond.code yJ13_bitCount_95d88 cJ13_bitCount_95d88 2 (some .int), Cond.constantLong RJ13 314 (6148914691236517205), Cond.constantLong RJ13 316 (3689348814741910323), Cond.constantLong RJ13 318 (1085102592571150095), Cond.methodLink RX4 31 yX4_agesFit, Cond.instanceMethod yX4_agesFit, Cond.selects RX4 yX4_agesFit yX4_agesFit, Cond.code yX4_agesFit cX4_agesFit 6 (some .boolean), Cond.fieldLink RX4 35 "CampBook$People" "scouts" "I", Cond.fieldLink RX4 40 "CampBook$People" "age" "[I", Cond.methodLink RX4 43 Lib.Math.abs.name, Cond.static Lib.Math.abs.name, Cond.initialized "java/lang/Math", Cond.code Lib.Math.abs.name Lib.Math.abs.code 1 (some .int), Cond.methodLink RX5 102 yX4_leave, Cond.instanceMethod yX4_leave, Cond.selects RX4 yX4_leave yX4_leave, Cond.code yX4_leave cX4_leave 3 none]
def wsX5_sleep_r3 : List Cond := [Cond.constantLong RX4 23 (-1), Cond.methodLink RX5 105 yX4_enter, Cond.instanceMethod yX4_enter, Cond.selects RX4 yX4_enter yX4_enter, Cond.code yX4_enter cX4_enter 3 none]
def wsX5_sleep : List Cond := .code yX5_sleep cX5_sleep 4 (some .int) :: ((wsX5_sleep_r1 ++ (wsX5_sleep_r2 ++ wsX5_sleep_r3)) ++ wsX50 ++ wsX30 ++ wsX40 ++ (vx_atS RX5 55 "java/lang/IllegalStateException" ["java/lang/RuntimeException", "java/lang/Exception"]).filter goodWord ++ (vx_atS RX5 277 "java/lang/IndexOutOfBoundsException" ["java/lang/RuntimeException", "java/lang/Exception"]).filter goodWord)
def wsX5_inTent : List Cond := .code yX5_inTent cX5_inTent 2 (some .long) :: ([.fieldLink RX5 19 "CampBook" "tents" "LCampBook$Tents;", .fieldLink RX5 79 "CampBook$Tents" "size" "I", .fieldLink RX5 108 "CampBook$Tents" "sleepers" "[J", .methodLink RX5 58 yX5_checkNumber, .static yX5_checkNumber, .initialized RX5, .code yX5_checkNumber cX5_checkNumber 2 none, .classLink RX5 273 "java/lang/IndexOutOfBoundsException", .initialized "java/lang/IndexOutOfBoundsException"] ++ wsX50 ++ wsX40 ++ (vx_atS RX5 277 "java/lang/IndexOutOfBoundsException" ["java/lang/RuntimeException", "java/lang/Exception"]).filter goodWord)
def wsX5_scoutsWithoutTent : List Cond := .code yX5_scoutsWithoutTent cX5_scoutsWithoutTent 1 (some .int) :: ([.fieldLink RX5 10 "CampBook" "people" "LCampBook$People;", .fieldLink RX5 66 "CampBook$People" "scouts" "I", .fieldLink RX5 19 "CampBook" "tents" "LCampBook$Tents;", .methodLink RX5 289 yX4_allSleepers, .instanceMethod yX4_allSleepers, .selects RX4 yX4_allSleepers yX4_allSleepers, .initialized RX4, .code yX4_allSleepers cX4_allSleepers 3 (some .int), .fieldLink RX4 19 "CampBook$Tents" "size" "I", .fieldLink RX4 15 "CampBook$Tents" "sleepers" "[J", .methodLink RX4 25 yJ13_bitCount_95d88, .static yJ13_bitCount_95d88, .initialized RJ13, .code yJ13_bitCount_95d88 cJ13_bitCount_95d88 2 (some .int), .constantLong RJ13 314 (6148914691236517205), .constantLong RJ13 316 (3689348814741910323), .constantLong RJ13 318 (1085102592571150095)] ++ wsX50 ++ wsX30 ++ wsX40)
def wsX5_findTents_r1 : List Cond := [Cond.fieldLink RX5 10 "CampBook" "people" "LCampBook$People;", Cond.fieldLink RX5 66 "CampBook$People" "scouts" "I", Cond.fieldLink RX5 112 "CampBook$People" "age" "[I", Cond.fieldLink RX5 19 "CampBook" "tents" "LCampBook$Tents;", Cond.methodLink RX5 91 yX4_tentOf, Cond.instanceMethod yX4_tentOf, Cond.selects RX4 yX4_tentOf yX4_tentOf, Cond.initialized RX4, Cond.code yX4_tentOf cX4_tentOf 3 (some .int), Cond.fieldLink RX4 19 "CampBook$Tents" "size" "I", Cond.fieldLink RX4 15 "CampBook$Tents" "sleepers" "[J", Cond.methodLink RX5 116 yX4_bestFor, Cond.instanceMethod yX4_bestFor, Cond.selects RX4 yX4_bestFor yX4_bestFor, Cond.code yX4_bestFor cX4_bestFor 9 (some .int), Cond.fieldLink RX4 49 "CampBook$People" "patrol" "[I", Cond.methodLink RX4 52 yX3_membersOf, Cond.instanceMethod yX3_membersOf, Cond.selects RX3 yX3_membersOf yX3_membersOf, Cond.initialized RX3, Cond.code yX3_membersOf cX3_membersOf 5 (some .long), Cond.fieldLink RX3 30 "CampBook$People" "scouts" "I", Cond.fieldLink RX3 9 "CampBook$People" "patrol" "[I", Cond.methodLink RX4 56 yX4_rankOf]
def wsX5_findTents_r2 : List Cond := [Cond.instanceMethod yX4_rankOf, Cond.selects RX4 yX4_rankOf yX4_rankOf, Cond.code yX4_rankOf cX4_rankOf 4 (some .int), Cond.methodLink RX4 25 yJ13_bitCount_95d88, Cond.static yJ13_bitCount_95d88, Cond.initialized RJ13, Cond.code yJ13_bitCount_95d88 cJ13_bitCount_95d88 2 (some .int), Cond.constantLong RJ13 314 (6148914691236517205), Cond.constantLong RJ13 316 (3689348814741910323), Cond.constantLong RJ13 318 (1085102592571150095), Cond.methodLink RX4 60 yX4_canTake, Cond.instanceMethod yX4_canTake, Cond.selects RX4 yX4_canTake yX4_canTake, Cond.code yX4_canTake cX4_canTake 4 (some .boolean), Cond.fieldLink RX4 9 "CampBook$Tents" "places" "[I", Cond.methodLink RX4 31 yX4_agesFit, Cond.instanceMethod yX4_agesFit, Cond.selects RX4 yX4_agesFit yX4_agesFit, Cond.code yX4_agesFit cX4_agesFit 6 (some .boolean), Cond.fieldLink RX4 35 "CampBook$People" "scouts" "I", Cond.fieldLink RX4 40 "CampBook$People" "age" "[I", Cond.methodLink RX4 43 Lib.Math.abs.name, Cond.static Lib.Math.abs.name, Cond.initialized "java/lang/Math"]
def wsX5_findTents_r3 : List Cond := [Cond.code Lib.Math.abs.name Lib.Math.abs.code 1 (some .int), Cond.methodLink RX5 105 yX4_enter, Cond.instanceMethod yX4_enter, Cond.selects RX4 yX4_enter yX4_enter, Cond.code yX4_enter cX4_enter 3 none, Cond.methodLink RX5 120 yX5_scoutsWithoutTent, Cond.instanceMethod yX5_scoutsWithoutTent, Cond.selects RX5 yX5_scoutsWithoutTent yX5_scoutsWithoutTent, Cond.initialized RX5, Cond.code yX5_scoutsWithoutTent cX5_scoutsWithoutTent 1 (some .int), Cond.methodLink RX5 289 yX4_allSleepers, Cond.instanceMethod yX4_allSleepers, Cond.selects RX4 yX4_allSleepers yX4_allSleepers, Cond.code yX4_allSleepers cX4_allSleepers 3 (some .int)]
def wsX5_findTents : List Cond := .code yX5_findTents cX5_findTents 3 (some .int) :: ((wsX5_findTents_r1 ++ (wsX5_findTents_r2 ++ wsX5_findTents_r3)) ++ wsX50 ++ wsX30 ++ wsX40)
def wsX5_countOf_r1 : List Cond := [Cond.fieldLink RX5 10 "CampBook" "people" "LCampBook$People;", Cond.fieldLink RX5 48 "CampBook$People" "patrols" "I", Cond.fieldLink RX5 66 "CampBook$People" "scouts" "I", Cond.fieldLink RX5 19 "CampBook" "tents" "LCampBook$Tents;", Cond.fieldLink RX5 79 "CampBook$Tents" "size" "I", Cond.fieldLink RX5 33 "CampBook" "kitchen" "LCampBook$Kitchen;", Cond.fieldLink RX5 151 "CampBook$Kitchen" "foods" "I", Cond.fieldLink RX5 164 "CampBook$Kitchen" "meals" "I", Cond.fieldLink RX5 40 "CampBook" "badges" "LCampBook$Badges;", Cond.fieldLink RX5 209 "CampBook$Badges" "size" "I", Cond.methodLink RX5 120 yX5_scoutsWithoutTent, Cond.instanceMethod yX5_scoutsWithoutTent, Cond.selects RX5 yX5_scoutsWithoutTent yX5_scoutsWithoutTent, Cond.initialized RX5, Cond.code yX5_scoutsWithoutTent cX5_scoutsWithoutTent 1 (some .int), Cond.methodLink RX5 289 yX4_allSleepers, Cond.instanceMethod yX4_allSleepers, Cond.selects RX4 yX4_allSleepers yX4_allSleepers, Cond.initialized RX4, Cond.code yX4_allSleepers cX4_allSleepers 3 (some .int), Cond.fieldLink RX4 19 "CampBook$Tents" "size" "I", Cond.fieldLink RX4 15 "CampBook$Tents" "sleepers" "[J", Cond.methodLink RX4 25 yJ13_bitCount_95d88, Cond.static yJ13_bitCount_95d88]
def wsX5_countOf_r2 : List Cond := [Cond.initialized RJ13, Cond.code yJ13_bitCount_95d88 cJ13_bitCount_95d88 2 (some .int), Cond.constantLong RJ13 314 (6148914691236517205), Cond.constantLong RJ13 316 (3689348814741910323), Cond.constantLong RJ13 318 (1085102592571150095)]
def wsX5_countOf : List Cond := .code yX5_countOf cX5_countOf 2 (some .int) :: ((wsX5_countOf_r1 ++ wsX5_countOf_r2) ++ wsX50 ++ wsX30 ++ wsX40 ++ wsX20 ++ wsX00)
def wsX5_count_r1 : List Cond := [Cond.methodLink RX5 58 yX5_checkNumber, Cond.static yX5_checkNumber, Cond.initialized RX5, Cond.code yX5_checkNumber cX5_checkNumber 2 none, Cond.classLink RX5 273 "java/lang/IndexOutOfBoundsException", Cond.initialized "java/lang/IndexOutOfBoundsException", Cond.methodLink RX5 124 yX5_countOf, Cond.instanceMethod yX5_countOf, Cond.selects RX5 yX5_countOf yX5_countOf, Cond.code yX5_countOf cX5_countOf 2 (some .int), Cond.fieldLink RX5 10 "CampBook" "people" "LCampBook$People;", Cond.fieldLink RX5 48 "CampBook$People" "patrols" "I", Cond.fieldLink RX5 66 "CampBook$People" "scouts" "I", Cond.fieldLink RX5 19 "CampBook" "tents" "LCampBook$Tents;", Cond.fieldLink RX5 79 "CampBook$Tents" "size" "I", Cond.fieldLink RX5 33 "CampBook" "kitchen" "LCampBook$Kitchen;", Cond.fieldLink RX5 151 "CampBook$Kitchen" "foods" "I", Cond.fieldLink RX5 164 "CampBook$Kitchen" "meals" "I", Cond.fieldLink RX5 40 "CampBook" "badges" "LCampBook$Badges;", Cond.fieldLink RX5 209 "CampBook$Badges" "size" "I", Cond.methodLink RX5 120 yX5_scoutsWithoutTent, Cond.instanceMethod yX5_scoutsWithoutTent, Cond.selects RX5 yX5_scoutsWithoutTent yX5_scoutsWithoutTent, Cond.code yX5_scoutsWithoutTent cX5_scoutsWithoutTent 1 (some .int)]
def wsX5_count_r2 : List Cond := [Cond.methodLink RX5 289 yX4_allSleepers, Cond.instanceMethod yX4_allSleepers, Cond.selects RX4 yX4_allSleepers yX4_allSleepers, Cond.initialized RX4, Cond.code yX4_allSleepers cX4_allSleepers 3 (some .int), Cond.fieldLink RX4 19 "CampBook$Tents" "size" "I", Cond.fieldLink RX4 15 "CampBook$Tents" "sleepers" "[J", Cond.methodLink RX4 25 yJ13_bitCount_95d88, Cond.static yJ13_bitCount_95d88, Cond.initialized RJ13, Cond.code yJ13_bitCount_95d88 cJ13_bitCount_95d88 2 (some .int), Cond.constantLong RJ13 314 (6148914691236517205), Cond.constantLong RJ13 316 (3689348814741910323), Cond.constantLong RJ13 318 (1085102592571150095)]
def wsX5_count : List Cond := .code yX5_count cX5_count 2 (some .int) :: ((wsX5_count_r1 ++ wsX5_count_r2) ++ wsX50 ++ wsX30 ++ wsX40 ++ wsX20 ++ wsX00 ++ (vx_atS RX5 277 "java/lang/IndexOutOfBoundsException" ["java/lang/RuntimeException", "java/lang/Exception"]).filter goodWord)
def wsX5_giveDuty_r1 : List Cond := [Cond.classLink RX5 51 "java/lang/IllegalStateException", Cond.initialized "java/lang/IllegalStateException", Cond.fieldLink RX5 10 "CampBook" "people" "LCampBook$People;", Cond.fieldLink RX5 48 "CampBook$People" "patrols" "I", Cond.fieldLink RX5 44 "CampBook" "today" "I", Cond.fieldLink RX5 26 "CampBook" "duties" "LCampBook$Duties;", Cond.methodLink RX5 58 yX5_checkNumber, Cond.static yX5_checkNumber, Cond.initialized RX5, Cond.code yX5_checkNumber cX5_checkNumber 2 none, Cond.classLink RX5 273 "java/lang/IndexOutOfBoundsException", Cond.initialized "java/lang/IndexOutOfBoundsException", Cond.methodLink RX5 88 yX5_checkNumberOrNone, Cond.static yX5_checkNumberOrNone, Cond.code yX5_checkNumberOrNone cX5_checkNumberOrNone 2 none, Cond.methodLink RX5 62 yX5_checkArgument, Cond.static yX5_checkArgument, Cond.code yX5_checkArgument cX5_checkArgument 3 none, Cond.classLink RX5 238 "java/lang/IllegalArgumentException", Cond.initialized "java/lang/IllegalArgumentException", Cond.methodLink RX5 127 yX1_canBeGiven, Cond.instanceMethod yX1_canBeGiven, Cond.selects RX1 yX1_canBeGiven yX1_canBeGiven, Cond.initialized RX1]
def wsX5_giveDuty_r2 : List Cond := [Cond.code yX1_canBeGiven cX1_canBeGiven 5 (some .boolean), Cond.methodLink RX1 24 yX1_hasFitScout, Cond.instanceMethod yX1_hasFitScout, Cond.selects RX1 yX1_hasFitScout yX1_hasFitScout, Cond.code yX1_hasFitScout cX1_hasFitScout 5 (some .boolean), Cond.methodLink RX1 36 yX3_membersOf, Cond.instanceMethod yX3_membersOf, Cond.selects RX3 yX3_membersOf yX3_membersOf, Cond.initialized RX3, Cond.code yX3_membersOf cX3_membersOf 5 (some .long), Cond.fieldLink RX3 30 "CampBook$People" "scouts" "I", Cond.fieldLink RX3 9 "CampBook$People" "patrol" "[I", Cond.methodLink RX1 42 yX3_agedAtLeast, Cond.instanceMethod yX3_agedAtLeast, Cond.selects RX3 yX3_agedAtLeast yX3_agedAtLeast, Cond.code yX3_agedAtLeast cX3_agedAtLeast 5 (some .long), Cond.fieldLink RX3 15 "CampBook$People" "age" "[I", Cond.methodLink RX1 28 yX1_doesOther, Cond.instanceMethod yX1_doesOther, Cond.selects RX1 yX1_doesOther yX1_doesOther, Cond.code yX1_doesOther cX1_doesOther 5 (some .boolean), Cond.methodLink RX1 32 yX1_holderOn, Cond.instanceMethod yX1_holderOn, Cond.selects RX1 yX1_holderOn yX1_holderOn]
def wsX5_giveDuty_r3 : List Cond := [Cond.code yX1_holderOn cX1_holderOn 3 (some .int), Cond.fieldLink RX1 11 "CampBook$Duties" "holders" "[I", Cond.methodLink RX5 133 yX1_holderOn, Cond.methodLink RX5 136 yX1_assign, Cond.instanceMethod yX1_assign, Cond.selects RX1 yX1_assign yX1_assign, Cond.code yX1_assign cX1_assign 5 none, Cond.fieldLink RX1 15 "CampBook$Duties" "points" "[I", Cond.fieldLink RX1 45 "CampBook$Duties" "POINTS" "[I"]
def wsX5_giveDuty : List Cond := .code yX5_giveDuty cX5_giveDuty 5 (some .int) :: ((wsX5_giveDuty_r1 ++ (wsX5_giveDuty_r2 ++ wsX5_giveDuty_r3)) ++ wsX50 ++ wsX30 ++ wsX10 ++ (vx_atS RX5 55 "java/lang/IllegalStateException" ["java/lang/RuntimeException", "java/lang/Exception"]).filter goodWord ++ (vx_atS RX5 277 "java/lang/IndexOutOfBoundsException" ["java/lang/RuntimeException", "java/lang/Exception"]).filter goodWord ++ (vx_atS RX5 242 "java/lang/IllegalArgumentException" ["java/lang/RuntimeException", "java/lang/Exception"]).filter goodWord)
def wsX5_duty : List Cond := .code yX5_duty cX5_duty 3 (some .int) :: ([.fieldLink RX5 26 "CampBook" "duties" "LCampBook$Duties;", .methodLink RX5 58 yX5_checkNumber, .static yX5_checkNumber, .initialized RX5, .code yX5_checkNumber cX5_checkNumber 2 none, .classLink RX5 273 "java/lang/IndexOutOfBoundsException", .initialized "java/lang/IndexOutOfBoundsException", .methodLink RX5 133 yX1_holderOn, .instanceMethod yX1_holderOn, .selects RX1 yX1_holderOn yX1_holderOn, .initialized RX1, .code yX1_holderOn cX1_holderOn 3 (some .int), .fieldLink RX1 11 "CampBook$Duties" "holders" "[I"] ++ wsX50 ++ wsX10 ++ (vx_atS RX5 277 "java/lang/IndexOutOfBoundsException" ["java/lang/RuntimeException", "java/lang/Exception"]).filter goodWord)
def wsX5_points : List Cond := .code yX5_points cX5_points 2 (some .int) :: ([.fieldLink RX5 10 "CampBook" "people" "LCampBook$People;", .fieldLink RX5 48 "CampBook$People" "patrols" "I", .fieldLink RX5 26 "CampBook" "duties" "LCampBook$Duties;", .fieldLink RX5 139 "CampBook$Duties" "points" "[I", .methodLink RX5 58 yX5_checkNumber, .static yX5_checkNumber, .initialized RX5, .code yX5_checkNumber cX5_checkNumber 2 none, .classLink RX5 273 "java/lang/IndexOutOfBoundsException", .initialized "java/lang/IndexOutOfBoundsException"] ++ wsX50 ++ wsX30 ++ wsX10 ++ (vx_atS RX5 277 "java/lang/IndexOutOfBoundsException" ["java/lang/RuntimeException", "java/lang/Exception"]).filter goodWord)
def wsX5_findDuties_r1 : List Cond := [Cond.fieldLink RX5 26 "CampBook" "duties" "LCampBook$Duties;", Cond.fieldLink RX5 44 "CampBook" "today" "I", Cond.fieldLink RX5 10 "CampBook" "people" "LCampBook$People;", Cond.methodLink RX5 133 yX1_holderOn, Cond.instanceMethod yX1_holderOn, Cond.selects RX1 yX1_holderOn yX1_holderOn, Cond.initialized RX1, Cond.code yX1_holderOn cX1_holderOn 3 (some .int), Cond.fieldLink RX1 11 "CampBook$Duties" "holders" "[I", Cond.methodLink RX5 145 yX1_bestFor, Cond.instanceMethod yX1_bestFor, Cond.selects RX1 yX1_bestFor yX1_bestFor, Cond.code yX1_bestFor cX1_bestFor 7 (some .int), Cond.fieldLink RX1 48 "CampBook$People" "patrols" "I", Cond.fieldLink RX1 15 "CampBook$Duties" "points" "[I", Cond.methodLink RX1 52 yX1_canBeGiven, Cond.instanceMethod yX1_canBeGiven, Cond.selects RX1 yX1_canBeGiven yX1_canBeGiven, Cond.code yX1_canBeGiven cX1_canBeGiven 5 (some .boolean), Cond.methodLink RX1 24 yX1_hasFitScout, Cond.instanceMethod yX1_hasFitScout, Cond.selects RX1 yX1_hasFitScout yX1_hasFitScout, Cond.code yX1_hasFitScout cX1_hasFitScout 5 (some .boolean), Cond.methodLink RX1 36 yX3_membersOf]
def wsX5_findDuties_r2 : List Cond := [Cond.instanceMethod yX3_membersOf, Cond.selects RX3 yX3_membersOf yX3_membersOf, Cond.initialized RX3, Cond.code yX3_membersOf cX3_membersOf 5 (some .long), Cond.fieldLink RX3 30 "CampBook$People" "scouts" "I", Cond.fieldLink RX3 9 "CampBook$People" "patrol" "[I", Cond.methodLink RX1 42 yX3_agedAtLeast, Cond.instanceMethod yX3_agedAtLeast, Cond.selects RX3 yX3_agedAtLeast yX3_agedAtLeast, Cond.code yX3_agedAtLeast cX3_agedAtLeast 5 (some .long), Cond.fieldLink RX3 15 "CampBook$People" "age" "[I", Cond.methodLink RX1 28 yX1_doesOther, Cond.instanceMethod yX1_doesOther, Cond.selects RX1 yX1_doesOther yX1_doesOther, Cond.code yX1_doesOther cX1_doesOther 5 (some .boolean), Cond.methodLink RX1 32 yX1_holderOn, Cond.methodLink RX5 136 yX1_assign, Cond.instanceMethod yX1_assign, Cond.selects RX1 yX1_assign yX1_assign, Cond.code yX1_assign cX1_assign 5 none, Cond.fieldLink RX1 45 "CampBook$Duties" "POINTS" "[I", Cond.methodLink RX5 148 yX1_openOn, Cond.instanceMethod yX1_openOn, Cond.selects RX1 yX1_openOn yX1_openOn]
def wsX5_findDuties_r3 : List Cond := [Cond.code yX1_openOn cX1_openOn 4 (some .int)]
def wsX5_findDuties : List Cond := .code yX5_findDuties cX5_findDuties 3 (some .int) :: ((wsX5_findDuties_r1 ++ (wsX5_findDuties_r2 ++ wsX5_findDuties_r3)) ++ wsX50 ++ wsX10 ++ wsX30)
def wsX5_addFood : List Cond := .code yX5_addFood cX5_addFood 2 (some .int) :: ([.classLink RX5 51 "java/lang/IllegalStateException", .initialized "java/lang/IllegalStateException", .fieldLink RX5 33 "CampBook" "kitchen" "LCampBook$Kitchen;", .fieldLink RX5 151 "CampBook$Kitchen" "foods" "I", .fieldLink RX5 156 "CampBook$Kitchen" "stores" "[I", .methodLink RX5 62 yX5_checkArgument, .static yX5_checkArgument, .initialized RX5, .code yX5_checkArgument cX5_checkArgument 3 none, .classLink RX5 238 "java/lang/IllegalArgumentException", .initialized "java/lang/IllegalArgumentException"] ++ wsX50 ++ wsX20 ++ (vx_atS RX5 55 "java/lang/IllegalStateException" ["java/lang/RuntimeException", "java/lang/Exception"]).filter goodWord ++ (vx_atS RX5 242 "java/lang/IllegalArgumentException" ["java/lang/RuntimeException", "java/lang/Exception"]).filter goodWord)
def wsX5_buy : List Cond := .code yX5_buy cX5_buy 4 (some .int) :: ([.classLink RX5 51 "java/lang/IllegalStateException", .initialized "java/lang/IllegalStateException", .fieldLink RX5 33 "CampBook" "kitchen" "LCampBook$Kitchen;", .fieldLink RX5 151 "CampBook$Kitchen" "foods" "I", .fieldLink RX5 156 "CampBook$Kitchen" "stores" "[I", .methodLink RX5 58 yX5_checkNumber, .static yX5_checkNumber, .initialized RX5, .code yX5_checkNumber cX5_checkNumber 2 none, .classLink RX5 273 "java/lang/IndexOutOfBoundsException", .initialized "java/lang/IndexOutOfBoundsException", .methodLink RX5 62 yX5_checkArgument, .static yX5_checkArgument, .code yX5_checkArgument cX5_checkArgument 3 none, .classLink RX5 238 "java/lang/IllegalArgumentException", .initialized "java/lang/IllegalArgumentException"] ++ wsX50 ++ wsX20 ++ (vx_atS RX5 55 "java/lang/IllegalStateException" ["java/lang/RuntimeException", "java/lang/Exception"]).filter goodWord ++ (vx_atS RX5 277 "java/lang/IndexOutOfBoundsException" ["java/lang/RuntimeException", "java/lang/Exception"]).filter goodWord ++ (vx_atS RX5 242 "java/lang/IllegalArgumentException" ["java/lang/RuntimeException", "java/lang/Exception"]).filter goodWord)
def wsX5_store : List Cond := .code yX5_store cX5_store 2 (some .int) :: ([.fieldLink RX5 33 "CampBook" "kitchen" "LCampBook$Kitchen;", .fieldLink RX5 151 "CampBook$Kitchen" "foods" "I", .fieldLink RX5 156 "CampBook$Kitchen" "stores" "[I", .methodLink RX5 58 yX5_checkNumber, .static yX5_checkNumber, .initialized RX5, .code yX5_checkNumber cX5_checkNumber 2 none, .classLink RX5 273 "java/lang/IndexOutOfBoundsException", .initialized "java/lang/IndexOutOfBoundsException"] ++ wsX50 ++ wsX20 ++ (vx_atS RX5 277 "java/lang/IndexOutOfBoundsException" ["java/lang/RuntimeException", "java/lang/Exception"]).filter goodWord)
def wsX5_diet : List Cond := .code yX5_diet cX5_diet 6 (some .boolean) :: ([.fieldLink RX5 10 "CampBook" "people" "LCampBook$People;", .fieldLink RX5 66 "CampBook$People" "scouts" "I", .fieldLink RX5 33 "CampBook" "kitchen" "LCampBook$Kitchen;", .fieldLink RX5 151 "CampBook$Kitchen" "foods" "I", .fieldLink RX5 161 "CampBook$People" "refused" "[I", .methodLink RX5 58 yX5_checkNumber, .static yX5_checkNumber, .initialized RX5, .code yX5_checkNumber cX5_checkNumber 2 none, .classLink RX5 273 "java/lang/IndexOutOfBoundsException", .initialized "java/lang/IndexOutOfBoundsException"] ++ wsX50 ++ wsX30 ++ wsX20 ++ (vx_atS RX5 277 "java/lang/IndexOutOfBoundsException" ["java/lang/RuntimeException", "java/lang/Exception"]).filter goodWord)
def wsX5_addMeal : List Cond := .code yX5_addMeal cX5_addMeal 1 (some .int) :: ([.classLink RX5 51 "java/lang/IllegalStateException", .initialized "java/lang/IllegalStateException", .fieldLink RX5 33 "CampBook" "kitchen" "LCampBook$Kitchen;", .fieldLink RX5 164 "CampBook$Kitchen" "meals" "I"] ++ wsX50 ++ wsX20 ++ (vx_atS RX5 55 "java/lang/IllegalStateException" ["java/lang/RuntimeException", "java/lang/Exception"]).filter goodWord)
def wsX5_need : List Cond := .code yX5_need cX5_need 5 (some .int) :: ([.fieldLink RX5 33 "CampBook" "kitchen" "LCampBook$Kitchen;", .fieldLink RX5 164 "CampBook$Kitchen" "meals" "I", .fieldLink RX5 151 "CampBook$Kitchen" "foods" "I", .fieldLink RX5 172 "CampBook$Kitchen" "needs" "[I", .methodLink RX5 58 yX5_checkNumber, .static yX5_checkNumber, .initialized RX5, .code yX5_checkNumber cX5_checkNumber 2 none, .classLink RX5 273 "java/lang/IndexOutOfBoundsException", .initialized "java/lang/IndexOutOfBoundsException", .methodLink RX5 62 yX5_checkArgument, .static yX5_checkArgument, .code yX5_checkArgument cX5_checkArgument 3 none, .classLink RX5 238 "java/lang/IllegalArgumentException", .initialized "java/lang/IllegalArgumentException", .methodLink RX5 169 yX2_needOf, .instanceMethod yX2_needOf, .selects RX2 yX2_needOf yX2_needOf, .initialized RX2, .code yX2_needOf cX2_needOf 3 (some .int), .fieldLink RX2 15 "CampBook$Kitchen" "needs" "[I"] ++ wsX50 ++ wsX20 ++ (vx_atS RX5 277 "java/lang/IndexOutOfBoundsException" ["java/lang/RuntimeException", "java/lang/Exception"]).filter goodWord ++ (vx_atS RX5 242 "java/lang/IllegalArgumentException" ["java/lang/RuntimeException", "java/lang/Exception"]).filter goodWord)
def wsX5_eaters_r1 : List Cond := [Cond.fieldLink RX5 33 "CampBook" "kitchen" "LCampBook$Kitchen;", Cond.fieldLink RX5 164 "CampBook$Kitchen" "meals" "I", Cond.fieldLink RX5 10 "CampBook" "people" "LCampBook$People;", Cond.methodLink RX5 58 yX5_checkNumber, Cond.static yX5_checkNumber, Cond.initialized RX5, Cond.code yX5_checkNumber cX5_checkNumber 2 none, Cond.classLink RX5 273 "java/lang/IndexOutOfBoundsException", Cond.initialized "java/lang/IndexOutOfBoundsException", Cond.methodLink RX5 175 yX2_eatersOf, Cond.instanceMethod yX2_eatersOf, Cond.selects RX2 yX2_eatersOf yX2_eatersOf, Cond.initialized RX2, Cond.code yX2_eatersOf cX2_eatersOf 7 (some .long), Cond.fieldLink RX2 30 "CampBook$People" "scouts" "I", Cond.fieldLink RX2 35 "CampBook$People" "refused" "[I", Cond.methodLink RX2 26 yX2_foodsOf, Cond.instanceMethod yX2_foodsOf, Cond.selects RX2 yX2_foodsOf yX2_foodsOf, Cond.code yX2_foodsOf cX2_foodsOf 4 (some .int), Cond.fieldLink RX2 18 "CampBook$Kitchen" "foods" "I", Cond.methodLink RX2 22 yX2_needOf, Cond.instanceMethod yX2_needOf, Cond.selects RX2 yX2_needOf yX2_needOf]
def wsX5_eaters_r2 : List Cond := [Cond.code yX2_needOf cX2_needOf 3 (some .int), Cond.fieldLink RX2 15 "CampBook$Kitchen" "needs" "[I"]
def wsX5_eaters : List Cond := .code yX5_eaters cX5_eaters 2 (some .long) :: ((wsX5_eaters_r1 ++ wsX5_eaters_r2) ++ wsX50 ++ wsX20 ++ wsX30 ++ (vx_atS RX5 277 "java/lang/IndexOutOfBoundsException" ["java/lang/RuntimeException", "java/lang/Exception"]).filter goodWord)
def wsX5_lacks_r1 : List Cond := [Cond.fieldLink RX5 33 "CampBook" "kitchen" "LCampBook$Kitchen;", Cond.fieldLink RX5 164 "CampBook$Kitchen" "meals" "I", Cond.fieldLink RX5 151 "CampBook$Kitchen" "foods" "I", Cond.fieldLink RX5 10 "CampBook" "people" "LCampBook$People;", Cond.fieldLink RX5 156 "CampBook$Kitchen" "stores" "[I", Cond.methodLink RX5 185 Lib.Math.max.name, Cond.static Lib.Math.max.name, Cond.initialized "java/lang/Math", Cond.code Lib.Math.max.name Lib.Math.max.code 2 (some .int), Cond.methodLink RX5 58 yX5_checkNumber, Cond.static yX5_checkNumber, Cond.initialized RX5, Cond.code yX5_checkNumber cX5_checkNumber 2 none, Cond.classLink RX5 273 "java/lang/IndexOutOfBoundsException", Cond.initialized "java/lang/IndexOutOfBoundsException", Cond.methodLink RX5 62 yX5_checkArgument, Cond.static yX5_checkArgument, Cond.code yX5_checkArgument cX5_checkArgument 3 none, Cond.classLink RX5 238 "java/lang/IllegalArgumentException", Cond.initialized "java/lang/IllegalArgumentException", Cond.methodLink RX5 175 yX2_eatersOf, Cond.instanceMethod yX2_eatersOf, Cond.selects RX2 yX2_eatersOf yX2_eatersOf, Cond.initialized RX2]
def wsX5_lacks_r2 : List Cond := [Cond.code yX2_eatersOf cX2_eatersOf 7 (some .long), Cond.fieldLink RX2 30 "CampBook$People" "scouts" "I", Cond.fieldLink RX2 35 "CampBook$People" "refused" "[I", Cond.methodLink RX2 26 yX2_foodsOf, Cond.instanceMethod yX2_foodsOf, Cond.selects RX2 yX2_foodsOf yX2_foodsOf, Cond.code yX2_foodsOf cX2_foodsOf 4 (some .int), Cond.fieldLink RX2 18 "CampBook$Kitchen" "foods" "I", Cond.methodLink RX2 22 yX2_needOf, Cond.instanceMethod yX2_needOf, Cond.selects RX2 yX2_needOf yX2_needOf, Cond.code yX2_needOf cX2_needOf 3 (some .int), Cond.fieldLink RX2 15 "CampBook$Kitchen" "needs" "[I", Cond.methodLink RX5 179 yJ13_bitCount_95d88, Cond.static yJ13_bitCount_95d88, Cond.initialized RJ13, Cond.code yJ13_bitCount_95d88 cJ13_bitCount_95d88 2 (some .int), Cond.constantLong RJ13 314 (6148914691236517205), Cond.constantLong RJ13 316 (3689348814741910323), Cond.constantLong RJ13 318 (1085102592571150095), Cond.methodLink RX5 169 yX2_needOf]
def wsX5_lacks : List Cond := .code yX5_lacks cX5_lacks 5 (some .int) :: ((wsX5_lacks_r1 ++ wsX5_lacks_r2) ++ wsX50 ++ wsX20 ++ wsX30 ++ (vx_atS RX5 277 "java/lang/IndexOutOfBoundsException" ["java/lang/RuntimeException", "java/lang/Exception"]).filter goodWord ++ (vx_atS RX5 242 "java/lang/IllegalArgumentException" ["java/lang/RuntimeException", "java/lang/Exception"]).filter goodWord)
def wsX5_eat_r1 : List Cond := [Cond.classLink RX5 51 "java/lang/IllegalStateException", Cond.initialized "java/lang/IllegalStateException", Cond.fieldLink RX5 33 "CampBook" "kitchen" "LCampBook$Kitchen;", Cond.fieldLink RX5 164 "CampBook$Kitchen" "meals" "I", Cond.fieldLink RX5 10 "CampBook" "people" "LCampBook$People;", Cond.methodLink RX5 58 yX5_checkNumber, Cond.static yX5_checkNumber, Cond.initialized RX5, Cond.code yX5_checkNumber cX5_checkNumber 2 none, Cond.classLink RX5 273 "java/lang/IndexOutOfBoundsException", Cond.initialized "java/lang/IndexOutOfBoundsException", Cond.methodLink RX5 190 yX2_canBeEaten, Cond.instanceMethod yX2_canBeEaten, Cond.selects RX2 yX2_canBeEaten yX2_canBeEaten, Cond.initialized RX2, Cond.code yX2_canBeEaten cX2_canBeEaten 4 (some .boolean), Cond.fieldLink RX2 48 "CampBook$Kitchen" "mealsToday" "I", Cond.methodLink RX2 38 yX2_eatersOf, Cond.instanceMethod yX2_eatersOf, Cond.selects RX2 yX2_eatersOf yX2_eatersOf, Cond.code yX2_eatersOf cX2_eatersOf 7 (some .long), Cond.fieldLink RX2 30 "CampBook$People" "scouts" "I", Cond.fieldLink RX2 35 "CampBook$People" "refused" "[I", Cond.methodLink RX2 26 yX2_foodsOf]
def wsX5_eat_r2 : List Cond := [Cond.instanceMethod yX2_foodsOf, Cond.selects RX2 yX2_foodsOf yX2_foodsOf, Cond.code yX2_foodsOf cX2_foodsOf 4 (some .int), Cond.fieldLink RX2 18 "CampBook$Kitchen" "foods" "I", Cond.methodLink RX2 22 yX2_needOf, Cond.instanceMethod yX2_needOf, Cond.selects RX2 yX2_needOf yX2_needOf, Cond.code yX2_needOf cX2_needOf 3 (some .int), Cond.fieldLink RX2 15 "CampBook$Kitchen" "needs" "[I", Cond.methodLink RX2 42 yJ13_bitCount_95d88, Cond.static yJ13_bitCount_95d88, Cond.initialized RJ13, Cond.code yJ13_bitCount_95d88 cJ13_bitCount_95d88 2 (some .int), Cond.constantLong RJ13 314 (6148914691236517205), Cond.constantLong RJ13 316 (3689348814741910323), Cond.constantLong RJ13 318 (1085102592571150095), Cond.methodLink RX2 51 yX2_isStocked, Cond.instanceMethod yX2_isStocked, Cond.selects RX2 yX2_isStocked yX2_isStocked, Cond.code yX2_isStocked cX2_isStocked 4 (some .boolean), Cond.fieldLink RX2 9 "CampBook$Kitchen" "stores" "[I", Cond.methodLink RX5 196 yX2_serve, Cond.instanceMethod yX2_serve, Cond.selects RX2 yX2_serve yX2_serve]
def wsX5_eat_r3 : List Cond := [Cond.code yX2_serve cX2_serve 7 (some .int), Cond.fieldLink RX2 55 "CampBook$Kitchen" "ateToday" "J"]
def wsX5_eat : List Cond := .code yX5_eat cX5_eat 2 (some .int) :: ((wsX5_eat_r1 ++ (wsX5_eat_r2 ++ wsX5_eat_r3)) ++ wsX50 ++ wsX20 ++ wsX30 ++ (vx_atS RX5 55 "java/lang/IllegalStateException" ["java/lang/RuntimeException", "java/lang/Exception"]).filter goodWord ++ (vx_atS RX5 277 "java/lang/IndexOutOfBoundsException" ["java/lang/RuntimeException", "java/lang/Exception"]).filter goodWord)
def wsX5_hungryScouts : List Cond := .code yX5_hungryScouts cX5_hungryScouts 1 (some .int) :: ([.fieldLink RX5 10 "CampBook" "people" "LCampBook$People;", .fieldLink RX5 66 "CampBook$People" "scouts" "I", .fieldLink RX5 33 "CampBook" "kitchen" "LCampBook$Kitchen;", .fieldLink RX5 292 "CampBook$Kitchen" "ateToday" "J", .methodLink RX5 179 yJ13_bitCount_95d88, .static yJ13_bitCount_95d88, .initialized RJ13, .code yJ13_bitCount_95d88 cJ13_bitCount_95d88 2 (some .int), .constantLong RJ13 314 (6148914691236517205), .constantLong RJ13 316 (3689348814741910323), .constantLong RJ13 318 (1085102592571150095)] ++ wsX50 ++ wsX30 ++ wsX20)
def wsX5_table_r1 : List Cond := [Cond.fieldLink RX5 33 "CampBook" "kitchen" "LCampBook$Kitchen;", Cond.fieldLink RX5 202 "CampBook$Kitchen" "mealsToday" "I", Cond.fieldLink RX5 10 "CampBook" "people" "LCampBook$People;", Cond.methodLink RX5 58 yX5_checkNumber, Cond.static yX5_checkNumber, Cond.initialized RX5, Cond.code yX5_checkNumber cX5_checkNumber 2 none, Cond.classLink RX5 273 "java/lang/IndexOutOfBoundsException", Cond.initialized "java/lang/IndexOutOfBoundsException", Cond.methodLink RX5 199 yX5_hungryScouts, Cond.instanceMethod yX5_hungryScouts, Cond.selects RX5 yX5_hungryScouts yX5_hungryScouts, Cond.code yX5_hungryScouts cX5_hungryScouts 1 (some .int), Cond.fieldLink RX5 66 "CampBook$People" "scouts" "I", Cond.fieldLink RX5 292 "CampBook$Kitchen" "ateToday" "J", Cond.methodLink RX5 179 yJ13_bitCount_95d88, Cond.static yJ13_bitCount_95d88, Cond.initialized RJ13, Cond.code yJ13_bitCount_95d88 cJ13_bitCount_95d88 2 (some .int), Cond.constantLong RJ13 314 (6148914691236517205), Cond.constantLong RJ13 316 (3689348814741910323), Cond.constantLong RJ13 318 (1085102592571150095), Cond.methodLink RX5 205 yX2_bestMeal, Cond.instanceMethod yX2_bestMeal]
def wsX5_table_r2 : List Cond := [Cond.selects RX2 yX2_bestMeal yX2_bestMeal, Cond.initialized RX2, Cond.code yX2_bestMeal cX2_bestMeal 6 (some .int), Cond.fieldLink RX2 59 "CampBook$Kitchen" "meals" "I", Cond.fieldLink RX2 55 "CampBook$Kitchen" "ateToday" "J", Cond.constantLong RX2 62 (-1), Cond.methodLink RX2 38 yX2_eatersOf, Cond.instanceMethod yX2_eatersOf, Cond.selects RX2 yX2_eatersOf yX2_eatersOf, Cond.code yX2_eatersOf cX2_eatersOf 7 (some .long), Cond.fieldLink RX2 30 "CampBook$People" "scouts" "I", Cond.fieldLink RX2 35 "CampBook$People" "refused" "[I", Cond.methodLink RX2 26 yX2_foodsOf, Cond.instanceMethod yX2_foodsOf, Cond.selects RX2 yX2_foodsOf yX2_foodsOf, Cond.code yX2_foodsOf cX2_foodsOf 4 (some .int), Cond.fieldLink RX2 18 "CampBook$Kitchen" "foods" "I", Cond.methodLink RX2 22 yX2_needOf, Cond.instanceMethod yX2_needOf, Cond.selects RX2 yX2_needOf yX2_needOf, Cond.code yX2_needOf cX2_needOf 3 (some .int), Cond.fieldLink RX2 15 "CampBook$Kitchen" "needs" "[I", Cond.methodLink RX2 42 yJ13_bitCount_95d88, Cond.methodLink RX2 64 yX2_canBeEaten]
def wsX5_table_r3 : List Cond := [Cond.instanceMethod yX2_canBeEaten, Cond.selects RX2 yX2_canBeEaten yX2_canBeEaten, Cond.code yX2_canBeEaten cX2_canBeEaten 4 (some .boolean), Cond.fieldLink RX2 48 "CampBook$Kitchen" "mealsToday" "I", Cond.methodLink RX2 51 yX2_isStocked, Cond.instanceMethod yX2_isStocked, Cond.selects RX2 yX2_isStocked yX2_isStocked, Cond.code yX2_isStocked cX2_isStocked 4 (some .boolean), Cond.fieldLink RX2 9 "CampBook$Kitchen" "stores" "[I"]
def wsX5_table : List Cond := .code yX5_table cX5_table 2 (some .int) :: ((wsX5_table_r1 ++ (wsX5_table_r2 ++ wsX5_table_r3)) ++ wsX50 ++ wsX20 ++ wsX30 ++ (vx_atS RX5 277 "java/lang/IndexOutOfBoundsException" ["java/lang/RuntimeException", "java/lang/Exception"]).filter goodWord)
def wsX5_addBadge : List Cond := .code yX5_addBadge cX5_addBadge 2 (some .int) :: ([.classLink RX5 51 "java/lang/IllegalStateException", .initialized "java/lang/IllegalStateException", .fieldLink RX5 40 "CampBook" "badges" "LCampBook$Badges;", .fieldLink RX5 209 "CampBook$Badges" "size" "I", .fieldLink RX5 212 "CampBook$Badges" "leastAge" "[I", .methodLink RX5 62 yX5_checkArgument, .static yX5_checkArgument, .initialized RX5, .code yX5_checkArgument cX5_checkArgument 3 none, .classLink RX5 238 "java/lang/IllegalArgumentException", .initialized "java/lang/IllegalArgumentException"] ++ wsX50 ++ wsX00 ++ (vx_atS RX5 55 "java/lang/IllegalStateException" ["java/lang/RuntimeException", "java/lang/Exception"]).filter goodWord ++ (vx_atS RX5 242 "java/lang/IllegalArgumentException" ["java/lang/RuntimeException", "java/lang/Exception"]).filter goodWord)
def wsX5_want : List Cond := .code yX5_want cX5_want 6 (some .int) :: ([.fieldLink RX5 40 "CampBook" "badges" "LCampBook$Badges;", .fieldLink RX5 209 "CampBook$Badges" "size" "I", .fieldLink RX5 215 "CampBook$Badges" "wants" "[I", .methodLink RX5 58 yX5_checkNumber, .static yX5_checkNumber, .initialized RX5, .code yX5_checkNumber cX5_checkNumber 2 none, .classLink RX5 273 "java/lang/IndexOutOfBoundsException", .initialized "java/lang/IndexOutOfBoundsException", .methodLink RX5 62 yX5_checkArgument, .static yX5_checkArgument, .code yX5_checkArgument cX5_checkArgument 3 none, .classLink RX5 238 "java/lang/IllegalArgumentException", .initialized "java/lang/IllegalArgumentException"] ++ wsX50 ++ wsX00 ++ (vx_atS RX5 277 "java/lang/IndexOutOfBoundsException" ["java/lang/RuntimeException", "java/lang/Exception"]).filter goodWord ++ (vx_atS RX5 242 "java/lang/IllegalArgumentException" ["java/lang/RuntimeException", "java/lang/Exception"]).filter goodWord)
def wsX5_practise : List Cond := .code yX5_practise cX5_practise 4 (some .int) :: ([.fieldLink RX5 10 "CampBook" "people" "LCampBook$People;", .fieldLink RX5 48 "CampBook$People" "patrols" "I", .methodLink RX5 58 yX5_checkNumber, .static yX5_checkNumber, .initialized RX5, .code yX5_checkNumber cX5_checkNumber 2 none, .classLink RX5 273 "java/lang/IndexOutOfBoundsException", .initialized "java/lang/IndexOutOfBoundsException", .methodLink RX5 62 yX5_checkArgument, .static yX5_checkArgument, .code yX5_checkArgument cX5_checkArgument 3 none, .classLink RX5 238 "java/lang/IllegalArgumentException", .initialized "java/lang/IllegalArgumentException", .methodLink RX5 218 yX3_train, .instanceMethod yX3_train, .selects RX3 yX3_train yX3_train, .initialized RX3, .code yX3_train cX3_train 6 (some .int), .fieldLink RX3 30 "CampBook$People" "scouts" "I", .fieldLink RX3 9 "CampBook$People" "patrol" "[I", .fieldLink RX3 27 "CampBook$People" "hours" "[I"] ++ wsX50 ++ wsX30 ++ (vx_atS RX5 277 "java/lang/IndexOutOfBoundsException" ["java/lang/RuntimeException", "java/lang/Exception"]).filter goodWord ++ (vx_atS RX5 242 "java/lang/IllegalArgumentException" ["java/lang/RuntimeException", "java/lang/Exception"]).filter goodWord)
def wsX5_away_r1 : List Cond := [Cond.fieldLink RX5 10 "CampBook" "people" "LCampBook$People;", Cond.fieldLink RX5 66 "CampBook$People" "scouts" "I", Cond.fieldLink RX5 40 "CampBook" "badges" "LCampBook$Badges;", Cond.fieldLink RX5 209 "CampBook$Badges" "size" "I", Cond.methodLink RX5 58 yX5_checkNumber, Cond.static yX5_checkNumber, Cond.initialized RX5, Cond.code yX5_checkNumber cX5_checkNumber 2 none, Cond.classLink RX5 273 "java/lang/IndexOutOfBoundsException", Cond.initialized "java/lang/IndexOutOfBoundsException", Cond.methodLink RX5 221 yX0_distance, Cond.instanceMethod yX0_distance, Cond.selects RX0 yX0_distance yX0_distance, Cond.initialized RX0, Cond.code yX0_distance cX0_distance 4 (some .int), Cond.fieldLink RX0 18 "CampBook$People" "age" "[I", Cond.fieldLink RX0 9 "CampBook$Badges" "leastAge" "[I", Cond.fieldLink RX0 23 "CampBook$People" "badges" "[I", Cond.methodLink RX0 26 yX0_hoursLacking, Cond.instanceMethod yX0_hoursLacking, Cond.selects RX0 yX0_hoursLacking yX0_hoursLacking, Cond.code yX0_hoursLacking cX0_hoursLacking 7 (some .int), Cond.fieldLink RX0 15 "CampBook$Badges" "wants" "[I", Cond.methodLink RX0 34 Lib.Math.max.name]
def wsX5_away_r2 : List Cond := [Cond.static Lib.Math.max.name, Cond.initialized "java/lang/Math", Cond.code Lib.Math.max.name Lib.Math.max.code 2 (some .int), Cond.methodLink RX0 30 yX3_hoursIn, Cond.instanceMethod yX3_hoursIn, Cond.selects RX3 yX3_hoursIn yX3_hoursIn, Cond.initialized RX3, Cond.code yX3_hoursIn cX3_hoursIn 3 (some .int), Cond.fieldLink RX3 27 "CampBook$People" "hours" "[I"]
def wsX5_away : List Cond := .code yX5_away cX5_away 3 (some .int) :: ((wsX5_away_r1 ++ wsX5_away_r2) ++ wsX50 ++ wsX30 ++ wsX00 ++ (vx_atS RX5 277 "java/lang/IndexOutOfBoundsException" ["java/lang/RuntimeException", "java/lang/Exception"]).filter goodWord)
def wsJ6_bitCount_0f7a4 : List Cond := .code yJ6_bitCount_0f7a4 cJ6_bitCount_0f7a4 1 (some .int) :: ([.constant RJ6 265 (1431655765), .constant RJ6 266 (858993459), .constant RJ6 267 (252645135)])
def wsX5_earn_r1 : List Cond := [Cond.classLink RX5 51 "java/lang/IllegalStateException", Cond.initialized "java/lang/IllegalStateException", Cond.fieldLink RX5 10 "CampBook" "people" "LCampBook$People;", Cond.fieldLink RX5 66 "CampBook$People" "scouts" "I", Cond.fieldLink RX5 40 "CampBook" "badges" "LCampBook$Badges;", Cond.fieldLink RX5 209 "CampBook$Badges" "size" "I", Cond.fieldLink RX5 226 "CampBook$People" "badges" "[I", Cond.methodLink RX5 58 yX5_checkNumber, Cond.static yX5_checkNumber, Cond.initialized RX5, Cond.code yX5_checkNumber cX5_checkNumber 2 none, Cond.classLink RX5 273 "java/lang/IndexOutOfBoundsException", Cond.initialized "java/lang/IndexOutOfBoundsException", Cond.methodLink RX5 221 yX0_distance, Cond.instanceMethod yX0_distance, Cond.selects RX0 yX0_distance yX0_distance, Cond.initialized RX0, Cond.code yX0_distance cX0_distance 4 (some .int), Cond.fieldLink RX0 18 "CampBook$People" "age" "[I", Cond.fieldLink RX0 9 "CampBook$Badges" "leastAge" "[I", Cond.fieldLink RX0 23 "CampBook$People" "badges" "[I", Cond.methodLink RX0 26 yX0_hoursLacking, Cond.instanceMethod yX0_hoursLacking, Cond.selects RX0 yX0_hoursLacking yX0_hoursLacking]
def wsX5_earn_r2 : List Cond := [Cond.code yX0_hoursLacking cX0_hoursLacking 7 (some .int), Cond.fieldLink RX0 15 "CampBook$Badges" "wants" "[I", Cond.methodLink RX0 34 Lib.Math.max.name, Cond.static Lib.Math.max.name, Cond.initialized "java/lang/Math", Cond.code Lib.Math.max.name Lib.Math.max.code 2 (some .int), Cond.methodLink RX0 30 yX3_hoursIn, Cond.instanceMethod yX3_hoursIn, Cond.selects RX3 yX3_hoursIn yX3_hoursIn, Cond.initialized RX3, Cond.code yX3_hoursIn cX3_hoursIn 3 (some .int), Cond.fieldLink RX3 27 "CampBook$People" "hours" "[I", Cond.methodLink RX5 228 yJ6_bitCount_0f7a4, Cond.static yJ6_bitCount_0f7a4, Cond.initialized RJ6, Cond.code yJ6_bitCount_0f7a4 cJ6_bitCount_0f7a4 1 (some .int), Cond.constant RJ6 265 (1431655765), Cond.constant RJ6 266 (858993459), Cond.constant RJ6 267 (252645135)]
def wsX5_earn : List Cond := .code yX5_earn cX5_earn 3 (some .int) :: ((wsX5_earn_r1 ++ wsX5_earn_r2) ++ wsX50 ++ wsX30 ++ wsX00 ++ (vx_atS RX5 55 "java/lang/IllegalStateException" ["java/lang/RuntimeException", "java/lang/Exception"]).filter goodWord ++ (vx_atS RX5 277 "java/lang/IndexOutOfBoundsException" ["java/lang/RuntimeException", "java/lang/Exception"]).filter goodWord)
def wsX5_hike_r1 : List Cond := [Cond.classLink RX5 238 "java/lang/IllegalArgumentException", Cond.initialized "java/lang/IllegalArgumentException", Cond.classLink RX5 51 "java/lang/IllegalStateException", Cond.initialized "java/lang/IllegalStateException", Cond.fieldLink RX5 10 "CampBook" "people" "LCampBook$People;", Cond.constantLong RX5 236 (-1), Cond.methodLink RX5 232 yX3_everyone, Cond.instanceMethod yX3_everyone, Cond.selects RX3 yX3_everyone yX3_everyone, Cond.initialized RX3, Cond.code yX3_everyone cX3_everyone 1 (some .long), Cond.fieldLink RX3 30 "CampBook$People" "scouts" "I", Cond.methodLink RX5 62 yX5_checkArgument, Cond.static yX5_checkArgument, Cond.initialized RX5, Cond.code yX5_checkArgument cX5_checkArgument 3 none, Cond.methodLink RX5 243 yX3_agedAtLeast, Cond.instanceMethod yX3_agedAtLeast, Cond.selects RX3 yX3_agedAtLeast yX3_agedAtLeast, Cond.code yX3_agedAtLeast cX3_agedAtLeast 5 (some .long), Cond.fieldLink RX3 15 "CampBook$People" "age" "[I", Cond.methodLink RX5 247 yX3_skilledIn, Cond.instanceMethod yX3_skilledIn, Cond.selects RX3 yX3_skilledIn yX3_skilledIn]
def wsX5_hike_r2 : List Cond := [Cond.code yX3_skilledIn cX3_skilledIn 5 (some .long), Cond.fieldLink RX3 18 "CampBook$People" "skills" "[I", Cond.methodLink RX5 252 yX3_slowestPace, Cond.instanceMethod yX3_slowestPace, Cond.selects RX3 yX3_slowestPace yX3_slowestPace, Cond.code yX3_slowestPace cX3_slowestPace 5 (some .int), Cond.methodLink RX3 38 Lib.Math.max.name, Cond.static Lib.Math.max.name, Cond.initialized "java/lang/Math", Cond.code Lib.Math.max.name Lib.Math.max.code 2 (some .int), Cond.methodLink RX3 43 yX3_paceOf, Cond.instanceMethod yX3_paceOf, Cond.selects RX3 yX3_paceOf yX3_paceOf, Cond.code yX3_paceOf cX3_paceOf 3 (some .int)]
def wsX5_hike : List Cond := .code yX5_hike cX5_hike 6 (some .int) :: ((wsX5_hike_r1 ++ wsX5_hike_r2) ++ wsX50 ++ wsX30 ++ (vx_atS RX5 242 "java/lang/IllegalArgumentException" ["java/lang/RuntimeException", "java/lang/Exception"]).filter goodWord ++ (vx_atS RX5 55 "java/lang/IllegalStateException" ["java/lang/RuntimeException", "java/lang/Exception"]).filter goodWord)
def wsX5_end : List Cond := .code yX5_end cX5_end 1 (some .int) :: ([.classLink RX5 51 "java/lang/IllegalStateException", .initialized "java/lang/IllegalStateException", .fieldLink RX5 44 "CampBook" "today" "I", .fieldLink RX5 33 "CampBook" "kitchen" "LCampBook$Kitchen;", .methodLink RX5 257 yX2_clearTable, .instanceMethod yX2_clearTable, .selects RX2 yX2_clearTable yX2_clearTable, .initialized RX2, .code yX2_clearTable cX2_clearTable 1 none, .fieldLink RX2 48 "CampBook$Kitchen" "mealsToday" "I", .fieldLink RX2 55 "CampBook$Kitchen" "ateToday" "J"] ++ wsX50 ++ wsX20 ++ (vx_atS RX5 55 "java/lang/IllegalStateException" ["java/lang/RuntimeException", "java/lang/Exception"]).filter goodWord)
def wsX5_day : List Cond := .code yX5_day cX5_day 1 (some .int) :: ([.fieldLink RX5 44 "CampBook" "today" "I"] ++ wsX50)
def wsX5_meanAge : List Cond := .code yX5_meanAge cX5_meanAge 3 (some .double) :: ([.fieldLink RX5 10 "CampBook" "people" "LCampBook$People;", .fieldLink RX5 66 "CampBook$People" "scouts" "I", .fieldLink RX5 112 "CampBook$People" "age" "[I"] ++ wsX50 ++ wsX30)
def wsX5_mixed : List Cond := .code yX5_mixed cX5_mixed 4 (some .long) :: ([.constantLong RX5 296 (31)])
def wsX5_withPeople_r1 : List Cond := [Cond.fieldLink RX5 10 "CampBook" "people" "LCampBook$People;", Cond.fieldLink RX5 48 "CampBook$People" "patrols" "I", Cond.fieldLink RX5 26 "CampBook" "duties" "LCampBook$Duties;", Cond.fieldLink RX5 139 "CampBook$Duties" "points" "[I", Cond.fieldLink RX5 66 "CampBook$People" "scouts" "I", Cond.methodLink RX5 262 yX5_mixed, Cond.static yX5_mixed, Cond.initialized RX5, Cond.code yX5_mixed cX5_mixed 4 (some .long), Cond.constantLong RX5 296 (31), Cond.methodLink RX5 75 yX5_factOf, Cond.instanceMethod yX5_factOf, Cond.selects RX5 yX5_factOf yX5_factOf, Cond.code yX5_factOf cX5_factOf 3 (some .int), Cond.fieldLink RX5 280 "CampBook$People" "patrol" "[I", Cond.fieldLink RX5 112 "CampBook$People" "age" "[I", Cond.fieldLink RX5 283 "CampBook$People" "skills" "[I", Cond.fieldLink RX5 161 "CampBook$People" "refused" "[I", Cond.fieldLink RX5 19 "CampBook" "tents" "LCampBook$Tents;", Cond.fieldLink RX5 226 "CampBook$People" "badges" "[I", Cond.methodLink RX5 91 yX4_tentOf, Cond.instanceMethod yX4_tentOf, Cond.selects RX4 yX4_tentOf yX4_tentOf, Cond.initialized RX4]
def wsX5_withPeople_r2 : List Cond := [Cond.code yX4_tentOf cX4_tentOf 3 (some .int), Cond.fieldLink RX4 19 "CampBook$Tents" "size" "I", Cond.fieldLink RX4 15 "CampBook$Tents" "sleepers" "[J", Cond.methodLink RX5 286 yX3_allHours, Cond.instanceMethod yX3_allHours, Cond.selects RX3 yX3_allHours yX3_allHours, Cond.initialized RX3, Cond.code yX3_allHours cX3_allHours 4 (some .int), Cond.methodLink RX3 34 yX3_hoursIn, Cond.instanceMethod yX3_hoursIn, Cond.selects RX3 yX3_hoursIn yX3_hoursIn, Cond.code yX3_hoursIn cX3_hoursIn 3 (some .int), Cond.fieldLink RX3 27 "CampBook$People" "hours" "[I"]
def wsX5_withPeople : List Cond := .code yX5_withPeople cX5_withPeople 7 (some .long) :: ((wsX5_withPeople_r1 ++ wsX5_withPeople_r2) ++ wsX50 ++ wsX30 ++ wsX10 ++ wsX40)
def wsX5_withKitchen_r1 : List Cond := [Cond.fieldLink RX5 33 "CampBook" "kitchen" "LCampBook$Kitchen;", Cond.fieldLink RX5 151 "CampBook$Kitchen" "foods" "I", Cond.fieldLink RX5 156 "CampBook$Kitchen" "stores" "[I", Cond.fieldLink RX5 164 "CampBook$Kitchen" "meals" "I", Cond.fieldLink RX5 10 "CampBook" "people" "LCampBook$People;", Cond.methodLink RX5 262 yX5_mixed, Cond.static yX5_mixed, Cond.initialized RX5, Cond.code yX5_mixed cX5_mixed 4 (some .long), Cond.constantLong RX5 296 (31), Cond.methodLink RX5 175 yX2_eatersOf, Cond.instanceMethod yX2_eatersOf, Cond.selects RX2 yX2_eatersOf yX2_eatersOf, Cond.initialized RX2, Cond.code yX2_eatersOf cX2_eatersOf 7 (some .long), Cond.fieldLink RX2 30 "CampBook$People" "scouts" "I", Cond.fieldLink RX2 35 "CampBook$People" "refused" "[I", Cond.methodLink RX2 26 yX2_foodsOf, Cond.instanceMethod yX2_foodsOf, Cond.selects RX2 yX2_foodsOf yX2_foodsOf, Cond.code yX2_foodsOf cX2_foodsOf 4 (some .int), Cond.fieldLink RX2 18 "CampBook$Kitchen" "foods" "I", Cond.methodLink RX2 22 yX2_needOf, Cond.instanceMethod yX2_needOf]
def wsX5_withKitchen_r2 : List Cond := [Cond.selects RX2 yX2_needOf yX2_needOf, Cond.code yX2_needOf cX2_needOf 3 (some .int), Cond.fieldLink RX2 15 "CampBook$Kitchen" "needs" "[I"]
def wsX5_withKitchen : List Cond := .code yX5_withKitchen cX5_withKitchen 6 (some .long) :: ((wsX5_withKitchen_r1 ++ wsX5_withKitchen_r2) ++ wsX50 ++ wsX20 ++ wsX30)
def wsX5_digest_r1 : List Cond := [Cond.constantLong RX5 260 (353), Cond.fieldLink RX5 44 "CampBook" "today" "I", Cond.fieldLink RX5 19 "CampBook" "tents" "LCampBook$Tents;", Cond.fieldLink RX5 79 "CampBook$Tents" "size" "I", Cond.fieldLink RX5 108 "CampBook$Tents" "sleepers" "[J", Cond.fieldLink RX5 26 "CampBook" "duties" "LCampBook$Duties;", Cond.fieldLink RX5 33 "CampBook" "kitchen" "LCampBook$Kitchen;", Cond.fieldLink RX5 202 "CampBook$Kitchen" "mealsToday" "I", Cond.methodLink RX5 262 yX5_mixed, Cond.static yX5_mixed, Cond.initialized RX5, Cond.code yX5_mixed cX5_mixed 4 (some .long), Cond.constantLong RX5 296 (31), Cond.methodLink RX5 124 yX5_countOf, Cond.instanceMethod yX5_countOf, Cond.selects RX5 yX5_countOf yX5_countOf, Cond.code yX5_countOf cX5_countOf 2 (some .int), Cond.fieldLink RX5 10 "CampBook" "people" "LCampBook$People;", Cond.fieldLink RX5 48 "CampBook$People" "patrols" "I", Cond.fieldLink RX5 66 "CampBook$People" "scouts" "I", Cond.fieldLink RX5 151 "CampBook$Kitchen" "foods" "I", Cond.fieldLink RX5 164 "CampBook$Kitchen" "meals" "I", Cond.fieldLink RX5 40 "CampBook" "badges" "LCampBook$Badges;", Cond.fieldLink RX5 209 "CampBook$Badges" "size" "I"]
def wsX5_digest_r2 : List Cond := [Cond.methodLink RX5 120 yX5_scoutsWithoutTent, Cond.instanceMethod yX5_scoutsWithoutTent, Cond.selects RX5 yX5_scoutsWithoutTent yX5_scoutsWithoutTent, Cond.code yX5_scoutsWithoutTent cX5_scoutsWithoutTent 1 (some .int), Cond.methodLink RX5 289 yX4_allSleepers, Cond.instanceMethod yX4_allSleepers, Cond.selects RX4 yX4_allSleepers yX4_allSleepers, Cond.initialized RX4, Cond.code yX4_allSleepers cX4_allSleepers 3 (some .int), Cond.fieldLink RX4 19 "CampBook$Tents" "size" "I", Cond.fieldLink RX4 15 "CampBook$Tents" "sleepers" "[J", Cond.methodLink RX4 25 yJ13_bitCount_95d88, Cond.static yJ13_bitCount_95d88, Cond.initialized RJ13, Cond.code yJ13_bitCount_95d88 cJ13_bitCount_95d88 2 (some .int), Cond.constantLong RJ13 314 (6148914691236517205), Cond.constantLong RJ13 316 (3689348814741910323), Cond.constantLong RJ13 318 (1085102592571150095), Cond.methodLink RX5 266 yX5_withPeople, Cond.instanceMethod yX5_withPeople, Cond.selects RX5 yX5_withPeople yX5_withPeople, Cond.code yX5_withPeople cX5_withPeople 7 (some .long), Cond.fieldLink RX5 139 "CampBook$Duties" "points" "[I", Cond.methodLink RX5 75 yX5_factOf]
def wsX5_digest_r3 : List Cond := [Cond.instanceMethod yX5_factOf, Cond.selects RX5 yX5_factOf yX5_factOf, Cond.code yX5_factOf cX5_factOf 3 (some .int), Cond.fieldLink RX5 280 "CampBook$People" "patrol" "[I", Cond.fieldLink RX5 112 "CampBook$People" "age" "[I", Cond.fieldLink RX5 283 "CampBook$People" "skills" "[I", Cond.fieldLink RX5 161 "CampBook$People" "refused" "[I", Cond.fieldLink RX5 226 "CampBook$People" "badges" "[I", Cond.methodLink RX5 91 yX4_tentOf, Cond.instanceMethod yX4_tentOf, Cond.selects RX4 yX4_tentOf yX4_tentOf, Cond.code yX4_tentOf cX4_tentOf 3 (some .int), Cond.methodLink RX5 286 yX3_allHours, Cond.instanceMethod yX3_allHours, Cond.selects RX3 yX3_allHours yX3_allHours, Cond.initialized RX3, Cond.code yX3_allHours cX3_allHours 4 (some .int), Cond.methodLink RX3 34 yX3_hoursIn, Cond.instanceMethod yX3_hoursIn, Cond.selects RX3 yX3_hoursIn yX3_hoursIn, Cond.code yX3_hoursIn cX3_hoursIn 3 (some .int), Cond.fieldLink RX3 27 "CampBook$People" "hours" "[I", Cond.methodLink RX5 133 yX1_holderOn, Cond.instanceMethod yX1_holderOn]
def wsX5_digest_r4 : List Cond := [Cond.selects RX1 yX1_holderOn yX1_holderOn, Cond.initialized RX1, Cond.code yX1_holderOn cX1_holderOn 3 (some .int), Cond.fieldLink RX1 11 "CampBook$Duties" "holders" "[I", Cond.methodLink RX5 270 yX5_withKitchen, Cond.instanceMethod yX5_withKitchen, Cond.selects RX5 yX5_withKitchen yX5_withKitchen, Cond.code yX5_withKitchen cX5_withKitchen 6 (some .long), Cond.fieldLink RX5 156 "CampBook$Kitchen" "stores" "[I", Cond.methodLink RX5 175 yX2_eatersOf, Cond.instanceMethod yX2_eatersOf, Cond.selects RX2 yX2_eatersOf yX2_eatersOf, Cond.initialized RX2, Cond.code yX2_eatersOf cX2_eatersOf 7 (some .long), Cond.fieldLink RX2 30 "CampBook$People" "scouts" "I", Cond.fieldLink RX2 35 "CampBook$People" "refused" "[I", Cond.methodLink RX2 26 yX2_foodsOf, Cond.instanceMethod yX2_foodsOf, Cond.selects RX2 yX2_foodsOf yX2_foodsOf, Cond.code yX2_foodsOf cX2_foodsOf 4 (some .int), Cond.fieldLink RX2 18 "CampBook$Kitchen" "foods" "I", Cond.methodLink RX2 22 yX2_needOf, Cond.instanceMethod yX2_needOf, Cond.selects RX2 yX2_needOf yX2_needOf]
def wsX5_digest_r5 : List Cond := [Cond.code yX2_needOf cX2_needOf 3 (some .int), Cond.fieldLink RX2 15 "CampBook$Kitchen" "needs" "[I", Cond.methodLink RX5 199 yX5_hungryScouts, Cond.instanceMethod yX5_hungryScouts, Cond.selects RX5 yX5_hungryScouts yX5_hungryScouts, Cond.code yX5_hungryScouts cX5_hungryScouts 1 (some .int), Cond.fieldLink RX5 292 "CampBook$Kitchen" "ateToday" "J", Cond.methodLink RX5 179 yJ13_bitCount_95d88]
def wsX5_digest : List Cond := .code yX5_digest cX5_digest 4 (some .long) :: ((wsX5_digest_r1 ++ (wsX5_digest_r2 ++ (wsX5_digest_r3 ++ (wsX5_digest_r4 ++ wsX5_digest_r5)))) ++ wsX50 ++ wsX40 ++ wsX20 ++ wsX30 ++ wsX00 ++ wsX10)
def wsX6_init : List Cond := .code yX6_init cX6_init 2 none :: ([.methodLink RX6 1 objectInit, .instanceMethod objectInit, .code objectInit ⟨#[0xb1]⟩ 1 none, .arrayClass .int, .fieldLink RX6 9 "CampBookModel" "patrolOf" "[I", .fieldLink RX6 13 "CampBookModel" "ages" "[I", .fieldLink RX6 16 "CampBookModel" "skills" "[I", .fieldLink RX6 19 "CampBookModel" "avoids" "[I", .fieldLink RX6 22 "CampBookModel" "tentOf" "[I", .fieldLink RX6 25 "CampBookModel" "badgesOf" "[I", .fieldLink RX6 28 "CampBookModel" "hours" "[I", .arrayClass .boolean, .fieldLink RX6 31 "CampBookModel" "hasEaten" "[Z", .fieldLink RX6 35 "CampBookModel" "places" "[I", .fieldLink RX6 38 "CampBookModel" "duties" "[I", .fieldLink RX6 41 "CampBookModel" "stores" "[I", .fieldLink RX6 44 "CampBookModel" "units" "[I", .fieldLink RX6 47 "CampBookModel" "badgeAges" "[I", .fieldLink RX6 50 "CampBookModel" "wants" "[I"] ++ wsX60)
def wsX6_thrown : List Cond := .code yX6_thrown cX6_thrown 1 (some .int) :: ([.fieldLink RX6 53 "CampBookModel" "thrown" "I"] ++ wsX60)
def wsX6_no : List Cond := .code yX6_no cX6_no 2 (some .int) :: ([.fieldLink RX6 53 "CampBookModel" "thrown" "I"] ++ wsX60)
def wsX6_isIn : List Cond := .code yX6_isIn cX6_isIn 3 (some .boolean) :: ([])
def wsX6_isPatrol : List Cond := .code yX6_isPatrol cX6_isPatrol 2 (some .boolean) :: ([.fieldLink RX6 57 "CampBookModel" "patrols" "I", .methodLink RX6 60 yX6_isIn, .static yX6_isIn, .initialized RX6, .code yX6_isIn cX6_isIn 3 (some .boolean)] ++ wsX60)
def wsX6_isScout : List Cond := .code yX6_isScout cX6_isScout 2 (some .boolean) :: ([.fieldLink RX6 64 "CampBookModel" "scouts" "I", .methodLink RX6 60 yX6_isIn, .static yX6_isIn, .initialized RX6, .code yX6_isIn cX6_isIn 3 (some .boolean)] ++ wsX60)
def wsX6_isTent : List Cond := .code yX6_isTent cX6_isTent 2 (some .boolean) :: ([.fieldLink RX6 67 "CampBookModel" "tents" "I", .methodLink RX6 60 yX6_isIn, .static yX6_isIn, .initialized RX6, .code yX6_isIn cX6_isIn 3 (some .boolean)] ++ wsX60)
def wsX6_isFood : List Cond := .code yX6_isFood cX6_isFood 2 (some .boolean) :: ([.fieldLink RX6 70 "CampBookModel" "foods" "I", .methodLink RX6 60 yX6_isIn, .static yX6_isIn, .initialized RX6, .code yX6_isIn cX6_isIn 3 (some .boolean)] ++ wsX60)
def wsX6_isMeal : List Cond := .code yX6_isMeal cX6_isMeal 2 (some .boolean) :: ([.fieldLink RX6 73 "CampBookModel" "meals" "I", .methodLink RX6 60 yX6_isIn, .static yX6_isIn, .initialized RX6, .code yX6_isIn cX6_isIn 3 (some .boolean)] ++ wsX60)
def wsX6_isBadge : List Cond := .code yX6_isBadge cX6_isBadge 2 (some .boolean) :: ([.fieldLink RX6 76 "CampBookModel" "badges" "I", .methodLink RX6 60 yX6_isIn, .static yX6_isIn, .initialized RX6, .code yX6_isIn cX6_isIn 3 (some .boolean)] ++ wsX60)
def wsX6_addPatrol : List Cond := .code yX6_addPatrol cX6_addPatrol 1 (some .int) :: ([.fieldLink RX6 53 "CampBookModel" "thrown" "I", .fieldLink RX6 57 "CampBookModel" "patrols" "I", .methodLink RX6 79 yX6_no, .instanceMethod yX6_no, .selects RX6 yX6_no yX6_no, .initialized RX6, .code yX6_no cX6_no 2 (some .int)] ++ wsX60)
def wsX6_addScout : List Cond := .code yX6_addScout cX6_addScout 4 (some .int) :: ([.fieldLink RX6 53 "CampBookModel" "thrown" "I", .fieldLink RX6 64 "CampBookModel" "scouts" "I", .fieldLink RX6 9 "CampBookModel" "patrolOf" "[I", .fieldLink RX6 13 "CampBookModel" "ages" "[I", .fieldLink RX6 16 "CampBookModel" "skills" "[I", .fieldLink RX6 22 "CampBookModel" "tentOf" "[I", .methodLink RX6 83 yX6_isPatrol, .instanceMethod yX6_isPatrol, .selects RX6 yX6_isPatrol yX6_isPatrol, .initialized RX6, .code yX6_isPatrol cX6_isPatrol 2 (some .boolean), .fieldLink RX6 57 "CampBookModel" "patrols" "I", .methodLink RX6 60 yX6_isIn, .static yX6_isIn, .code yX6_isIn cX6_isIn 3 (some .boolean), .methodLink RX6 79 yX6_no, .instanceMethod yX6_no, .selects RX6 yX6_no yX6_no, .code yX6_no cX6_no 2 (some .int)] ++ wsX60)
def wsX6_hoursOf : List Cond := .code yX6_hoursOf cX6_hoursOf 4 (some .int) :: ([.fieldLink RX6 28 "CampBookModel" "hours" "[I"] ++ wsX60)
def wsX6_told : List Cond := .code yX6_told cX6_told 4 (some .int) :: ([.arrayClass .int, .fieldLink RX6 9 "CampBookModel" "patrolOf" "[I", .fieldLink RX6 13 "CampBookModel" "ages" "[I", .fieldLink RX6 16 "CampBookModel" "skills" "[I", .fieldLink RX6 19 "CampBookModel" "avoids" "[I", .fieldLink RX6 22 "CampBookModel" "tentOf" "[I", .fieldLink RX6 25 "CampBookModel" "badgesOf" "[I", .methodLink RX6 87 yX6_hoursOf, .instanceMethod yX6_hoursOf, .selects RX6 yX6_hoursOf yX6_hoursOf, .initialized RX6, .code yX6_hoursOf cX6_hoursOf 4 (some .int), .fieldLink RX6 28 "CampBookModel" "hours" "[I"] ++ wsX60)
def wsX6_scout_r1 : List Cond := [Cond.fieldLink RX6 53 "CampBookModel" "thrown" "I", Cond.methodLink RX6 90 yX6_isScout, Cond.instanceMethod yX6_isScout, Cond.selects RX6 yX6_isScout yX6_isScout, Cond.initialized RX6, Cond.code yX6_isScout cX6_isScout 2 (some .boolean), Cond.fieldLink RX6 64 "CampBookModel" "scouts" "I", Cond.methodLink RX6 60 yX6_isIn, Cond.static yX6_isIn, Cond.code yX6_isIn cX6_isIn 3 (some .boolean), Cond.methodLink RX6 93 yX6_told, Cond.instanceMethod yX6_told, Cond.selects RX6 yX6_told yX6_told, Cond.code yX6_told cX6_told 4 (some .int), Cond.arrayClass .int, Cond.fieldLink RX6 9 "CampBookModel" "patrolOf" "[I", Cond.fieldLink RX6 13 "CampBookModel" "ages" "[I", Cond.fieldLink RX6 16 "CampBookModel" "skills" "[I", Cond.fieldLink RX6 19 "CampBookModel" "avoids" "[I", Cond.fieldLink RX6 22 "CampBookModel" "tentOf" "[I", Cond.fieldLink RX6 25 "CampBookModel" "badgesOf" "[I", Cond.methodLink RX6 87 yX6_hoursOf, Cond.instanceMethod yX6_hoursOf, Cond.selects RX6 yX6_hoursOf yX6_hoursOf]
def wsX6_scout_r2 : List Cond := [Cond.code yX6_hoursOf cX6_hoursOf 4 (some .int), Cond.fieldLink RX6 28 "CampBookModel" "hours" "[I", Cond.methodLink RX6 79 yX6_no, Cond.instanceMethod yX6_no, Cond.selects RX6 yX6_no yX6_no, Cond.code yX6_no cX6_no 2 (some .int)]
def wsX6_scout : List Cond := .code yX6_scout cX6_scout 3 (some .int) :: ((wsX6_scout_r1 ++ wsX6_scout_r2) ++ wsX60)
def wsX6_addTent : List Cond := .code yX6_addTent cX6_addTent 2 (some .int) :: ([.fieldLink RX6 53 "CampBookModel" "thrown" "I", .fieldLink RX6 67 "CampBookModel" "tents" "I", .fieldLink RX6 35 "CampBookModel" "places" "[I", .methodLink RX6 60 yX6_isIn, .static yX6_isIn, .initialized RX6, .code yX6_isIn cX6_isIn 3 (some .boolean), .methodLink RX6 79 yX6_no, .instanceMethod yX6_no, .selects RX6 yX6_no yX6_no, .code yX6_no cX6_no 2 (some .int)] ++ wsX60)
def wsX6_sleepers : List Cond := .code yX6_sleepers cX6_sleepers 5 (some .int) :: ([.fieldLink RX6 64 "CampBookModel" "scouts" "I", .fieldLink RX6 22 "CampBookModel" "tentOf" "[I", .fieldLink RX6 9 "CampBookModel" "patrolOf" "[I"] ++ wsX60)
def wsX6_canSleep : List Cond := .code yX6_canSleep cX6_canSleep 5 (some .boolean) :: ([.fieldLink RX6 35 "CampBookModel" "places" "[I", .fieldLink RX6 64 "CampBookModel" "scouts" "I", .fieldLink RX6 22 "CampBookModel" "tentOf" "[I", .fieldLink RX6 13 "CampBookModel" "ages" "[I", .methodLink RX6 100 Lib.Math.abs.name, .static Lib.Math.abs.name, .initialized "java/lang/Math", .code Lib.Math.abs.name Lib.Math.abs.code 1 (some .int), .methodLink RX6 97 yX6_sleepers, .instanceMethod yX6_sleepers, .selects RX6 yX6_sleepers yX6_sleepers, .initialized RX6, .code yX6_sleepers cX6_sleepers 5 (some .int), .fieldLink RX6 9 "CampBookModel" "patrolOf" "[I"] ++ wsX60)
def wsX6_sleep_r1 : List Cond := [Cond.fieldLink RX6 53 "CampBookModel" "thrown" "I", Cond.fieldLink RX6 22 "CampBookModel" "tentOf" "[I", Cond.methodLink RX6 90 yX6_isScout, Cond.instanceMethod yX6_isScout, Cond.selects RX6 yX6_isScout yX6_isScout, Cond.initialized RX6, Cond.code yX6_isScout cX6_isScout 2 (some .boolean), Cond.fieldLink RX6 64 "CampBookModel" "scouts" "I", Cond.methodLink RX6 60 yX6_isIn, Cond.static yX6_isIn, Cond.code yX6_isIn cX6_isIn 3 (some .boolean), Cond.methodLink RX6 105 yX6_isTent, Cond.instanceMethod yX6_isTent, Cond.selects RX6 yX6_isTent yX6_isTent, Cond.code yX6_isTent cX6_isTent 2 (some .boolean), Cond.fieldLink RX6 67 "CampBookModel" "tents" "I", Cond.methodLink RX6 79 yX6_no, Cond.instanceMethod yX6_no, Cond.selects RX6 yX6_no yX6_no, Cond.code yX6_no cX6_no 2 (some .int), Cond.methodLink RX6 108 yX6_canSleep, Cond.instanceMethod yX6_canSleep, Cond.selects RX6 yX6_canSleep yX6_canSleep, Cond.code yX6_canSleep cX6_canSleep 5 (some .boolean)]
def wsX6_sleep_r2 : List Cond := [Cond.fieldLink RX6 35 "CampBookModel" "places" "[I", Cond.fieldLink RX6 13 "CampBookModel" "ages" "[I", Cond.methodLink RX6 100 Lib.Math.abs.name, Cond.static Lib.Math.abs.name, Cond.initialized "java/lang/Math", Cond.code Lib.Math.abs.name Lib.Math.abs.code 1 (some .int), Cond.methodLink RX6 97 yX6_sleepers, Cond.instanceMethod yX6_sleepers, Cond.selects RX6 yX6_sleepers yX6_sleepers, Cond.code yX6_sleepers cX6_sleepers 5 (some .int), Cond.fieldLink RX6 9 "CampBookModel" "patrolOf" "[I"]
def wsX6_sleep : List Cond := .code yX6_sleep cX6_sleep 4 (some .int) :: ((wsX6_sleep_r1 ++ wsX6_sleep_r2) ++ wsX60)
def wsX6_in : List Cond := .code yX6_in cX6_in 5 (some .long) :: ([.fieldLink RX6 64 "CampBookModel" "scouts" "I", .fieldLink RX6 22 "CampBookModel" "tentOf" "[I"] ++ wsX60)
def wsX6_inTent : List Cond := .code yX6_inTent cX6_inTent 2 (some .long) :: ([.fieldLink RX6 53 "CampBookModel" "thrown" "I", .methodLink RX6 105 yX6_isTent, .instanceMethod yX6_isTent, .selects RX6 yX6_isTent yX6_isTent, .initialized RX6, .code yX6_isTent cX6_isTent 2 (some .boolean), .fieldLink RX6 67 "CampBookModel" "tents" "I", .methodLink RX6 60 yX6_isIn, .static yX6_isIn, .code yX6_isIn cX6_isIn 3 (some .boolean), .methodLink RX6 112 yX6_in, .instanceMethod yX6_in, .selects RX6 yX6_in yX6_in, .code yX6_in cX6_in 5 (some .long), .fieldLink RX6 64 "CampBookModel" "scouts" "I", .fieldLink RX6 22 "CampBookModel" "tentOf" "[I"] ++ wsX60)
def wsX6_bestTent : List Cond := .code yX6_bestTent cX6_bestTent 5 (some .int) :: ([.fieldLink RX6 67 "CampBookModel" "tents" "I", .fieldLink RX6 9 "CampBookModel" "patrolOf" "[I", .methodLink RX6 108 yX6_canSleep, .instanceMethod yX6_canSleep, .selects RX6 yX6_canSleep yX6_canSleep, .initialized RX6, .code yX6_canSleep cX6_canSleep 5 (some .boolean), .fieldLink RX6 35 "CampBookModel" "places" "[I", .fieldLink RX6 64 "CampBookModel" "scouts" "I", .fieldLink RX6 22 "CampBookModel" "tentOf" "[I", .fieldLink RX6 13 "CampBookModel" "ages" "[I", .methodLink RX6 100 Lib.Math.abs.name, .static Lib.Math.abs.name, .initialized "java/lang/Math", .code Lib.Math.abs.name Lib.Math.abs.code 1 (some .int), .methodLink RX6 97 yX6_sleepers, .instanceMethod yX6_sleepers, .selects RX6 yX6_sleepers yX6_sleepers, .code yX6_sleepers cX6_sleepers 5 (some .int)] ++ wsX60)
def wsX6_findTents : List Cond := .code yX6_findTents cX6_findTents 3 (some .int) :: ([.fieldLink RX6 53 "CampBookModel" "thrown" "I", .fieldLink RX6 64 "CampBookModel" "scouts" "I", .fieldLink RX6 13 "CampBookModel" "ages" "[I", .fieldLink RX6 22 "CampBookModel" "tentOf" "[I", .methodLink RX6 116 yX6_bestTent, .instanceMethod yX6_bestTent, .selects RX6 yX6_bestTent yX6_bestTent, .initialized RX6, .code yX6_bestTent cX6_bestTent 5 (some .int), .fieldLink RX6 67 "CampBookModel" "tents" "I", .fieldLink RX6 9 "CampBookModel" "patrolOf" "[I", .methodLink RX6 108 yX6_canSleep, .instanceMethod yX6_canSleep, .selects RX6 yX6_canSleep yX6_canSleep, .code yX6_canSleep cX6_canSleep 5 (some .boolean), .fieldLink RX6 35 "CampBookModel" "places" "[I", .methodLink RX6 100 Lib.Math.abs.name, .static Lib.Math.abs.name, .initialized "java/lang/Math", .code Lib.Math.abs.name Lib.Math.abs.code 1 (some .int), .methodLink RX6 97 yX6_sleepers, .instanceMethod yX6_sleepers, .selects RX6 yX6_sleepers yX6_sleepers, .code yX6_sleepers cX6_sleepers 5 (some .int)] ++ wsX60)
def wsX6_counted : List Cond := .code yX6_counted cX6_counted 3 (some .int) :: ([.arrayClass .int, .fieldLink RX6 57 "CampBookModel" "patrols" "I", .fieldLink RX6 64 "CampBookModel" "scouts" "I", .fieldLink RX6 67 "CampBookModel" "tents" "I", .fieldLink RX6 70 "CampBookModel" "foods" "I", .fieldLink RX6 73 "CampBookModel" "meals" "I", .fieldLink RX6 76 "CampBookModel" "badges" "I", .methodLink RX6 97 yX6_sleepers, .instanceMethod yX6_sleepers, .selects RX6 yX6_sleepers yX6_sleepers, .initialized RX6, .code yX6_sleepers cX6_sleepers 5 (some .int), .fieldLink RX6 22 "CampBookModel" "tentOf" "[I", .fieldLink RX6 9 "CampBookModel" "patrolOf" "[I"] ++ wsX60)
def wsX6_count_r1 : List Cond := [Cond.fieldLink RX6 53 "CampBookModel" "thrown" "I", Cond.methodLink RX6 60 yX6_isIn, Cond.static yX6_isIn, Cond.initialized RX6, Cond.code yX6_isIn cX6_isIn 3 (some .boolean), Cond.methodLink RX6 119 yX6_counted, Cond.instanceMethod yX6_counted, Cond.selects RX6 yX6_counted yX6_counted, Cond.code yX6_counted cX6_counted 3 (some .int), Cond.arrayClass .int, Cond.fieldLink RX6 57 "CampBookModel" "patrols" "I", Cond.fieldLink RX6 64 "CampBookModel" "scouts" "I", Cond.fieldLink RX6 67 "CampBookModel" "tents" "I", Cond.fieldLink RX6 70 "CampBookModel" "foods" "I", Cond.fieldLink RX6 73 "CampBookModel" "meals" "I", Cond.fieldLink RX6 76 "CampBookModel" "badges" "I", Cond.methodLink RX6 97 yX6_sleepers, Cond.instanceMethod yX6_sleepers, Cond.selects RX6 yX6_sleepers yX6_sleepers, Cond.code yX6_sleepers cX6_sleepers 5 (some .int), Cond.fieldLink RX6 22 "CampBookModel" "tentOf" "[I", Cond.fieldLink RX6 9 "CampBookModel" "patrolOf" "[I", Cond.methodLink RX6 79 yX6_no, Cond.instanceMethod yX6_no]
def wsX6_count_r2 : List Cond := [Cond.selects RX6 yX6_no yX6_no, Cond.code yX6_no cX6_no 2 (some .int)]
def wsX6_count : List Cond := .code yX6_count cX6_count 2 (some .int) :: ((wsX6_count_r1 ++ wsX6_count_r2) ++ wsX60)
def wsX6_at : List Cond := .code yX6_at cX6_at 3 (some .int) :: ([.fieldLink RX6 38 "CampBookModel" "duties" "[I", .methodLink RX6 60 yX6_isIn, .static yX6_isIn, .initialized RX6, .code yX6_isIn cX6_isIn 3 (some .boolean)] ++ wsX60)
def wsX6_hasScout : List Cond := .code yX6_hasScout cX6_hasScout 5 (some .boolean) :: ([.fieldLink RX6 64 "CampBookModel" "scouts" "I", .fieldLink RX6 9 "CampBookModel" "patrolOf" "[I", .fieldLink RX6 13 "CampBookModel" "ages" "[I"] ++ wsX60)
def wsX6_canBeGiven : List Cond := .code yX6_canBeGiven cX6_canBeGiven 6 (some .boolean) :: ([.methodLink RX6 122 yX6_hasScout, .instanceMethod yX6_hasScout, .selects RX6 yX6_hasScout yX6_hasScout, .initialized RX6, .code yX6_hasScout cX6_hasScout 5 (some .boolean), .fieldLink RX6 64 "CampBookModel" "scouts" "I", .fieldLink RX6 9 "CampBookModel" "patrolOf" "[I", .fieldLink RX6 13 "CampBookModel" "ages" "[I", .methodLink RX6 125 yX6_at, .instanceMethod yX6_at, .selects RX6 yX6_at yX6_at, .code yX6_at cX6_at 3 (some .int), .fieldLink RX6 38 "CampBookModel" "duties" "[I", .methodLink RX6 60 yX6_isIn, .static yX6_isIn, .code yX6_isIn cX6_isIn 3 (some .boolean)] ++ wsX60)
def wsX6_giveDuty_r1 : List Cond := [Cond.fieldLink RX6 53 "CampBookModel" "thrown" "I", Cond.fieldLink RX6 128 "CampBookModel" "day" "I", Cond.fieldLink RX6 38 "CampBookModel" "duties" "[I", Cond.methodLink RX6 60 yX6_isIn, Cond.static yX6_isIn, Cond.initialized RX6, Cond.code yX6_isIn cX6_isIn 3 (some .boolean), Cond.methodLink RX6 83 yX6_isPatrol, Cond.instanceMethod yX6_isPatrol, Cond.selects RX6 yX6_isPatrol yX6_isPatrol, Cond.code yX6_isPatrol cX6_isPatrol 2 (some .boolean), Cond.fieldLink RX6 57 "CampBookModel" "patrols" "I", Cond.methodLink RX6 79 yX6_no, Cond.instanceMethod yX6_no, Cond.selects RX6 yX6_no yX6_no, Cond.code yX6_no cX6_no 2 (some .int), Cond.methodLink RX6 131 yX6_canBeGiven, Cond.instanceMethod yX6_canBeGiven, Cond.selects RX6 yX6_canBeGiven yX6_canBeGiven, Cond.code yX6_canBeGiven cX6_canBeGiven 6 (some .boolean), Cond.methodLink RX6 122 yX6_hasScout, Cond.instanceMethod yX6_hasScout, Cond.selects RX6 yX6_hasScout yX6_hasScout, Cond.code yX6_hasScout cX6_hasScout 5 (some .boolean)]
def wsX6_giveDuty_r2 : List Cond := [Cond.fieldLink RX6 64 "CampBookModel" "scouts" "I", Cond.fieldLink RX6 9 "CampBookModel" "patrolOf" "[I", Cond.fieldLink RX6 13 "CampBookModel" "ages" "[I", Cond.methodLink RX6 125 yX6_at, Cond.instanceMethod yX6_at, Cond.selects RX6 yX6_at yX6_at, Cond.code yX6_at cX6_at 3 (some .int)]
def wsX6_giveDuty : List Cond := .code yX6_giveDuty cX6_giveDuty 5 (some .int) :: ((wsX6_giveDuty_r1 ++ wsX6_giveDuty_r2) ++ wsX60)
def wsX6_duty : List Cond := .code yX6_duty cX6_duty 3 (some .int) :: ([.fieldLink RX6 53 "CampBookModel" "thrown" "I", .methodLink RX6 60 yX6_isIn, .static yX6_isIn, .initialized RX6, .code yX6_isIn cX6_isIn 3 (some .boolean), .methodLink RX6 125 yX6_at, .instanceMethod yX6_at, .selects RX6 yX6_at yX6_at, .code yX6_at cX6_at 3 (some .int), .fieldLink RX6 38 "CampBookModel" "duties" "[I", .methodLink RX6 79 yX6_no, .instanceMethod yX6_no, .selects RX6 yX6_no yX6_no, .code yX6_no cX6_no 2 (some .int)] ++ wsX60)
def wsX6_pointsOf : List Cond := .code yX6_pointsOf cX6_pointsOf 5 (some .int) :: ([.arrayClass .int, .fieldLink RX6 38 "CampBookModel" "duties" "[I"] ++ wsX60)
def wsX6_points : List Cond := .code yX6_points cX6_points 2 (some .int) :: ([.fieldLink RX6 53 "CampBookModel" "thrown" "I", .methodLink RX6 83 yX6_isPatrol, .instanceMethod yX6_isPatrol, .selects RX6 yX6_isPatrol yX6_isPatrol, .initialized RX6, .code yX6_isPatrol cX6_isPatrol 2 (some .boolean), .fieldLink RX6 57 "CampBookModel" "patrols" "I", .methodLink RX6 60 yX6_isIn, .static yX6_isIn, .code yX6_isIn cX6_isIn 3 (some .boolean), .methodLink RX6 134 yX6_pointsOf, .instanceMethod yX6_pointsOf, .selects RX6 yX6_pointsOf yX6_pointsOf, .code yX6_pointsOf cX6_pointsOf 5 (some .int), .arrayClass .int, .fieldLink RX6 38 "CampBookModel" "duties" "[I", .methodLink RX6 79 yX6_no, .instanceMethod yX6_no, .selects RX6 yX6_no yX6_no, .code yX6_no cX6_no 2 (some .int)] ++ wsX60)
def wsX6_findDuties_r1 : List Cond := [Cond.fieldLink RX6 53 "CampBookModel" "thrown" "I", Cond.arrayClass .int, Cond.fieldLink RX6 128 "CampBookModel" "day" "I", Cond.fieldLink RX6 57 "CampBookModel" "patrols" "I", Cond.fieldLink RX6 38 "CampBookModel" "duties" "[I", Cond.methodLink RX6 125 yX6_at, Cond.instanceMethod yX6_at, Cond.selects RX6 yX6_at yX6_at, Cond.initialized RX6, Cond.code yX6_at cX6_at 3 (some .int), Cond.methodLink RX6 60 yX6_isIn, Cond.static yX6_isIn, Cond.code yX6_isIn cX6_isIn 3 (some .boolean), Cond.methodLink RX6 131 yX6_canBeGiven, Cond.instanceMethod yX6_canBeGiven, Cond.selects RX6 yX6_canBeGiven yX6_canBeGiven, Cond.code yX6_canBeGiven cX6_canBeGiven 6 (some .boolean), Cond.methodLink RX6 122 yX6_hasScout, Cond.instanceMethod yX6_hasScout, Cond.selects RX6 yX6_hasScout yX6_hasScout, Cond.code yX6_hasScout cX6_hasScout 5 (some .boolean), Cond.fieldLink RX6 64 "CampBookModel" "scouts" "I", Cond.fieldLink RX6 9 "CampBookModel" "patrolOf" "[I", Cond.fieldLink RX6 13 "CampBookModel" "ages" "[I"]
def wsX6_findDuties_r2 : List Cond := [Cond.methodLink RX6 134 yX6_pointsOf, Cond.instanceMethod yX6_pointsOf, Cond.selects RX6 yX6_pointsOf yX6_pointsOf, Cond.code yX6_pointsOf cX6_pointsOf 5 (some .int)]
def wsX6_findDuties : List Cond := .code yX6_findDuties cX6_findDuties 9 (some .int) :: ((wsX6_findDuties_r1 ++ wsX6_findDuties_r2) ++ wsX60)
def wsX6_addFood : List Cond := .code yX6_addFood cX6_addFood 2 (some .int) :: ([.fieldLink RX6 53 "CampBookModel" "thrown" "I", .fieldLink RX6 70 "CampBookModel" "foods" "I", .fieldLink RX6 41 "CampBookModel" "stores" "[I", .methodLink RX6 60 yX6_isIn, .static yX6_isIn, .initialized RX6, .code yX6_isIn cX6_isIn 3 (some .boolean), .methodLink RX6 79 yX6_no, .instanceMethod yX6_no, .selects RX6 yX6_no yX6_no, .code yX6_no cX6_no 2 (some .int)] ++ wsX60)
def wsX6_buy : List Cond := .code yX6_buy cX6_buy 3 (some .int) :: ([.fieldLink RX6 53 "CampBookModel" "thrown" "I", .fieldLink RX6 41 "CampBookModel" "stores" "[I", .methodLink RX6 137 yX6_isFood, .instanceMethod yX6_isFood, .selects RX6 yX6_isFood yX6_isFood, .initialized RX6, .code yX6_isFood cX6_isFood 2 (some .boolean), .fieldLink RX6 70 "CampBookModel" "foods" "I", .methodLink RX6 60 yX6_isIn, .static yX6_isIn, .code yX6_isIn cX6_isIn 3 (some .boolean), .methodLink RX6 79 yX6_no, .instanceMethod yX6_no, .selects RX6 yX6_no yX6_no, .code yX6_no cX6_no 2 (some .int)] ++ wsX60)
def wsX6_store : List Cond := .code yX6_store cX6_store 2 (some .int) :: ([.fieldLink RX6 53 "CampBookModel" "thrown" "I", .fieldLink RX6 41 "CampBookModel" "stores" "[I", .methodLink RX6 137 yX6_isFood, .instanceMethod yX6_isFood, .selects RX6 yX6_isFood yX6_isFood, .initialized RX6, .code yX6_isFood cX6_isFood 2 (some .boolean), .fieldLink RX6 70 "CampBookModel" "foods" "I", .methodLink RX6 60 yX6_isIn, .static yX6_isIn, .code yX6_isIn cX6_isIn 3 (some .boolean), .methodLink RX6 79 yX6_no, .instanceMethod yX6_no, .selects RX6 yX6_no yX6_no, .code yX6_no cX6_no 2 (some .int)] ++ wsX60)
def wsX6_diet : List Cond := .code yX6_diet cX6_diet 5 (some .boolean) :: ([.fieldLink RX6 53 "CampBookModel" "thrown" "I", .fieldLink RX6 19 "CampBookModel" "avoids" "[I", .methodLink RX6 90 yX6_isScout, .instanceMethod yX6_isScout, .selects RX6 yX6_isScout yX6_isScout, .initialized RX6, .code yX6_isScout cX6_isScout 2 (some .boolean), .fieldLink RX6 64 "CampBookModel" "scouts" "I", .methodLink RX6 60 yX6_isIn, .static yX6_isIn, .code yX6_isIn cX6_isIn 3 (some .boolean), .methodLink RX6 137 yX6_isFood, .instanceMethod yX6_isFood, .selects RX6 yX6_isFood yX6_isFood, .code yX6_isFood cX6_isFood 2 (some .boolean), .fieldLink RX6 70 "CampBookModel" "foods" "I"] ++ wsX60)
def wsX6_addMeal : List Cond := .code yX6_addMeal cX6_addMeal 1 (some .int) :: ([.fieldLink RX6 53 "CampBookModel" "thrown" "I", .fieldLink RX6 73 "CampBookModel" "meals" "I", .methodLink RX6 79 yX6_no, .instanceMethod yX6_no, .selects RX6 yX6_no yX6_no, .initialized RX6, .code yX6_no cX6_no 2 (some .int)] ++ wsX60)
def wsX6_need : List Cond := .code yX6_need cX6_need 5 (some .int) :: ([.fieldLink RX6 53 "CampBookModel" "thrown" "I", .fieldLink RX6 44 "CampBookModel" "units" "[I", .methodLink RX6 140 yX6_isMeal, .instanceMethod yX6_isMeal, .selects RX6 yX6_isMeal yX6_isMeal, .initialized RX6, .code yX6_isMeal cX6_isMeal 2 (some .boolean), .fieldLink RX6 73 "CampBookModel" "meals" "I", .methodLink RX6 60 yX6_isIn, .static yX6_isIn, .code yX6_isIn cX6_isIn 3 (some .boolean), .methodLink RX6 137 yX6_isFood, .instanceMethod yX6_isFood, .selects RX6 yX6_isFood yX6_isFood, .code yX6_isFood cX6_isFood 2 (some .boolean), .fieldLink RX6 70 "CampBookModel" "foods" "I", .methodLink RX6 79 yX6_no, .instanceMethod yX6_no, .selects RX6 yX6_no yX6_no, .code yX6_no cX6_no 2 (some .int)] ++ wsX60)
def wsX6_canEat : List Cond := .code yX6_canEat cX6_canEat 5 (some .boolean) :: ([.fieldLink RX6 70 "CampBookModel" "foods" "I", .fieldLink RX6 44 "CampBookModel" "units" "[I", .fieldLink RX6 19 "CampBookModel" "avoids" "[I"] ++ wsX60)
def wsX6_eatersOf : List Cond := .code yX6_eatersOf cX6_eatersOf 5 (some .int) :: ([.fieldLink RX6 64 "CampBookModel" "scouts" "I", .fieldLink RX6 31 "CampBookModel" "hasEaten" "[Z", .methodLink RX6 143 yX6_canEat, .instanceMethod yX6_canEat, .selects RX6 yX6_canEat yX6_canEat, .initialized RX6, .code yX6_canEat cX6_canEat 5 (some .boolean), .fieldLink RX6 70 "CampBookModel" "foods" "I", .fieldLink RX6 44 "CampBookModel" "units" "[I", .fieldLink RX6 19 "CampBookModel" "avoids" "[I"] ++ wsX60)
def wsX6_setOf : List Cond := .code yX6_setOf cX6_setOf 5 (some .long) :: ([.fieldLink RX6 64 "CampBookModel" "scouts" "I", .methodLink RX6 143 yX6_canEat, .instanceMethod yX6_canEat, .selects RX6 yX6_canEat yX6_canEat, .initialized RX6, .code yX6_canEat cX6_canEat 5 (some .boolean), .fieldLink RX6 70 "CampBookModel" "foods" "I", .fieldLink RX6 44 "CampBookModel" "units" "[I", .fieldLink RX6 19 "CampBookModel" "avoids" "[I"] ++ wsX60)
def wsX6_eaters : List Cond := .code yX6_eaters cX6_eaters 2 (some .long) :: ([.fieldLink RX6 53 "CampBookModel" "thrown" "I", .methodLink RX6 140 yX6_isMeal, .instanceMethod yX6_isMeal, .selects RX6 yX6_isMeal yX6_isMeal, .initialized RX6, .code yX6_isMeal cX6_isMeal 2 (some .boolean), .fieldLink RX6 73 "CampBookModel" "meals" "I", .methodLink RX6 60 yX6_isIn, .static yX6_isIn, .code yX6_isIn cX6_isIn 3 (some .boolean), .methodLink RX6 146 yX6_setOf, .instanceMethod yX6_setOf, .selects RX6 yX6_setOf yX6_setOf, .code yX6_setOf cX6_setOf 5 (some .long), .fieldLink RX6 64 "CampBookModel" "scouts" "I", .methodLink RX6 143 yX6_canEat, .instanceMethod yX6_canEat, .selects RX6 yX6_canEat yX6_canEat, .code yX6_canEat cX6_canEat 5 (some .boolean), .fieldLink RX6 70 "CampBookModel" "foods" "I", .fieldLink RX6 44 "CampBookModel" "units" "[I", .fieldLink RX6 19 "CampBookModel" "avoids" "[I"] ++ wsX60)
def wsX6_lacks_r1 : List Cond := [Cond.fieldLink RX6 53 "CampBookModel" "thrown" "I", Cond.fieldLink RX6 44 "CampBookModel" "units" "[I", Cond.fieldLink RX6 41 "CampBookModel" "stores" "[I", Cond.methodLink RX6 153 Lib.Math.max.name, Cond.static Lib.Math.max.name, Cond.initialized "java/lang/Math", Cond.code Lib.Math.max.name Lib.Math.max.code 2 (some .int), Cond.methodLink RX6 140 yX6_isMeal, Cond.instanceMethod yX6_isMeal, Cond.selects RX6 yX6_isMeal yX6_isMeal, Cond.initialized RX6, Cond.code yX6_isMeal cX6_isMeal 2 (some .boolean), Cond.fieldLink RX6 73 "CampBookModel" "meals" "I", Cond.methodLink RX6 60 yX6_isIn, Cond.static yX6_isIn, Cond.code yX6_isIn cX6_isIn 3 (some .boolean), Cond.methodLink RX6 137 yX6_isFood, Cond.instanceMethod yX6_isFood, Cond.selects RX6 yX6_isFood yX6_isFood, Cond.code yX6_isFood cX6_isFood 2 (some .boolean), Cond.fieldLink RX6 70 "CampBookModel" "foods" "I", Cond.methodLink RX6 79 yX6_no, Cond.instanceMethod yX6_no, Cond.selects RX6 yX6_no yX6_no]
def wsX6_lacks_r2 : List Cond := [Cond.code yX6_no cX6_no 2 (some .int), Cond.methodLink RX6 149 yX6_eatersOf, Cond.instanceMethod yX6_eatersOf, Cond.selects RX6 yX6_eatersOf yX6_eatersOf, Cond.code yX6_eatersOf cX6_eatersOf 5 (some .int), Cond.fieldLink RX6 64 "CampBookModel" "scouts" "I", Cond.fieldLink RX6 31 "CampBookModel" "hasEaten" "[Z", Cond.methodLink RX6 143 yX6_canEat, Cond.instanceMethod yX6_canEat, Cond.selects RX6 yX6_canEat yX6_canEat, Cond.code yX6_canEat cX6_canEat 5 (some .boolean), Cond.fieldLink RX6 19 "CampBookModel" "avoids" "[I"]
def wsX6_lacks : List Cond := .code yX6_lacks cX6_lacks 4 (some .int) :: ((wsX6_lacks_r1 ++ wsX6_lacks_r2) ++ wsX60)
def wsX6_canBeEaten : List Cond := .code yX6_canBeEaten cX6_canBeEaten 6 (some .boolean) :: ([.fieldLink RX6 156 "CampBookModel" "eaten" "I", .fieldLink RX6 70 "CampBookModel" "foods" "I", .fieldLink RX6 44 "CampBookModel" "units" "[I", .fieldLink RX6 41 "CampBookModel" "stores" "[I", .methodLink RX6 149 yX6_eatersOf, .instanceMethod yX6_eatersOf, .selects RX6 yX6_eatersOf yX6_eatersOf, .initialized RX6, .code yX6_eatersOf cX6_eatersOf 5 (some .int), .fieldLink RX6 64 "CampBookModel" "scouts" "I", .fieldLink RX6 31 "CampBookModel" "hasEaten" "[Z", .methodLink RX6 143 yX6_canEat, .instanceMethod yX6_canEat, .selects RX6 yX6_canEat yX6_canEat, .code yX6_canEat cX6_canEat 5 (some .boolean), .fieldLink RX6 19 "CampBookModel" "avoids" "[I"] ++ wsX60)
def wsX6_eat_r1 : List Cond := [Cond.fieldLink RX6 53 "CampBookModel" "thrown" "I", Cond.fieldLink RX6 70 "CampBookModel" "foods" "I", Cond.fieldLink RX6 41 "CampBookModel" "stores" "[I", Cond.fieldLink RX6 44 "CampBookModel" "units" "[I", Cond.fieldLink RX6 64 "CampBookModel" "scouts" "I", Cond.fieldLink RX6 31 "CampBookModel" "hasEaten" "[Z", Cond.fieldLink RX6 156 "CampBookModel" "eaten" "I", Cond.methodLink RX6 140 yX6_isMeal, Cond.instanceMethod yX6_isMeal, Cond.selects RX6 yX6_isMeal yX6_isMeal, Cond.initialized RX6, Cond.code yX6_isMeal cX6_isMeal 2 (some .boolean), Cond.fieldLink RX6 73 "CampBookModel" "meals" "I", Cond.methodLink RX6 60 yX6_isIn, Cond.static yX6_isIn, Cond.code yX6_isIn cX6_isIn 3 (some .boolean), Cond.methodLink RX6 79 yX6_no, Cond.instanceMethod yX6_no, Cond.selects RX6 yX6_no yX6_no, Cond.code yX6_no cX6_no 2 (some .int), Cond.methodLink RX6 159 yX6_canBeEaten, Cond.instanceMethod yX6_canBeEaten, Cond.selects RX6 yX6_canBeEaten yX6_canBeEaten, Cond.code yX6_canBeEaten cX6_canBeEaten 6 (some .boolean)]
def wsX6_eat_r2 : List Cond := [Cond.methodLink RX6 149 yX6_eatersOf, Cond.instanceMethod yX6_eatersOf, Cond.selects RX6 yX6_eatersOf yX6_eatersOf, Cond.code yX6_eatersOf cX6_eatersOf 5 (some .int), Cond.methodLink RX6 143 yX6_canEat, Cond.instanceMethod yX6_canEat, Cond.selects RX6 yX6_canEat yX6_canEat, Cond.code yX6_canEat cX6_canEat 5 (some .boolean), Cond.fieldLink RX6 19 "CampBookModel" "avoids" "[I"]
def wsX6_eat : List Cond := .code yX6_eat cX6_eat 4 (some .int) :: ((wsX6_eat_r1 ++ wsX6_eat_r2) ++ wsX60)
def wsX6_tableOf : List Cond := .code yX6_tableOf cX6_tableOf 4 (some .int) :: ([.fieldLink RX6 156 "CampBookModel" "eaten" "I", .fieldLink RX6 64 "CampBookModel" "scouts" "I", .fieldLink RX6 31 "CampBookModel" "hasEaten" "[Z", .fieldLink RX6 73 "CampBookModel" "meals" "I", .methodLink RX6 159 yX6_canBeEaten, .instanceMethod yX6_canBeEaten, .selects RX6 yX6_canBeEaten yX6_canBeEaten, .initialized RX6, .code yX6_canBeEaten cX6_canBeEaten 6 (some .boolean), .fieldLink RX6 70 "CampBookModel" "foods" "I", .fieldLink RX6 44 "CampBookModel" "units" "[I", .fieldLink RX6 41 "CampBookModel" "stores" "[I", .methodLink RX6 149 yX6_eatersOf, .instanceMethod yX6_eatersOf, .selects RX6 yX6_eatersOf yX6_eatersOf, .code yX6_eatersOf cX6_eatersOf 5 (some .int), .methodLink RX6 143 yX6_canEat, .instanceMethod yX6_canEat, .selects RX6 yX6_canEat yX6_canEat, .code yX6_canEat cX6_canEat 5 (some .boolean), .fieldLink RX6 19 "CampBookModel" "avoids" "[I"] ++ wsX60)
def wsX6_table_r1 : List Cond := [Cond.fieldLink RX6 53 "CampBookModel" "thrown" "I", Cond.methodLink RX6 60 yX6_isIn, Cond.static yX6_isIn, Cond.initialized RX6, Cond.code yX6_isIn cX6_isIn 3 (some .boolean), Cond.methodLink RX6 162 yX6_tableOf, Cond.instanceMethod yX6_tableOf, Cond.selects RX6 yX6_tableOf yX6_tableOf, Cond.code yX6_tableOf cX6_tableOf 4 (some .int), Cond.fieldLink RX6 156 "CampBookModel" "eaten" "I", Cond.fieldLink RX6 64 "CampBookModel" "scouts" "I", Cond.fieldLink RX6 31 "CampBookModel" "hasEaten" "[Z", Cond.fieldLink RX6 73 "CampBookModel" "meals" "I", Cond.methodLink RX6 159 yX6_canBeEaten, Cond.instanceMethod yX6_canBeEaten, Cond.selects RX6 yX6_canBeEaten yX6_canBeEaten, Cond.code yX6_canBeEaten cX6_canBeEaten 6 (some .boolean), Cond.fieldLink RX6 70 "CampBookModel" "foods" "I", Cond.fieldLink RX6 44 "CampBookModel" "units" "[I", Cond.fieldLink RX6 41 "CampBookModel" "stores" "[I", Cond.methodLink RX6 149 yX6_eatersOf, Cond.instanceMethod yX6_eatersOf, Cond.selects RX6 yX6_eatersOf yX6_eatersOf, Cond.code yX6_eatersOf cX6_eatersOf 5 (some .int)]
def wsX6_table_r2 : List Cond := [Cond.methodLink RX6 143 yX6_canEat, Cond.instanceMethod yX6_canEat, Cond.selects RX6 yX6_canEat yX6_canEat, Cond.code yX6_canEat cX6_canEat 5 (some .boolean), Cond.fieldLink RX6 19 "CampBookModel" "avoids" "[I", Cond.methodLink RX6 79 yX6_no, Cond.instanceMethod yX6_no, Cond.selects RX6 yX6_no yX6_no, Cond.code yX6_no cX6_no 2 (some .int)]
def wsX6_table : List Cond := .code yX6_table cX6_table 2 (some .int) :: ((wsX6_table_r1 ++ wsX6_table_r2) ++ wsX60)
def wsX6_addBadge : List Cond := .code yX6_addBadge cX6_addBadge 2 (some .int) :: ([.fieldLink RX6 53 "CampBookModel" "thrown" "I", .fieldLink RX6 76 "CampBookModel" "badges" "I", .fieldLink RX6 47 "CampBookModel" "badgeAges" "[I", .methodLink RX6 60 yX6_isIn, .static yX6_isIn, .initialized RX6, .code yX6_isIn cX6_isIn 3 (some .boolean), .methodLink RX6 79 yX6_no, .instanceMethod yX6_no, .selects RX6 yX6_no yX6_no, .code yX6_no cX6_no 2 (some .int)] ++ wsX60)
def wsX6_isActivity : List Cond := .code yX6_isActivity cX6_isActivity 1 (some .boolean) :: ([.methodLink RX6 60 yX6_isIn, .static yX6_isIn, .initialized RX6, .code yX6_isIn cX6_isIn 3 (some .boolean)])
def wsX6_want : List Cond := .code yX6_want cX6_want 5 (some .int) :: ([.fieldLink RX6 53 "CampBookModel" "thrown" "I", .fieldLink RX6 50 "CampBookModel" "wants" "[I", .methodLink RX6 165 yX6_isBadge, .instanceMethod yX6_isBadge, .selects RX6 yX6_isBadge yX6_isBadge, .initialized RX6, .code yX6_isBadge cX6_isBadge 2 (some .boolean), .fieldLink RX6 76 "CampBookModel" "badges" "I", .methodLink RX6 60 yX6_isIn, .static yX6_isIn, .code yX6_isIn cX6_isIn 3 (some .boolean), .methodLink RX6 168 yX6_isActivity, .static yX6_isActivity, .code yX6_isActivity cX6_isActivity 1 (some .boolean), .methodLink RX6 79 yX6_no, .instanceMethod yX6_no, .selects RX6 yX6_no yX6_no, .code yX6_no cX6_no 2 (some .int)] ++ wsX60)
def wsX6_practise : List Cond := .code yX6_practise cX6_practise 6 (some .int) :: ([.fieldLink RX6 53 "CampBookModel" "thrown" "I", .fieldLink RX6 64 "CampBookModel" "scouts" "I", .fieldLink RX6 9 "CampBookModel" "patrolOf" "[I", .fieldLink RX6 28 "CampBookModel" "hours" "[I", .methodLink RX6 83 yX6_isPatrol, .instanceMethod yX6_isPatrol, .selects RX6 yX6_isPatrol yX6_isPatrol, .initialized RX6, .code yX6_isPatrol cX6_isPatrol 2 (some .boolean), .fieldLink RX6 57 "CampBookModel" "patrols" "I", .methodLink RX6 60 yX6_isIn, .static yX6_isIn, .code yX6_isIn cX6_isIn 3 (some .boolean), .methodLink RX6 168 yX6_isActivity, .static yX6_isActivity, .code yX6_isActivity cX6_isActivity 1 (some .boolean), .methodLink RX6 79 yX6_no, .instanceMethod yX6_no, .selects RX6 yX6_no yX6_no, .code yX6_no cX6_no 2 (some .int)] ++ wsX60)
def wsX6_awayFrom : List Cond := .code yX6_awayFrom cX6_awayFrom 5 (some .int) :: ([.fieldLink RX6 25 "CampBookModel" "badgesOf" "[I", .fieldLink RX6 13 "CampBookModel" "ages" "[I", .fieldLink RX6 47 "CampBookModel" "badgeAges" "[I", .fieldLink RX6 50 "CampBookModel" "wants" "[I", .fieldLink RX6 28 "CampBookModel" "hours" "[I", .methodLink RX6 153 Lib.Math.max.name, .static Lib.Math.max.name, .initialized "java/lang/Math", .code Lib.Math.max.name Lib.Math.max.code 2 (some .int)] ++ wsX60)
def wsX6_away_r1 : List Cond := [Cond.fieldLink RX6 53 "CampBookModel" "thrown" "I", Cond.methodLink RX6 90 yX6_isScout, Cond.instanceMethod yX6_isScout, Cond.selects RX6 yX6_isScout yX6_isScout, Cond.initialized RX6, Cond.code yX6_isScout cX6_isScout 2 (some .boolean), Cond.fieldLink RX6 64 "CampBookModel" "scouts" "I", Cond.methodLink RX6 60 yX6_isIn, Cond.static yX6_isIn, Cond.code yX6_isIn cX6_isIn 3 (some .boolean), Cond.methodLink RX6 165 yX6_isBadge, Cond.instanceMethod yX6_isBadge, Cond.selects RX6 yX6_isBadge yX6_isBadge, Cond.code yX6_isBadge cX6_isBadge 2 (some .boolean), Cond.fieldLink RX6 76 "CampBookModel" "badges" "I", Cond.methodLink RX6 171 yX6_awayFrom, Cond.instanceMethod yX6_awayFrom, Cond.selects RX6 yX6_awayFrom yX6_awayFrom, Cond.code yX6_awayFrom cX6_awayFrom 5 (some .int), Cond.fieldLink RX6 25 "CampBookModel" "badgesOf" "[I", Cond.fieldLink RX6 13 "CampBookModel" "ages" "[I", Cond.fieldLink RX6 47 "CampBookModel" "badgeAges" "[I", Cond.fieldLink RX6 50 "CampBookModel" "wants" "[I", Cond.fieldLink RX6 28 "CampBookModel" "hours" "[I"]
def wsX6_away_r2 : List Cond := [Cond.methodLink RX6 153 Lib.Math.max.name, Cond.static Lib.Math.max.name, Cond.initialized "java/lang/Math", Cond.code Lib.Math.max.name Lib.Math.max.code 2 (some .int), Cond.methodLink RX6 79 yX6_no, Cond.instanceMethod yX6_no, Cond.selects RX6 yX6_no yX6_no, Cond.code yX6_no cX6_no 2 (some .int)]
def wsX6_away : List Cond := .code yX6_away cX6_away 3 (some .int) :: ((wsX6_away_r1 ++ wsX6_away_r2) ++ wsX60)
def wsX6_earn_r1 : List Cond := [Cond.fieldLink RX6 53 "CampBookModel" "thrown" "I", Cond.fieldLink RX6 25 "CampBookModel" "badgesOf" "[I", Cond.methodLink RX6 90 yX6_isScout, Cond.instanceMethod yX6_isScout, Cond.selects RX6 yX6_isScout yX6_isScout, Cond.initialized RX6, Cond.code yX6_isScout cX6_isScout 2 (some .boolean), Cond.fieldLink RX6 64 "CampBookModel" "scouts" "I", Cond.methodLink RX6 60 yX6_isIn, Cond.static yX6_isIn, Cond.code yX6_isIn cX6_isIn 3 (some .boolean), Cond.methodLink RX6 165 yX6_isBadge, Cond.instanceMethod yX6_isBadge, Cond.selects RX6 yX6_isBadge yX6_isBadge, Cond.code yX6_isBadge cX6_isBadge 2 (some .boolean), Cond.fieldLink RX6 76 "CampBookModel" "badges" "I", Cond.methodLink RX6 79 yX6_no, Cond.instanceMethod yX6_no, Cond.selects RX6 yX6_no yX6_no, Cond.code yX6_no cX6_no 2 (some .int), Cond.methodLink RX6 171 yX6_awayFrom, Cond.instanceMethod yX6_awayFrom, Cond.selects RX6 yX6_awayFrom yX6_awayFrom, Cond.code yX6_awayFrom cX6_awayFrom 5 (some .int)]
def wsX6_earn_r2 : List Cond := [Cond.fieldLink RX6 13 "CampBookModel" "ages" "[I", Cond.fieldLink RX6 47 "CampBookModel" "badgeAges" "[I", Cond.fieldLink RX6 50 "CampBookModel" "wants" "[I", Cond.fieldLink RX6 28 "CampBookModel" "hours" "[I", Cond.methodLink RX6 153 Lib.Math.max.name, Cond.static Lib.Math.max.name, Cond.initialized "java/lang/Math", Cond.code Lib.Math.max.name Lib.Math.max.code 2 (some .int)]
def wsX6_earn : List Cond := .code yX6_earn cX6_earn 5 (some .int) :: ((wsX6_earn_r1 ++ wsX6_earn_r2) ++ wsX60)
def wsX6_hike : List Cond := .code yX6_hike cX6_hike 9 (some .int) :: ([.fieldLink RX6 53 "CampBookModel" "thrown" "I", .fieldLink RX6 64 "CampBookModel" "scouts" "I", .fieldLink RX6 13 "CampBookModel" "ages" "[I", .methodLink RX6 153 Lib.Math.max.name, .static Lib.Math.max.name, .initialized "java/lang/Math", .code Lib.Math.max.name Lib.Math.max.code 2 (some .int), .fieldLink RX6 16 "CampBookModel" "skills" "[I", .methodLink RX6 60 yX6_isIn, .static yX6_isIn, .initialized RX6, .code yX6_isIn cX6_isIn 3 (some .boolean), .methodLink RX6 79 yX6_no, .instanceMethod yX6_no, .selects RX6 yX6_no yX6_no, .code yX6_no cX6_no 2 (some .int)] ++ wsX60)
def wsX6_end : List Cond := .code yX6_end cX6_end 2 (some .int) :: ([.fieldLink RX6 53 "CampBookModel" "thrown" "I", .fieldLink RX6 128 "CampBookModel" "day" "I", .fieldLink RX6 156 "CampBookModel" "eaten" "I", .fieldLink RX6 31 "CampBookModel" "hasEaten" "[Z", .methodLink RX6 79 yX6_no, .instanceMethod yX6_no, .selects RX6 yX6_no yX6_no, .initialized RX6, .code yX6_no cX6_no 2 (some .int)] ++ wsX60)
def wsX6_day : List Cond := .code yX6_day cX6_day 1 (some .int) :: ([.fieldLink RX6 53 "CampBookModel" "thrown" "I", .fieldLink RX6 128 "CampBookModel" "day" "I"] ++ wsX60)
def wsX6_meanAge : List Cond := .code yX6_meanAge cX6_meanAge 3 (some .double) :: ([.fieldLink RX6 53 "CampBookModel" "thrown" "I", .fieldLink RX6 64 "CampBookModel" "scouts" "I", .fieldLink RX6 13 "CampBookModel" "ages" "[I"] ++ wsX60)
def wsX6_digest_r1 : List Cond := [Cond.fieldLink RX6 53 "CampBookModel" "thrown" "I", Cond.constantLong RX6 174 (10943), Cond.fieldLink RX6 128 "CampBookModel" "day" "I", Cond.constantLong RX6 176 (31), Cond.fieldLink RX6 57 "CampBookModel" "patrols" "I", Cond.fieldLink RX6 64 "CampBookModel" "scouts" "I", Cond.fieldLink RX6 67 "CampBookModel" "tents" "I", Cond.fieldLink RX6 70 "CampBookModel" "foods" "I", Cond.fieldLink RX6 41 "CampBookModel" "stores" "[I", Cond.fieldLink RX6 73 "CampBookModel" "meals" "I", Cond.methodLink RX6 119 yX6_counted, Cond.instanceMethod yX6_counted, Cond.selects RX6 yX6_counted yX6_counted, Cond.initialized RX6, Cond.code yX6_counted cX6_counted 3 (some .int), Cond.arrayClass .int, Cond.fieldLink RX6 76 "CampBookModel" "badges" "I", Cond.methodLink RX6 97 yX6_sleepers, Cond.instanceMethod yX6_sleepers, Cond.selects RX6 yX6_sleepers yX6_sleepers, Cond.code yX6_sleepers cX6_sleepers 5 (some .int), Cond.fieldLink RX6 22 "CampBookModel" "tentOf" "[I", Cond.fieldLink RX6 9 "CampBookModel" "patrolOf" "[I", Cond.methodLink RX6 134 yX6_pointsOf]
def wsX6_digest_r2 : List Cond := [Cond.instanceMethod yX6_pointsOf, Cond.selects RX6 yX6_pointsOf yX6_pointsOf, Cond.code yX6_pointsOf cX6_pointsOf 5 (some .int), Cond.fieldLink RX6 38 "CampBookModel" "duties" "[I", Cond.methodLink RX6 93 yX6_told, Cond.instanceMethod yX6_told, Cond.selects RX6 yX6_told yX6_told, Cond.code yX6_told cX6_told 4 (some .int), Cond.fieldLink RX6 13 "CampBookModel" "ages" "[I", Cond.fieldLink RX6 16 "CampBookModel" "skills" "[I", Cond.fieldLink RX6 19 "CampBookModel" "avoids" "[I", Cond.fieldLink RX6 25 "CampBookModel" "badgesOf" "[I", Cond.methodLink RX6 87 yX6_hoursOf, Cond.instanceMethod yX6_hoursOf, Cond.selects RX6 yX6_hoursOf yX6_hoursOf, Cond.code yX6_hoursOf cX6_hoursOf 4 (some .int), Cond.fieldLink RX6 28 "CampBookModel" "hours" "[I", Cond.methodLink RX6 112 yX6_in, Cond.instanceMethod yX6_in, Cond.selects RX6 yX6_in yX6_in, Cond.code yX6_in cX6_in 5 (some .long), Cond.methodLink RX6 125 yX6_at, Cond.instanceMethod yX6_at, Cond.selects RX6 yX6_at yX6_at]
def wsX6_digest_r3 : List Cond := [Cond.code yX6_at cX6_at 3 (some .int), Cond.methodLink RX6 60 yX6_isIn, Cond.static yX6_isIn, Cond.code yX6_isIn cX6_isIn 3 (some .boolean), Cond.methodLink RX6 146 yX6_setOf, Cond.instanceMethod yX6_setOf, Cond.selects RX6 yX6_setOf yX6_setOf, Cond.code yX6_setOf cX6_setOf 5 (some .long), Cond.methodLink RX6 143 yX6_canEat, Cond.instanceMethod yX6_canEat, Cond.selects RX6 yX6_canEat yX6_canEat, Cond.code yX6_canEat cX6_canEat 5 (some .boolean), Cond.fieldLink RX6 44 "CampBookModel" "units" "[I", Cond.methodLink RX6 162 yX6_tableOf, Cond.instanceMethod yX6_tableOf, Cond.selects RX6 yX6_tableOf yX6_tableOf, Cond.code yX6_tableOf cX6_tableOf 4 (some .int), Cond.fieldLink RX6 156 "CampBookModel" "eaten" "I", Cond.fieldLink RX6 31 "CampBookModel" "hasEaten" "[Z", Cond.methodLink RX6 159 yX6_canBeEaten, Cond.instanceMethod yX6_canBeEaten, Cond.selects RX6 yX6_canBeEaten yX6_canBeEaten, Cond.code yX6_canBeEaten cX6_canBeEaten 6 (some .boolean), Cond.methodLink RX6 149 yX6_eatersOf]
def wsX6_digest_r4 : List Cond := [Cond.instanceMethod yX6_eatersOf, Cond.selects RX6 yX6_eatersOf yX6_eatersOf, Cond.code yX6_eatersOf cX6_eatersOf 5 (some .int)]
def wsX6_digest : List Cond := .code yX6_digest cX6_digest 5 (some .long) :: ((wsX6_digest_r1 ++ (wsX6_digest_r2 ++ (wsX6_digest_r3 ++ wsX6_digest_r4))) ++ wsX60)
def wsJ9_abs_0f7a4 : List Cond := .code yJ9_abs_0f7a4 cJ9_abs_0f7a4 1 (some .int) :: ([])
def wsJ9_max_7cf53 : List Cond := .code yJ9_max_7cf53 cJ9_max_7cf53 2 (some .int) :: ([])
def wsL_addPatrol : List Cond := .codeWith yL_addPatrol cL_addPatrol 3 (some .int) [(0, 8, 11, 13)] :: ([.classLink RL 13 "java/lang/IllegalStateException", .methodLink RL 7 yX5_addPatrol, .instanceMethod yX5_addPatrol, .selects RX5 yX5_addPatrol yX5_addPatrol, .initialized RX5, .code yX5_addPatrol cX5_addPatrol 1 (some .int), .classLink RX5 51 "java/lang/IllegalStateException", .initialized "java/lang/IllegalStateException", .fieldLink RX5 10 "CampBook" "people" "LCampBook$People;", .fieldLink RX5 48 "CampBook$People" "patrols" "I"] ++ wsX50 ++ wsX30 ++ (vx_atS RX5 55 "java/lang/IllegalStateException" ["java/lang/RuntimeException", "java/lang/Exception"]).filter goodWord)
def wsL_addScout_r1 : List Cond := [Cond.classLink RL 19 "java/lang/IndexOutOfBoundsException", Cond.classLink RL 21 "java/lang/IllegalArgumentException", Cond.classLink RL 13 "java/lang/IllegalStateException", Cond.methodLink RL 15 yX5_addScout, Cond.instanceMethod yX5_addScout, Cond.selects RX5 yX5_addScout yX5_addScout, Cond.initialized RX5, Cond.code yX5_addScout cX5_addScout 4 (some .int), Cond.classLink RX5 51 "java/lang/IllegalStateException", Cond.initialized "java/lang/IllegalStateException", Cond.fieldLink RX5 10 "CampBook" "people" "LCampBook$People;", Cond.fieldLink RX5 48 "CampBook$People" "patrols" "I", Cond.fieldLink RX5 66 "CampBook$People" "scouts" "I", Cond.methodLink RX5 58 yX5_checkNumber, Cond.static yX5_checkNumber, Cond.code yX5_checkNumber cX5_checkNumber 2 none, Cond.classLink RX5 273 "java/lang/IndexOutOfBoundsException", Cond.initialized "java/lang/IndexOutOfBoundsException", Cond.methodLink RX5 62 yX5_checkArgument, Cond.static yX5_checkArgument, Cond.code yX5_checkArgument cX5_checkArgument 3 none, Cond.classLink RX5 238 "java/lang/IllegalArgumentException", Cond.initialized "java/lang/IllegalArgumentException", Cond.methodLink RX5 71 yX3_enrol]
def wsL_addScout_r2 : List Cond := [Cond.instanceMethod yX3_enrol, Cond.selects RX3 yX3_enrol yX3_enrol, Cond.initialized RX3, Cond.code yX3_enrol cX3_enrol 5 (some .int), Cond.fieldLink RX3 30 "CampBook$People" "scouts" "I", Cond.fieldLink RX3 9 "CampBook$People" "patrol" "[I", Cond.fieldLink RX3 15 "CampBook$People" "age" "[I", Cond.fieldLink RX3 18 "CampBook$People" "skills" "[I"]
def wsL_addScout : List Cond := .codeWith yL_addScout cL_addScout 6 (some .int) [(0, 12, 15, 19), (0, 12, 19, 21), (0, 12, 23, 13)] :: ((wsL_addScout_r1 ++ wsL_addScout_r2) ++ wsX50 ++ wsX30 ++ (vx_atS RX5 55 "java/lang/IllegalStateException" ["java/lang/RuntimeException", "java/lang/Exception"]).filter goodWord ++ (vx_atS RX5 277 "java/lang/IndexOutOfBoundsException" ["java/lang/RuntimeException", "java/lang/Exception"]).filter goodWord ++ (vx_atS RX5 242 "java/lang/IllegalArgumentException" ["java/lang/RuntimeException", "java/lang/Exception"]).filter goodWord)
def wsL_scout_r1 : List Cond := [Cond.classLink RL 19 "java/lang/IndexOutOfBoundsException", Cond.methodLink RL 23 yX5_scout, Cond.instanceMethod yX5_scout, Cond.selects RX5 yX5_scout yX5_scout, Cond.initialized RX5, Cond.code yX5_scout cX5_scout 3 (some .int), Cond.fieldLink RX5 10 "CampBook" "people" "LCampBook$People;", Cond.fieldLink RX5 66 "CampBook$People" "scouts" "I", Cond.methodLink RX5 58 yX5_checkNumber, Cond.static yX5_checkNumber, Cond.code yX5_checkNumber cX5_checkNumber 2 none, Cond.classLink RX5 273 "java/lang/IndexOutOfBoundsException", Cond.initialized "java/lang/IndexOutOfBoundsException", Cond.methodLink RX5 75 yX5_factOf, Cond.instanceMethod yX5_factOf, Cond.selects RX5 yX5_factOf yX5_factOf, Cond.code yX5_factOf cX5_factOf 3 (some .int), Cond.fieldLink RX5 280 "CampBook$People" "patrol" "[I", Cond.fieldLink RX5 112 "CampBook$People" "age" "[I", Cond.fieldLink RX5 283 "CampBook$People" "skills" "[I", Cond.fieldLink RX5 161 "CampBook$People" "refused" "[I", Cond.fieldLink RX5 19 "CampBook" "tents" "LCampBook$Tents;", Cond.fieldLink RX5 226 "CampBook$People" "badges" "[I", Cond.methodLink RX5 91 yX4_tentOf]
def wsL_scout_r2 : List Cond := [Cond.instanceMethod yX4_tentOf, Cond.selects RX4 yX4_tentOf yX4_tentOf, Cond.initialized RX4, Cond.code yX4_tentOf cX4_tentOf 3 (some .int), Cond.fieldLink RX4 19 "CampBook$Tents" "size" "I", Cond.fieldLink RX4 15 "CampBook$Tents" "sleepers" "[J", Cond.methodLink RX5 286 yX3_allHours, Cond.instanceMethod yX3_allHours, Cond.selects RX3 yX3_allHours yX3_allHours, Cond.initialized RX3, Cond.code yX3_allHours cX3_allHours 4 (some .int), Cond.methodLink RX3 34 yX3_hoursIn, Cond.instanceMethod yX3_hoursIn, Cond.selects RX3 yX3_hoursIn yX3_hoursIn, Cond.code yX3_hoursIn cX3_hoursIn 3 (some .int), Cond.fieldLink RX3 27 "CampBook$People" "hours" "[I"]
def wsL_scout : List Cond := .codeWith yL_scout cL_scout 5 (some .int) [(0, 10, 13, 19)] :: ((wsL_scout_r1 ++ wsL_scout_r2) ++ wsX50 ++ wsX30 ++ wsX40 ++ (vx_atS RX5 277 "java/lang/IndexOutOfBoundsException" ["java/lang/RuntimeException", "java/lang/Exception"]).filter goodWord)
def wsL_addTent : List Cond := .codeWith yL_addTent cL_addTent 4 (some .int) [(0, 9, 12, 21), (0, 9, 15, 13)] :: ([.classLink RL 21 "java/lang/IllegalArgumentException", .classLink RL 13 "java/lang/IllegalStateException", .methodLink RL 27 yX5_addTent, .instanceMethod yX5_addTent, .selects RX5 yX5_addTent yX5_addTent, .initialized RX5, .code yX5_addTent cX5_addTent 2 (some .int), .classLink RX5 51 "java/lang/IllegalStateException", .initialized "java/lang/IllegalStateException", .fieldLink RX5 19 "CampBook" "tents" "LCampBook$Tents;", .fieldLink RX5 79 "CampBook$Tents" "size" "I", .methodLink RX5 62 yX5_checkArgument, .static yX5_checkArgument, .code yX5_checkArgument cX5_checkArgument 3 none, .classLink RX5 238 "java/lang/IllegalArgumentException", .initialized "java/lang/IllegalArgumentException", .methodLink RX5 84 yX4_pitch, .instanceMethod yX4_pitch, .selects RX4 yX4_pitch yX4_pitch, .initialized RX4, .code yX4_pitch cX4_pitch 3 (some .int), .fieldLink RX4 19 "CampBook$Tents" "size" "I", .fieldLink RX4 9 "CampBook$Tents" "places" "[I"] ++ wsX50 ++ wsX40 ++ (vx_atS RX5 55 "java/lang/IllegalStateException" ["java/lang/RuntimeException", "java/lang/Exception"]).filter goodWord ++ (vx_atS RX5 242 "java/lang/IllegalArgumentException" ["java/lang/RuntimeException", "java/lang/Exception"]).filter goodWord)
def wsL_sleep_r1 : List Cond := [Cond.classLink RL 19 "java/lang/IndexOutOfBoundsException", Cond.classLink RL 13 "java/lang/IllegalStateException", Cond.methodLink RL 31 yX5_sleep, Cond.instanceMethod yX5_sleep, Cond.selects RX5 yX5_sleep yX5_sleep, Cond.initialized RX5, Cond.code yX5_sleep cX5_sleep 4 (some .int), Cond.classLink RX5 51 "java/lang/IllegalStateException", Cond.initialized "java/lang/IllegalStateException", Cond.fieldLink RX5 10 "CampBook" "people" "LCampBook$People;", Cond.fieldLink RX5 66 "CampBook$People" "scouts" "I", Cond.fieldLink RX5 19 "CampBook" "tents" "LCampBook$Tents;", Cond.fieldLink RX5 79 "CampBook$Tents" "size" "I", Cond.methodLink RX5 58 yX5_checkNumber, Cond.static yX5_checkNumber, Cond.code yX5_checkNumber cX5_checkNumber 2 none, Cond.classLink RX5 273 "java/lang/IndexOutOfBoundsException", Cond.initialized "java/lang/IndexOutOfBoundsException", Cond.methodLink RX5 88 yX5_checkNumberOrNone, Cond.static yX5_checkNumberOrNone, Cond.code yX5_checkNumberOrNone cX5_checkNumberOrNone 2 none, Cond.methodLink RX5 91 yX4_tentOf, Cond.instanceMethod yX4_tentOf, Cond.selects RX4 yX4_tentOf yX4_tentOf]
def wsL_sleep_r2 : List Cond := [Cond.initialized RX4, Cond.code yX4_tentOf cX4_tentOf 3 (some .int), Cond.fieldLink RX4 19 "CampBook$Tents" "size" "I", Cond.fieldLink RX4 15 "CampBook$Tents" "sleepers" "[J", Cond.methodLink RX5 96 yX4_canTake, Cond.instanceMethod yX4_canTake, Cond.selects RX4 yX4_canTake yX4_canTake, Cond.code yX4_canTake cX4_canTake 4 (some .boolean), Cond.fieldLink RX4 9 "CampBook$Tents" "places" "[I", Cond.methodLink RX4 25 yJ13_bitCount_95d88, Cond.static yJ13_bitCount_95d88, Cond.initialized RJ13, Cond.code yJ13_bitCount_95d88 cJ13_bitCount_95d88 2 (some .int), Cond.constantLong RJ13 314 (6148914691236517205), Cond.constantLong RJ13 316 (3689348814741910323), Cond.constantLong RJ13 318 (1085102592571150095), Cond.methodLink RX4 31 yX4_agesFit, Cond.instanceMethod yX4_agesFit, Cond.selects RX4 yX4_agesFit yX4_agesFit, Cond.code yX4_agesFit cX4_agesFit 6 (some .boolean), Cond.fieldLink RX4 35 "CampBook$People" "scouts" "I", Cond.fieldLink RX4 40 "CampBook$People" "age" "[I", Cond.methodLink RX4 43 Lib.Math.abs.name, Cond.static Lib.Math.abs.name]
def wsL_sleep_r3 : List Cond := [Cond.initialized "java/lang/Math", Cond.code Lib.Math.abs.name Lib.Math.abs.code 1 (some .int), Cond.methodLink RX5 102 yX4_leave, Cond.instanceMethod yX4_leave, Cond.selects RX4 yX4_leave yX4_leave, Cond.code yX4_leave cX4_leave 3 none, Cond.constantLong RX4 23 (-1), Cond.methodLink RX5 105 yX4_enter, Cond.instanceMethod yX4_enter, Cond.selects RX4 yX4_enter yX4_enter, Cond.code yX4_enter cX4_enter 3 none]
def wsL_sleep : List Cond := .codeWith yL_sleep cL_sleep 5 (some .int) [(0, 10, 13, 19), (0, 10, 17, 13)] :: ((wsL_sleep_r1 ++ (wsL_sleep_r2 ++ wsL_sleep_r3)) ++ wsX50 ++ wsX30 ++ wsX40 ++ (vx_atS RX5 55 "java/lang/IllegalStateException" ["java/lang/RuntimeException", "java/lang/Exception"]).filter goodWord ++ (vx_atS RX5 277 "java/lang/IndexOutOfBoundsException" ["java/lang/RuntimeException", "java/lang/Exception"]).filter goodWord)
def wsL_inTent : List Cond := .codeWith yL_inTent cL_inTent 4 (some .int) [(0, 8, 11, 19)] :: ([.classLink RL 19 "java/lang/IndexOutOfBoundsException", .methodLink RL 34 yX5_inTent, .instanceMethod yX5_inTent, .selects RX5 yX5_inTent yX5_inTent, .initialized RX5, .code yX5_inTent cX5_inTent 2 (some .long), .fieldLink RX5 19 "CampBook" "tents" "LCampBook$Tents;", .fieldLink RX5 79 "CampBook$Tents" "size" "I", .fieldLink RX5 108 "CampBook$Tents" "sleepers" "[J", .methodLink RX5 58 yX5_checkNumber, .static yX5_checkNumber, .code yX5_checkNumber cX5_checkNumber 2 none, .classLink RX5 273 "java/lang/IndexOutOfBoundsException", .initialized "java/lang/IndexOutOfBoundsException"] ++ wsX50 ++ wsX40 ++ (vx_atS RX5 277 "java/lang/IndexOutOfBoundsException" ["java/lang/RuntimeException", "java/lang/Exception"]).filter goodWord)
def wsL_count_r1 : List Cond := [Cond.classLink RL 19 "java/lang/IndexOutOfBoundsException", Cond.methodLink RL 38 yX5_count, Cond.instanceMethod yX5_count, Cond.selects RX5 yX5_count yX5_count, Cond.initialized RX5, Cond.code yX5_count cX5_count 2 (some .int), Cond.methodLink RX5 58 yX5_checkNumber, Cond.static yX5_checkNumber, Cond.code yX5_checkNumber cX5_checkNumber 2 none, Cond.classLink RX5 273 "java/lang/IndexOutOfBoundsException", Cond.initialized "java/lang/IndexOutOfBoundsException", Cond.methodLink RX5 124 yX5_countOf, Cond.instanceMethod yX5_countOf, Cond.selects RX5 yX5_countOf yX5_countOf, Cond.code yX5_countOf cX5_countOf 2 (some .int), Cond.fieldLink RX5 10 "CampBook" "people" "LCampBook$People;", Cond.fieldLink RX5 48 "CampBook$People" "patrols" "I", Cond.fieldLink RX5 66 "CampBook$People" "scouts" "I", Cond.fieldLink RX5 19 "CampBook" "tents" "LCampBook$Tents;", Cond.fieldLink RX5 79 "CampBook$Tents" "size" "I", Cond.fieldLink RX5 33 "CampBook" "kitchen" "LCampBook$Kitchen;", Cond.fieldLink RX5 151 "CampBook$Kitchen" "foods" "I", Cond.fieldLink RX5 164 "CampBook$Kitchen" "meals" "I", Cond.fieldLink RX5 40 "CampBook" "badges" "LCampBook$Badges;"]
def wsL_count_r2 : List Cond := [Cond.fieldLink RX5 209 "CampBook$Badges" "size" "I", Cond.methodLink RX5 120 yX5_scoutsWithoutTent, Cond.instanceMethod yX5_scoutsWithoutTent, Cond.selects RX5 yX5_scoutsWithoutTent yX5_scoutsWithoutTent, Cond.code yX5_scoutsWithoutTent cX5_scoutsWithoutTent 1 (some .int), Cond.methodLink RX5 289 yX4_allSleepers, Cond.instanceMethod yX4_allSleepers, Cond.selects RX4 yX4_allSleepers yX4_allSleepers, Cond.initialized RX4, Cond.code yX4_allSleepers cX4_allSleepers 3 (some .int), Cond.fieldLink RX4 19 "CampBook$Tents" "size" "I", Cond.fieldLink RX4 15 "CampBook$Tents" "sleepers" "[J", Cond.methodLink RX4 25 yJ13_bitCount_95d88, Cond.static yJ13_bitCount_95d88, Cond.initialized RJ13, Cond.code yJ13_bitCount_95d88 cJ13_bitCount_95d88 2 (some .int), Cond.constantLong RJ13 314 (6148914691236517205), Cond.constantLong RJ13 316 (3689348814741910323), Cond.constantLong RJ13 318 (1085102592571150095)]
def wsL_count : List Cond := .codeWith yL_count cL_count 4 (some .int) [(0, 9, 12, 19)] :: ((wsL_count_r1 ++ wsL_count_r2) ++ wsX50 ++ wsX30 ++ wsX40 ++ wsX20 ++ wsX00 ++ (vx_atS RX5 277 "java/lang/IndexOutOfBoundsException" ["java/lang/RuntimeException", "java/lang/Exception"]).filter goodWord)
def wsL_giveDuty_r1 : List Cond := [Cond.classLink RL 19 "java/lang/IndexOutOfBoundsException", Cond.classLink RL 21 "java/lang/IllegalArgumentException", Cond.classLink RL 13 "java/lang/IllegalStateException", Cond.methodLink RL 41 yX5_giveDuty, Cond.instanceMethod yX5_giveDuty, Cond.selects RX5 yX5_giveDuty yX5_giveDuty, Cond.initialized RX5, Cond.code yX5_giveDuty cX5_giveDuty 5 (some .int), Cond.classLink RX5 51 "java/lang/IllegalStateException", Cond.initialized "java/lang/IllegalStateException", Cond.fieldLink RX5 10 "CampBook" "people" "LCampBook$People;", Cond.fieldLink RX5 48 "CampBook$People" "patrols" "I", Cond.fieldLink RX5 44 "CampBook" "today" "I", Cond.fieldLink RX5 26 "CampBook" "duties" "LCampBook$Duties;", Cond.methodLink RX5 58 yX5_checkNumber, Cond.static yX5_checkNumber, Cond.code yX5_checkNumber cX5_checkNumber 2 none, Cond.classLink RX5 273 "java/lang/IndexOutOfBoundsException", Cond.initialized "java/lang/IndexOutOfBoundsException", Cond.methodLink RX5 88 yX5_checkNumberOrNone, Cond.static yX5_checkNumberOrNone, Cond.code yX5_checkNumberOrNone cX5_checkNumberOrNone 2 none, Cond.methodLink RX5 62 yX5_checkArgument, Cond.static yX5_checkArgument]
def wsL_giveDuty_r2 : List Cond := [Cond.code yX5_checkArgument cX5_checkArgument 3 none, Cond.classLink RX5 238 "java/lang/IllegalArgumentException", Cond.initialized "java/lang/IllegalArgumentException", Cond.methodLink RX5 127 yX1_canBeGiven, Cond.instanceMethod yX1_canBeGiven, Cond.selects RX1 yX1_canBeGiven yX1_canBeGiven, Cond.initialized RX1, Cond.code yX1_canBeGiven cX1_canBeGiven 5 (some .boolean), Cond.methodLink RX1 24 yX1_hasFitScout, Cond.instanceMethod yX1_hasFitScout, Cond.selects RX1 yX1_hasFitScout yX1_hasFitScout, Cond.code yX1_hasFitScout cX1_hasFitScout 5 (some .boolean), Cond.methodLink RX1 36 yX3_membersOf, Cond.instanceMethod yX3_membersOf, Cond.selects RX3 yX3_membersOf yX3_membersOf, Cond.initialized RX3, Cond.code yX3_membersOf cX3_membersOf 5 (some .long), Cond.fieldLink RX3 30 "CampBook$People" "scouts" "I", Cond.fieldLink RX3 9 "CampBook$People" "patrol" "[I", Cond.methodLink RX1 42 yX3_agedAtLeast, Cond.instanceMethod yX3_agedAtLeast, Cond.selects RX3 yX3_agedAtLeast yX3_agedAtLeast, Cond.code yX3_agedAtLeast cX3_agedAtLeast 5 (some .long), Cond.fieldLink RX3 15 "CampBook$People" "age" "[I"]
def wsL_giveDuty_r3 : List Cond := [Cond.methodLink RX1 28 yX1_doesOther, Cond.instanceMethod yX1_doesOther, Cond.selects RX1 yX1_doesOther yX1_doesOther, Cond.code yX1_doesOther cX1_doesOther 5 (some .boolean), Cond.methodLink RX1 32 yX1_holderOn, Cond.instanceMethod yX1_holderOn, Cond.selects RX1 yX1_holderOn yX1_holderOn, Cond.code yX1_holderOn cX1_holderOn 3 (some .int), Cond.fieldLink RX1 11 "CampBook$Duties" "holders" "[I", Cond.methodLink RX5 133 yX1_holderOn, Cond.methodLink RX5 136 yX1_assign, Cond.instanceMethod yX1_assign, Cond.selects RX1 yX1_assign yX1_assign, Cond.code yX1_assign cX1_assign 5 none, Cond.fieldLink RX1 15 "CampBook$Duties" "points" "[I", Cond.fieldLink RX1 45 "CampBook$Duties" "POINTS" "[I"]
def wsL_giveDuty : List Cond := .codeWith yL_giveDuty cL_giveDuty 6 (some .int) [(0, 12, 15, 19), (0, 12, 19, 21), (0, 12, 23, 13)] :: ((wsL_giveDuty_r1 ++ (wsL_giveDuty_r2 ++ wsL_giveDuty_r3)) ++ wsX50 ++ wsX30 ++ wsX10 ++ (vx_atS RX5 55 "java/lang/IllegalStateException" ["java/lang/RuntimeException", "java/lang/Exception"]).filter goodWord ++ (vx_atS RX5 277 "java/lang/IndexOutOfBoundsException" ["java/lang/RuntimeException", "java/lang/Exception"]).filter goodWord ++ (vx_atS RX5 242 "java/lang/IllegalArgumentException" ["java/lang/RuntimeException", "java/lang/Exception"]).filter goodWord)
def wsL_duty : List Cond := .codeWith yL_duty cL_duty 5 (some .int) [(0, 10, 13, 19)] :: ([.classLink RL 19 "java/lang/IndexOutOfBoundsException", .methodLink RL 44 yX5_duty, .instanceMethod yX5_duty, .selects RX5 yX5_duty yX5_duty, .initialized RX5, .code yX5_duty cX5_duty 3 (some .int), .fieldLink RX5 26 "CampBook" "duties" "LCampBook$Duties;", .methodLink RX5 58 yX5_checkNumber, .static yX5_checkNumber, .code yX5_checkNumber cX5_checkNumber 2 none, .classLink RX5 273 "java/lang/IndexOutOfBoundsException", .initialized "java/lang/IndexOutOfBoundsException", .methodLink RX5 133 yX1_holderOn, .instanceMethod yX1_holderOn, .selects RX1 yX1_holderOn yX1_holderOn, .initialized RX1, .code yX1_holderOn cX1_holderOn 3 (some .int), .fieldLink RX1 11 "CampBook$Duties" "holders" "[I"] ++ wsX50 ++ wsX10 ++ (vx_atS RX5 277 "java/lang/IndexOutOfBoundsException" ["java/lang/RuntimeException", "java/lang/Exception"]).filter goodWord)
def wsL_points : List Cond := .codeWith yL_points cL_points 4 (some .int) [(0, 9, 12, 19)] :: ([.classLink RL 19 "java/lang/IndexOutOfBoundsException", .methodLink RL 47 yX5_points, .instanceMethod yX5_points, .selects RX5 yX5_points yX5_points, .initialized RX5, .code yX5_points cX5_points 2 (some .int), .fieldLink RX5 10 "CampBook" "people" "LCampBook$People;", .fieldLink RX5 48 "CampBook$People" "patrols" "I", .fieldLink RX5 26 "CampBook" "duties" "LCampBook$Duties;", .fieldLink RX5 139 "CampBook$Duties" "points" "[I", .methodLink RX5 58 yX5_checkNumber, .static yX5_checkNumber, .code yX5_checkNumber cX5_checkNumber 2 none, .classLink RX5 273 "java/lang/IndexOutOfBoundsException", .initialized "java/lang/IndexOutOfBoundsException"] ++ wsX50 ++ wsX30 ++ wsX10 ++ (vx_atS RX5 277 "java/lang/IndexOutOfBoundsException" ["java/lang/RuntimeException", "java/lang/Exception"]).filter goodWord)
def wsL_addFood : List Cond := .codeWith yL_addFood cL_addFood 4 (some .int) [(0, 9, 12, 21), (0, 9, 15, 13)] :: ([.classLink RL 21 "java/lang/IllegalArgumentException", .classLink RL 13 "java/lang/IllegalStateException", .methodLink RL 50 yX5_addFood, .instanceMethod yX5_addFood, .selects RX5 yX5_addFood yX5_addFood, .initialized RX5, .code yX5_addFood cX5_addFood 2 (some .int), .classLink RX5 51 "java/lang/IllegalStateException", .initialized "java/lang/IllegalStateException", .fieldLink RX5 33 "CampBook" "kitchen" "LCampBook$Kitchen;", .fieldLink RX5 151 "CampBook$Kitchen" "foods" "I", .fieldLink RX5 156 "CampBook$Kitchen" "stores" "[I", .methodLink RX5 62 yX5_checkArgument, .static yX5_checkArgument, .code yX5_checkArgument cX5_checkArgument 3 none, .classLink RX5 238 "java/lang/IllegalArgumentException", .initialized "java/lang/IllegalArgumentException"] ++ wsX50 ++ wsX20 ++ (vx_atS RX5 55 "java/lang/IllegalStateException" ["java/lang/RuntimeException", "java/lang/Exception"]).filter goodWord ++ (vx_atS RX5 242 "java/lang/IllegalArgumentException" ["java/lang/RuntimeException", "java/lang/Exception"]).filter goodWord)
def wsL_buy : List Cond := .codeWith yL_buy cL_buy 5 (some .int) [(0, 10, 13, 19), (0, 10, 17, 21), (0, 10, 21, 13)] :: ([.classLink RL 19 "java/lang/IndexOutOfBoundsException", .classLink RL 21 "java/lang/IllegalArgumentException", .classLink RL 13 "java/lang/IllegalStateException", .methodLink RL 53 yX5_buy, .instanceMethod yX5_buy, .selects RX5 yX5_buy yX5_buy, .initialized RX5, .code yX5_buy cX5_buy 4 (some .int), .classLink RX5 51 "java/lang/IllegalStateException", .initialized "java/lang/IllegalStateException", .fieldLink RX5 33 "CampBook" "kitchen" "LCampBook$Kitchen;", .fieldLink RX5 151 "CampBook$Kitchen" "foods" "I", .fieldLink RX5 156 "CampBook$Kitchen" "stores" "[I", .methodLink RX5 58 yX5_checkNumber, .static yX5_checkNumber, .code yX5_checkNumber cX5_checkNumber 2 none, .classLink RX5 273 "java/lang/IndexOutOfBoundsException", .initialized "java/lang/IndexOutOfBoundsException", .methodLink RX5 62 yX5_checkArgument, .static yX5_checkArgument, .code yX5_checkArgument cX5_checkArgument 3 none, .classLink RX5 238 "java/lang/IllegalArgumentException", .initialized "java/lang/IllegalArgumentException"] ++ wsX50 ++ wsX20 ++ (vx_atS RX5 55 "java/lang/IllegalStateException" ["java/lang/RuntimeException", "java/lang/Exception"]).filter goodWord ++ (vx_atS RX5 277 "java/lang/IndexOutOfBoundsException" ["java/lang/RuntimeException", "java/lang/Exception"]).filter goodWord ++ (vx_atS RX5 242 "java/lang/IllegalArgumentException" ["java/lang/RuntimeException", "java/lang/Exception"]).filter goodWord)
def wsL_store : List Cond := .codeWith yL_store cL_store 4 (some .int) [(0, 9, 12, 19)] :: ([.classLink RL 19 "java/lang/IndexOutOfBoundsException", .methodLink RL 56 yX5_store, .instanceMethod yX5_store, .selects RX5 yX5_store yX5_store, .initialized RX5, .code yX5_store cX5_store 2 (some .int), .fieldLink RX5 33 "CampBook" "kitchen" "LCampBook$Kitchen;", .fieldLink RX5 151 "CampBook$Kitchen" "foods" "I", .fieldLink RX5 156 "CampBook$Kitchen" "stores" "[I", .methodLink RX5 58 yX5_checkNumber, .static yX5_checkNumber, .code yX5_checkNumber cX5_checkNumber 2 none, .classLink RX5 273 "java/lang/IndexOutOfBoundsException", .initialized "java/lang/IndexOutOfBoundsException"] ++ wsX50 ++ wsX20 ++ (vx_atS RX5 277 "java/lang/IndexOutOfBoundsException" ["java/lang/RuntimeException", "java/lang/Exception"]).filter goodWord)
def wsL_diet : List Cond := .codeWith yL_diet cL_diet 6 (some .int) [(0, 19, 22, 19)] :: ([.classLink RL 19 "java/lang/IndexOutOfBoundsException", .methodLink RL 59 yX5_diet, .instanceMethod yX5_diet, .selects RX5 yX5_diet yX5_diet, .initialized RX5, .code yX5_diet cX5_diet 6 (some .boolean), .fieldLink RX5 10 "CampBook" "people" "LCampBook$People;", .fieldLink RX5 66 "CampBook$People" "scouts" "I", .fieldLink RX5 33 "CampBook" "kitchen" "LCampBook$Kitchen;", .fieldLink RX5 151 "CampBook$Kitchen" "foods" "I", .fieldLink RX5 161 "CampBook$People" "refused" "[I", .methodLink RX5 58 yX5_checkNumber, .static yX5_checkNumber, .code yX5_checkNumber cX5_checkNumber 2 none, .classLink RX5 273 "java/lang/IndexOutOfBoundsException", .initialized "java/lang/IndexOutOfBoundsException"] ++ wsX50 ++ wsX30 ++ wsX20 ++ (vx_atS RX5 277 "java/lang/IndexOutOfBoundsException" ["java/lang/RuntimeException", "java/lang/Exception"]).filter goodWord)
def wsL_addMeal : List Cond := .codeWith yL_addMeal cL_addMeal 3 (some .int) [(0, 8, 11, 13)] :: ([.classLink RL 13 "java/lang/IllegalStateException", .methodLink RL 63 yX5_addMeal, .instanceMethod yX5_addMeal, .selects RX5 yX5_addMeal yX5_addMeal, .initialized RX5, .code yX5_addMeal cX5_addMeal 1 (some .int), .classLink RX5 51 "java/lang/IllegalStateException", .initialized "java/lang/IllegalStateException", .fieldLink RX5 33 "CampBook" "kitchen" "LCampBook$Kitchen;", .fieldLink RX5 164 "CampBook$Kitchen" "meals" "I"] ++ wsX50 ++ wsX20 ++ (vx_atS RX5 55 "java/lang/IllegalStateException" ["java/lang/RuntimeException", "java/lang/Exception"]).filter goodWord)
def wsL_need_r1 : List Cond := [Cond.classLink RL 19 "java/lang/IndexOutOfBoundsException", Cond.classLink RL 21 "java/lang/IllegalArgumentException", Cond.methodLink RL 66 yX5_need, Cond.instanceMethod yX5_need, Cond.selects RX5 yX5_need yX5_need, Cond.initialized RX5, Cond.code yX5_need cX5_need 5 (some .int), Cond.fieldLink RX5 33 "CampBook" "kitchen" "LCampBook$Kitchen;", Cond.fieldLink RX5 164 "CampBook$Kitchen" "meals" "I", Cond.fieldLink RX5 151 "CampBook$Kitchen" "foods" "I", Cond.fieldLink RX5 172 "CampBook$Kitchen" "needs" "[I", Cond.methodLink RX5 58 yX5_checkNumber, Cond.static yX5_checkNumber, Cond.code yX5_checkNumber cX5_checkNumber 2 none, Cond.classLink RX5 273 "java/lang/IndexOutOfBoundsException", Cond.initialized "java/lang/IndexOutOfBoundsException", Cond.methodLink RX5 62 yX5_checkArgument, Cond.static yX5_checkArgument, Cond.code yX5_checkArgument cX5_checkArgument 3 none, Cond.classLink RX5 238 "java/lang/IllegalArgumentException", Cond.initialized "java/lang/IllegalArgumentException", Cond.methodLink RX5 169 yX2_needOf, Cond.instanceMethod yX2_needOf, Cond.selects RX2 yX2_needOf yX2_needOf]
def wsL_need_r2 : List Cond := [Cond.initialized RX2, Cond.code yX2_needOf cX2_needOf 3 (some .int), Cond.fieldLink RX2 15 "CampBook$Kitchen" "needs" "[I"]
def wsL_need : List Cond := .codeWith yL_need cL_need 6 (some .int) [(0, 12, 15, 19), (0, 12, 19, 21)] :: ((wsL_need_r1 ++ wsL_need_r2) ++ wsX50 ++ wsX20 ++ (vx_atS RX5 277 "java/lang/IndexOutOfBoundsException" ["java/lang/RuntimeException", "java/lang/Exception"]).filter goodWord ++ (vx_atS RX5 242 "java/lang/IllegalArgumentException" ["java/lang/RuntimeException", "java/lang/Exception"]).filter goodWord)
def wsL_eaters_r1 : List Cond := [Cond.classLink RL 19 "java/lang/IndexOutOfBoundsException", Cond.methodLink RL 69 yX5_eaters, Cond.instanceMethod yX5_eaters, Cond.selects RX5 yX5_eaters yX5_eaters, Cond.initialized RX5, Cond.code yX5_eaters cX5_eaters 2 (some .long), Cond.fieldLink RX5 33 "CampBook" "kitchen" "LCampBook$Kitchen;", Cond.fieldLink RX5 164 "CampBook$Kitchen" "meals" "I", Cond.fieldLink RX5 10 "CampBook" "people" "LCampBook$People;", Cond.methodLink RX5 58 yX5_checkNumber, Cond.static yX5_checkNumber, Cond.code yX5_checkNumber cX5_checkNumber 2 none, Cond.classLink RX5 273 "java/lang/IndexOutOfBoundsException", Cond.initialized "java/lang/IndexOutOfBoundsException", Cond.methodLink RX5 175 yX2_eatersOf, Cond.instanceMethod yX2_eatersOf, Cond.selects RX2 yX2_eatersOf yX2_eatersOf, Cond.initialized RX2, Cond.code yX2_eatersOf cX2_eatersOf 7 (some .long), Cond.fieldLink RX2 30 "CampBook$People" "scouts" "I", Cond.fieldLink RX2 35 "CampBook$People" "refused" "[I", Cond.methodLink RX2 26 yX2_foodsOf, Cond.instanceMethod yX2_foodsOf, Cond.selects RX2 yX2_foodsOf yX2_foodsOf]
def wsL_eaters_r2 : List Cond := [Cond.code yX2_foodsOf cX2_foodsOf 4 (some .int), Cond.fieldLink RX2 18 "CampBook$Kitchen" "foods" "I", Cond.methodLink RX2 22 yX2_needOf, Cond.instanceMethod yX2_needOf, Cond.selects RX2 yX2_needOf yX2_needOf, Cond.code yX2_needOf cX2_needOf 3 (some .int), Cond.fieldLink RX2 15 "CampBook$Kitchen" "needs" "[I"]
def wsL_eaters : List Cond := .codeWith yL_eaters cL_eaters 4 (some .int) [(0, 8, 11, 19)] :: ((wsL_eaters_r1 ++ wsL_eaters_r2) ++ wsX50 ++ wsX20 ++ wsX30 ++ (vx_atS RX5 277 "java/lang/IndexOutOfBoundsException" ["java/lang/RuntimeException", "java/lang/Exception"]).filter goodWord)
def wsL_lacks_r1 : List Cond := [Cond.classLink RL 19 "java/lang/IndexOutOfBoundsException", Cond.classLink RL 21 "java/lang/IllegalArgumentException", Cond.methodLink RL 72 yX5_lacks, Cond.instanceMethod yX5_lacks, Cond.selects RX5 yX5_lacks yX5_lacks, Cond.initialized RX5, Cond.code yX5_lacks cX5_lacks 5 (some .int), Cond.fieldLink RX5 33 "CampBook" "kitchen" "LCampBook$Kitchen;", Cond.fieldLink RX5 164 "CampBook$Kitchen" "meals" "I", Cond.fieldLink RX5 151 "CampBook$Kitchen" "foods" "I", Cond.fieldLink RX5 10 "CampBook" "people" "LCampBook$People;", Cond.fieldLink RX5 156 "CampBook$Kitchen" "stores" "[I", Cond.methodLink RX5 185 Lib.Math.max.name, Cond.static Lib.Math.max.name, Cond.initialized "java/lang/Math", Cond.code Lib.Math.max.name Lib.Math.max.code 2 (some .int), Cond.methodLink RX5 58 yX5_checkNumber, Cond.static yX5_checkNumber, Cond.code yX5_checkNumber cX5_checkNumber 2 none, Cond.classLink RX5 273 "java/lang/IndexOutOfBoundsException", Cond.initialized "java/lang/IndexOutOfBoundsException", Cond.methodLink RX5 62 yX5_checkArgument, Cond.static yX5_checkArgument, Cond.code yX5_checkArgument cX5_checkArgument 3 none]
def wsL_lacks_r2 : List Cond := [Cond.classLink RX5 238 "java/lang/IllegalArgumentException", Cond.initialized "java/lang/IllegalArgumentException", Cond.methodLink RX5 175 yX2_eatersOf, Cond.instanceMethod yX2_eatersOf, Cond.selects RX2 yX2_eatersOf yX2_eatersOf, Cond.initialized RX2, Cond.code yX2_eatersOf cX2_eatersOf 7 (some .long), Cond.fieldLink RX2 30 "CampBook$People" "scouts" "I", Cond.fieldLink RX2 35 "CampBook$People" "refused" "[I", Cond.methodLink RX2 26 yX2_foodsOf, Cond.instanceMethod yX2_foodsOf, Cond.selects RX2 yX2_foodsOf yX2_foodsOf, Cond.code yX2_foodsOf cX2_foodsOf 4 (some .int), Cond.fieldLink RX2 18 "CampBook$Kitchen" "foods" "I", Cond.methodLink RX2 22 yX2_needOf, Cond.instanceMethod yX2_needOf, Cond.selects RX2 yX2_needOf yX2_needOf, Cond.code yX2_needOf cX2_needOf 3 (some .int), Cond.fieldLink RX2 15 "CampBook$Kitchen" "needs" "[I", Cond.methodLink RX5 179 yJ13_bitCount_95d88, Cond.static yJ13_bitCount_95d88, Cond.initialized RJ13, Cond.code yJ13_bitCount_95d88 cJ13_bitCount_95d88 2 (some .int), Cond.constantLong RJ13 314 (6148914691236517205)]
def wsL_lacks_r3 : List Cond := [Cond.constantLong RJ13 316 (3689348814741910323), Cond.constantLong RJ13 318 (1085102592571150095), Cond.methodLink RX5 169 yX2_needOf]
def wsL_lacks : List Cond := .codeWith yL_lacks cL_lacks 6 (some .int) [(0, 12, 15, 19), (0, 12, 19, 21)] :: ((wsL_lacks_r1 ++ (wsL_lacks_r2 ++ wsL_lacks_r3)) ++ wsX50 ++ wsX20 ++ wsX30 ++ (vx_atS RX5 277 "java/lang/IndexOutOfBoundsException" ["java/lang/RuntimeException", "java/lang/Exception"]).filter goodWord ++ (vx_atS RX5 242 "java/lang/IllegalArgumentException" ["java/lang/RuntimeException", "java/lang/Exception"]).filter goodWord)
def wsL_eat_r1 : List Cond := [Cond.classLink RL 19 "java/lang/IndexOutOfBoundsException", Cond.classLink RL 13 "java/lang/IllegalStateException", Cond.methodLink RL 75 yX5_eat, Cond.instanceMethod yX5_eat, Cond.selects RX5 yX5_eat yX5_eat, Cond.initialized RX5, Cond.code yX5_eat cX5_eat 2 (some .int), Cond.classLink RX5 51 "java/lang/IllegalStateException", Cond.initialized "java/lang/IllegalStateException", Cond.fieldLink RX5 33 "CampBook" "kitchen" "LCampBook$Kitchen;", Cond.fieldLink RX5 164 "CampBook$Kitchen" "meals" "I", Cond.fieldLink RX5 10 "CampBook" "people" "LCampBook$People;", Cond.methodLink RX5 58 yX5_checkNumber, Cond.static yX5_checkNumber, Cond.code yX5_checkNumber cX5_checkNumber 2 none, Cond.classLink RX5 273 "java/lang/IndexOutOfBoundsException", Cond.initialized "java/lang/IndexOutOfBoundsException", Cond.methodLink RX5 190 yX2_canBeEaten, Cond.instanceMethod yX2_canBeEaten, Cond.selects RX2 yX2_canBeEaten yX2_canBeEaten, Cond.initialized RX2, Cond.code yX2_canBeEaten cX2_canBeEaten 4 (some .boolean), Cond.fieldLink RX2 48 "CampBook$Kitchen" "mealsToday" "I", Cond.methodLink RX2 38 yX2_eatersOf]
def wsL_eat_r2 : List Cond := [Cond.instanceMethod yX2_eatersOf, Cond.selects RX2 yX2_eatersOf yX2_eatersOf, Cond.code yX2_eatersOf cX2_eatersOf 7 (some .long), Cond.fieldLink RX2 30 "CampBook$People" "scouts" "I", Cond.fieldLink RX2 35 "CampBook$People" "refused" "[I", Cond.methodLink RX2 26 yX2_foodsOf, Cond.instanceMethod yX2_foodsOf, Cond.selects RX2 yX2_foodsOf yX2_foodsOf, Cond.code yX2_foodsOf cX2_foodsOf 4 (some .int), Cond.fieldLink RX2 18 "CampBook$Kitchen" "foods" "I", Cond.methodLink RX2 22 yX2_needOf, Cond.instanceMethod yX2_needOf, Cond.selects RX2 yX2_needOf yX2_needOf, Cond.code yX2_needOf cX2_needOf 3 (some .int), Cond.fieldLink RX2 15 "CampBook$Kitchen" "needs" "[I", Cond.methodLink RX2 42 yJ13_bitCount_95d88, Cond.static yJ13_bitCount_95d88, Cond.initialized RJ13, Cond.code yJ13_bitCount_95d88 cJ13_bitCount_95d88 2 (some .int), Cond.constantLong RJ13 314 (6148914691236517205), Cond.constantLong RJ13 316 (3689348814741910323), Cond.constantLong RJ13 318 (1085102592571150095), Cond.methodLink RX2 51 yX2_isStocked, Cond.instanceMethod yX2_isStocked]
def wsL_eat_r3 : List Cond := [Cond.selects RX2 yX2_isStocked yX2_isStocked, Cond.code yX2_isStocked cX2_isStocked 4 (some .boolean), Cond.fieldLink RX2 9 "CampBook$Kitchen" "stores" "[I", Cond.methodLink RX5 196 yX2_serve, Cond.instanceMethod yX2_serve, Cond.selects RX2 yX2_serve yX2_serve, Cond.code yX2_serve cX2_serve 7 (some .int), Cond.fieldLink RX2 55 "CampBook$Kitchen" "ateToday" "J"]
def wsL_eat : List Cond := .codeWith yL_eat cL_eat 4 (some .int) [(0, 9, 12, 19), (0, 9, 15, 13)] :: ((wsL_eat_r1 ++ (wsL_eat_r2 ++ wsL_eat_r3)) ++ wsX50 ++ wsX20 ++ wsX30 ++ (vx_atS RX5 55 "java/lang/IllegalStateException" ["java/lang/RuntimeException", "java/lang/Exception"]).filter goodWord ++ (vx_atS RX5 277 "java/lang/IndexOutOfBoundsException" ["java/lang/RuntimeException", "java/lang/Exception"]).filter goodWord)
def wsL_table_r1 : List Cond := [Cond.classLink RL 19 "java/lang/IndexOutOfBoundsException", Cond.methodLink RL 78 yX5_table, Cond.instanceMethod yX5_table, Cond.selects RX5 yX5_table yX5_table, Cond.initialized RX5, Cond.code yX5_table cX5_table 2 (some .int), Cond.fieldLink RX5 33 "CampBook" "kitchen" "LCampBook$Kitchen;", Cond.fieldLink RX5 202 "CampBook$Kitchen" "mealsToday" "I", Cond.fieldLink RX5 10 "CampBook" "people" "LCampBook$People;", Cond.methodLink RX5 58 yX5_checkNumber, Cond.static yX5_checkNumber, Cond.code yX5_checkNumber cX5_checkNumber 2 none, Cond.classLink RX5 273 "java/lang/IndexOutOfBoundsException", Cond.initialized "java/lang/IndexOutOfBoundsException", Cond.methodLink RX5 199 yX5_hungryScouts, Cond.instanceMethod yX5_hungryScouts, Cond.selects RX5 yX5_hungryScouts yX5_hungryScouts, Cond.code yX5_hungryScouts cX5_hungryScouts 1 (some .int), Cond.fieldLink RX5 66 "CampBook$People" "scouts" "I", Cond.fieldLink RX5 292 "CampBook$Kitchen" "ateToday" "J", Cond.methodLink RX5 179 yJ13_bitCount_95d88, Cond.static yJ13_bitCount_95d88, Cond.initialized RJ13, Cond.code yJ13_bitCount_95d88 cJ13_bitCount_95d88 2 (some .int)]
def wsL_table_r2 : List Cond := [Cond.constantLong RJ13 314 (6148914691236517205), Cond.constantLong RJ13 316 (3689348814741910323), Cond.constantLong RJ13 318 (1085102592571150095), Cond.methodLink RX5 205 yX2_bestMeal, Cond.instanceMethod yX2_bestMeal, Cond.selects RX2 yX2_bestMeal yX2_bestMeal, Cond.initialized RX2, Cond.code yX2_bestMeal cX2_bestMeal 6 (some .int), Cond.fieldLink RX2 59 "CampBook$Kitchen" "meals" "I", Cond.fieldLink RX2 55 "CampBook$Kitchen" "ateToday" "J", Cond.constantLong RX2 62 (-1), Cond.methodLink RX2 38 yX2_eatersOf, Cond.instanceMethod yX2_eatersOf, Cond.selects RX2 yX2_eatersOf yX2_eatersOf, Cond.code yX2_eatersOf cX2_eatersOf 7 (some .long), Cond.fieldLink RX2 30 "CampBook$People" "scouts" "I", Cond.fieldLink RX2 35 "CampBook$People" "refused" "[I", Cond.methodLink RX2 26 yX2_foodsOf, Cond.instanceMethod yX2_foodsOf, Cond.selects RX2 yX2_foodsOf yX2_foodsOf, Cond.code yX2_foodsOf cX2_foodsOf 4 (some .int), Cond.fieldLink RX2 18 "CampBook$Kitchen" "foods" "I", Cond.methodLink RX2 22 yX2_needOf, Cond.instanceMethod yX2_needOf]
def wsL_table_r3 : List Cond := [Cond.selects RX2 yX2_needOf yX2_needOf, Cond.code yX2_needOf cX2_needOf 3 (some .int), Cond.fieldLink RX2 15 "CampBook$Kitchen" "needs" "[I", Cond.methodLink RX2 42 yJ13_bitCount_95d88, Cond.methodLink RX2 64 yX2_canBeEaten, Cond.instanceMethod yX2_canBeEaten, Cond.selects RX2 yX2_canBeEaten yX2_canBeEaten, Cond.code yX2_canBeEaten cX2_canBeEaten 4 (some .boolean), Cond.fieldLink RX2 48 "CampBook$Kitchen" "mealsToday" "I", Cond.methodLink RX2 51 yX2_isStocked, Cond.instanceMethod yX2_isStocked, Cond.selects RX2 yX2_isStocked yX2_isStocked, Cond.code yX2_isStocked cX2_isStocked 4 (some .boolean), Cond.fieldLink RX2 9 "CampBook$Kitchen" "stores" "[I"]
def wsL_table : List Cond := .codeWith yL_table cL_table 4 (some .int) [(0, 9, 12, 19)] :: ((wsL_table_r1 ++ (wsL_table_r2 ++ wsL_table_r3)) ++ wsX50 ++ wsX20 ++ wsX30 ++ (vx_atS RX5 277 "java/lang/IndexOutOfBoundsException" ["java/lang/RuntimeException", "java/lang/Exception"]).filter goodWord)
def wsL_addBadge : List Cond := .codeWith yL_addBadge cL_addBadge 4 (some .int) [(0, 9, 12, 21), (0, 9, 15, 13)] :: ([.classLink RL 21 "java/lang/IllegalArgumentException", .classLink RL 13 "java/lang/IllegalStateException", .methodLink RL 81 yX5_addBadge, .instanceMethod yX5_addBadge, .selects RX5 yX5_addBadge yX5_addBadge, .initialized RX5, .code yX5_addBadge cX5_addBadge 2 (some .int), .classLink RX5 51 "java/lang/IllegalStateException", .initialized "java/lang/IllegalStateException", .fieldLink RX5 40 "CampBook" "badges" "LCampBook$Badges;", .fieldLink RX5 209 "CampBook$Badges" "size" "I", .fieldLink RX5 212 "CampBook$Badges" "leastAge" "[I", .methodLink RX5 62 yX5_checkArgument, .static yX5_checkArgument, .code yX5_checkArgument cX5_checkArgument 3 none, .classLink RX5 238 "java/lang/IllegalArgumentException", .initialized "java/lang/IllegalArgumentException"] ++ wsX50 ++ wsX00 ++ (vx_atS RX5 55 "java/lang/IllegalStateException" ["java/lang/RuntimeException", "java/lang/Exception"]).filter goodWord ++ (vx_atS RX5 242 "java/lang/IllegalArgumentException" ["java/lang/RuntimeException", "java/lang/Exception"]).filter goodWord)
def wsL_want : List Cond := .codeWith yL_want cL_want 6 (some .int) [(0, 12, 15, 19), (0, 12, 19, 21)] :: ([.classLink RL 19 "java/lang/IndexOutOfBoundsException", .classLink RL 21 "java/lang/IllegalArgumentException", .methodLink RL 84 yX5_want, .instanceMethod yX5_want, .selects RX5 yX5_want yX5_want, .initialized RX5, .code yX5_want cX5_want 6 (some .int), .fieldLink RX5 40 "CampBook" "badges" "LCampBook$Badges;", .fieldLink RX5 209 "CampBook$Badges" "size" "I", .fieldLink RX5 215 "CampBook$Badges" "wants" "[I", .methodLink RX5 58 yX5_checkNumber, .static yX5_checkNumber, .code yX5_checkNumber cX5_checkNumber 2 none, .classLink RX5 273 "java/lang/IndexOutOfBoundsException", .initialized "java/lang/IndexOutOfBoundsException", .methodLink RX5 62 yX5_checkArgument, .static yX5_checkArgument, .code yX5_checkArgument cX5_checkArgument 3 none, .classLink RX5 238 "java/lang/IllegalArgumentException", .initialized "java/lang/IllegalArgumentException"] ++ wsX50 ++ wsX00 ++ (vx_atS RX5 277 "java/lang/IndexOutOfBoundsException" ["java/lang/RuntimeException", "java/lang/Exception"]).filter goodWord ++ (vx_atS RX5 242 "java/lang/IllegalArgumentException" ["java/lang/RuntimeException", "java/lang/Exception"]).filter goodWord)
def wsL_practise_r1 : List Cond := [Cond.classLink RL 19 "java/lang/IndexOutOfBoundsException", Cond.classLink RL 21 "java/lang/IllegalArgumentException", Cond.methodLink RL 87 yX5_practise, Cond.instanceMethod yX5_practise, Cond.selects RX5 yX5_practise yX5_practise, Cond.initialized RX5, Cond.code yX5_practise cX5_practise 4 (some .int), Cond.fieldLink RX5 10 "CampBook" "people" "LCampBook$People;", Cond.fieldLink RX5 48 "CampBook$People" "patrols" "I", Cond.methodLink RX5 58 yX5_checkNumber, Cond.static yX5_checkNumber, Cond.code yX5_checkNumber cX5_checkNumber 2 none, Cond.classLink RX5 273 "java/lang/IndexOutOfBoundsException", Cond.initialized "java/lang/IndexOutOfBoundsException", Cond.methodLink RX5 62 yX5_checkArgument, Cond.static yX5_checkArgument, Cond.code yX5_checkArgument cX5_checkArgument 3 none, Cond.classLink RX5 238 "java/lang/IllegalArgumentException", Cond.initialized "java/lang/IllegalArgumentException", Cond.methodLink RX5 218 yX3_train, Cond.instanceMethod yX3_train, Cond.selects RX3 yX3_train yX3_train, Cond.initialized RX3, Cond.code yX3_train cX3_train 6 (some .int)]
def wsL_practise_r2 : List Cond := [Cond.fieldLink RX3 30 "CampBook$People" "scouts" "I", Cond.fieldLink RX3 9 "CampBook$People" "patrol" "[I", Cond.fieldLink RX3 27 "CampBook$People" "hours" "[I"]
def wsL_practise : List Cond := .codeWith yL_practise cL_practise 6 (some .int) [(0, 12, 15, 19), (0, 12, 19, 21)] :: ((wsL_practise_r1 ++ wsL_practise_r2) ++ wsX50 ++ wsX30 ++ (vx_atS RX5 277 "java/lang/IndexOutOfBoundsException" ["java/lang/RuntimeException", "java/lang/Exception"]).filter goodWord ++ (vx_atS RX5 242 "java/lang/IllegalArgumentException" ["java/lang/RuntimeException", "java/lang/Exception"]).filter goodWord)
def wsL_away_r1 : List Cond := [Cond.classLink RL 19 "java/lang/IndexOutOfBoundsException", Cond.methodLink RL 90 yX5_away, Cond.instanceMethod yX5_away, Cond.selects RX5 yX5_away yX5_away, Cond.initialized RX5, Cond.code yX5_away cX5_away 3 (some .int), Cond.fieldLink RX5 10 "CampBook" "people" "LCampBook$People;", Cond.fieldLink RX5 66 "CampBook$People" "scouts" "I", Cond.fieldLink RX5 40 "CampBook" "badges" "LCampBook$Badges;", Cond.fieldLink RX5 209 "CampBook$Badges" "size" "I", Cond.methodLink RX5 58 yX5_checkNumber, Cond.static yX5_checkNumber, Cond.code yX5_checkNumber cX5_checkNumber 2 none, Cond.classLink RX5 273 "java/lang/IndexOutOfBoundsException", Cond.initialized "java/lang/IndexOutOfBoundsException", Cond.methodLink RX5 221 yX0_distance, Cond.instanceMethod yX0_distance, Cond.selects RX0 yX0_distance yX0_distance, Cond.initialized RX0, Cond.code yX0_distance cX0_distance 4 (some .int), Cond.fieldLink RX0 18 "CampBook$People" "age" "[I", Cond.fieldLink RX0 9 "CampBook$Badges" "leastAge" "[I", Cond.fieldLink RX0 23 "CampBook$People" "badges" "[I", Cond.methodLink RX0 26 yX0_hoursLacking]
def wsL_away_r2 : List Cond := [Cond.instanceMethod yX0_hoursLacking, Cond.selects RX0 yX0_hoursLacking yX0_hoursLacking, Cond.code yX0_hoursLacking cX0_hoursLacking 7 (some .int), Cond.fieldLink RX0 15 "CampBook$Badges" "wants" "[I", Cond.methodLink RX0 34 Lib.Math.max.name, Cond.static Lib.Math.max.name, Cond.initialized "java/lang/Math", Cond.code Lib.Math.max.name Lib.Math.max.code 2 (some .int), Cond.methodLink RX0 30 yX3_hoursIn, Cond.instanceMethod yX3_hoursIn, Cond.selects RX3 yX3_hoursIn yX3_hoursIn, Cond.initialized RX3, Cond.code yX3_hoursIn cX3_hoursIn 3 (some .int), Cond.fieldLink RX3 27 "CampBook$People" "hours" "[I"]
def wsL_away : List Cond := .codeWith yL_away cL_away 5 (some .int) [(0, 10, 13, 19)] :: ((wsL_away_r1 ++ wsL_away_r2) ++ wsX50 ++ wsX30 ++ wsX00 ++ (vx_atS RX5 277 "java/lang/IndexOutOfBoundsException" ["java/lang/RuntimeException", "java/lang/Exception"]).filter goodWord)
def wsL_earn_r1 : List Cond := [Cond.classLink RL 19 "java/lang/IndexOutOfBoundsException", Cond.classLink RL 13 "java/lang/IllegalStateException", Cond.methodLink RL 93 yX5_earn, Cond.instanceMethod yX5_earn, Cond.selects RX5 yX5_earn yX5_earn, Cond.initialized RX5, Cond.code yX5_earn cX5_earn 3 (some .int), Cond.classLink RX5 51 "java/lang/IllegalStateException", Cond.initialized "java/lang/IllegalStateException", Cond.fieldLink RX5 10 "CampBook" "people" "LCampBook$People;", Cond.fieldLink RX5 66 "CampBook$People" "scouts" "I", Cond.fieldLink RX5 40 "CampBook" "badges" "LCampBook$Badges;", Cond.fieldLink RX5 209 "CampBook$Badges" "size" "I", Cond.fieldLink RX5 226 "CampBook$People" "badges" "[I", Cond.methodLink RX5 58 yX5_checkNumber, Cond.static yX5_checkNumber, Cond.code yX5_checkNumber cX5_checkNumber 2 none, Cond.classLink RX5 273 "java/lang/IndexOutOfBoundsException", Cond.initialized "java/lang/IndexOutOfBoundsException", Cond.methodLink RX5 221 yX0_distance, Cond.instanceMethod yX0_distance, Cond.selects RX0 yX0_distance yX0_distance, Cond.initialized RX0, Cond.code yX0_distance cX0_distance 4 (some .int)]
def wsL_earn_r2 : List Cond := [Cond.fieldLink RX0 18 "CampBook$People" "age" "[I", Cond.fieldLink RX0 9 "CampBook$Badges" "leastAge" "[I", Cond.fieldLink RX0 23 "CampBook$People" "badges" "[I", Cond.methodLink RX0 26 yX0_hoursLacking, Cond.instanceMethod yX0_hoursLacking, Cond.selects RX0 yX0_hoursLacking yX0_hoursLacking, Cond.code yX0_hoursLacking cX0_hoursLacking 7 (some .int), Cond.fieldLink RX0 15 "CampBook$Badges" "wants" "[I", Cond.methodLink RX0 34 Lib.Math.max.name, Cond.static Lib.Math.max.name, Cond.initialized "java/lang/Math", Cond.code Lib.Math.max.name Lib.Math.max.code 2 (some .int), Cond.methodLink RX0 30 yX3_hoursIn, Cond.instanceMethod yX3_hoursIn, Cond.selects RX3 yX3_hoursIn yX3_hoursIn, Cond.initialized RX3, Cond.code yX3_hoursIn cX3_hoursIn 3 (some .int), Cond.fieldLink RX3 27 "CampBook$People" "hours" "[I", Cond.methodLink RX5 228 yJ6_bitCount_0f7a4, Cond.static yJ6_bitCount_0f7a4, Cond.initialized RJ6, Cond.code yJ6_bitCount_0f7a4 cJ6_bitCount_0f7a4 1 (some .int), Cond.constant RJ6 265 (1431655765), Cond.constant RJ6 266 (858993459)]
def wsL_earn_r3 : List Cond := [Cond.constant RJ6 267 (252645135)]
def wsL_earn : List Cond := .codeWith yL_earn cL_earn 5 (some .int) [(0, 10, 13, 19), (0, 10, 17, 13)] :: ((wsL_earn_r1 ++ (wsL_earn_r2 ++ wsL_earn_r3)) ++ wsX50 ++ wsX30 ++ wsX00 ++ (vx_atS RX5 55 "java/lang/IllegalStateException" ["java/lang/RuntimeException", "java/lang/Exception"]).filter goodWord ++ (vx_atS RX5 277 "java/lang/IndexOutOfBoundsException" ["java/lang/RuntimeException", "java/lang/Exception"]).filter goodWord)
def wsL_hike_r1 : List Cond := [Cond.classLink RL 21 "java/lang/IllegalArgumentException", Cond.classLink RL 13 "java/lang/IllegalStateException", Cond.methodLink RL 96 yX5_hike, Cond.instanceMethod yX5_hike, Cond.selects RX5 yX5_hike yX5_hike, Cond.initialized RX5, Cond.code yX5_hike cX5_hike 6 (some .int), Cond.classLink RX5 238 "java/lang/IllegalArgumentException", Cond.initialized "java/lang/IllegalArgumentException", Cond.classLink RX5 51 "java/lang/IllegalStateException", Cond.initialized "java/lang/IllegalStateException", Cond.fieldLink RX5 10 "CampBook" "people" "LCampBook$People;", Cond.constantLong RX5 236 (-1), Cond.methodLink RX5 232 yX3_everyone, Cond.instanceMethod yX3_everyone, Cond.selects RX3 yX3_everyone yX3_everyone, Cond.initialized RX3, Cond.code yX3_everyone cX3_everyone 1 (some .long), Cond.fieldLink RX3 30 "CampBook$People" "scouts" "I", Cond.methodLink RX5 62 yX5_checkArgument, Cond.static yX5_checkArgument, Cond.code yX5_checkArgument cX5_checkArgument 3 none, Cond.methodLink RX5 243 yX3_agedAtLeast, Cond.instanceMethod yX3_agedAtLeast]
def wsL_hike_r2 : List Cond := [Cond.selects RX3 yX3_agedAtLeast yX3_agedAtLeast, Cond.code yX3_agedAtLeast cX3_agedAtLeast 5 (some .long), Cond.fieldLink RX3 15 "CampBook$People" "age" "[I", Cond.methodLink RX5 247 yX3_skilledIn, Cond.instanceMethod yX3_skilledIn, Cond.selects RX3 yX3_skilledIn yX3_skilledIn, Cond.code yX3_skilledIn cX3_skilledIn 5 (some .long), Cond.fieldLink RX3 18 "CampBook$People" "skills" "[I", Cond.methodLink RX5 252 yX3_slowestPace, Cond.instanceMethod yX3_slowestPace, Cond.selects RX3 yX3_slowestPace yX3_slowestPace, Cond.code yX3_slowestPace cX3_slowestPace 5 (some .int), Cond.methodLink RX3 38 Lib.Math.max.name, Cond.static Lib.Math.max.name, Cond.initialized "java/lang/Math", Cond.code Lib.Math.max.name Lib.Math.max.code 2 (some .int), Cond.methodLink RX3 43 yX3_paceOf, Cond.instanceMethod yX3_paceOf, Cond.selects RX3 yX3_paceOf yX3_paceOf, Cond.code yX3_paceOf cX3_paceOf 3 (some .int)]
def wsL_hike : List Cond := .codeWith yL_hike cL_hike 7 (some .int) [(0, 13, 16, 21), (0, 13, 20, 13)] :: ((wsL_hike_r1 ++ wsL_hike_r2) ++ wsX50 ++ wsX30 ++ (vx_atS RX5 242 "java/lang/IllegalArgumentException" ["java/lang/RuntimeException", "java/lang/Exception"]).filter goodWord ++ (vx_atS RX5 55 "java/lang/IllegalStateException" ["java/lang/RuntimeException", "java/lang/Exception"]).filter goodWord)
def wsL_end : List Cond := .codeWith yL_end cL_end 3 (some .int) [(0, 8, 11, 13)] :: ([.classLink RL 13 "java/lang/IllegalStateException", .methodLink RL 100 yX5_end, .instanceMethod yX5_end, .selects RX5 yX5_end yX5_end, .initialized RX5, .code yX5_end cX5_end 1 (some .int), .classLink RX5 51 "java/lang/IllegalStateException", .initialized "java/lang/IllegalStateException", .fieldLink RX5 44 "CampBook" "today" "I", .fieldLink RX5 33 "CampBook" "kitchen" "LCampBook$Kitchen;", .methodLink RX5 257 yX2_clearTable, .instanceMethod yX2_clearTable, .selects RX2 yX2_clearTable yX2_clearTable, .initialized RX2, .code yX2_clearTable cX2_clearTable 1 none, .fieldLink RX2 48 "CampBook$Kitchen" "mealsToday" "I", .fieldLink RX2 55 "CampBook$Kitchen" "ateToday" "J"] ++ wsX50 ++ wsX20 ++ (vx_atS RX5 55 "java/lang/IllegalStateException" ["java/lang/RuntimeException", "java/lang/Exception"]).filter goodWord)
def wsL_law0_r1 : List Cond := [Cond.classLink RL 8 RX5, Cond.instantiable RX5 6, Cond.initialized RX5, Cond.classLink RL 104 RX6, Cond.instantiable RX6 23, Cond.initialized RX6, Cond.arrayClass .long, Cond.constantLong RL 200 (4294967295), Cond.methodLink RL 103 yX5_init, Cond.instanceMethod yX5_init, Cond.code yX5_init cX5_init 1 none, Cond.methodLink RX5 1 objectInit, Cond.instanceMethod objectInit, Cond.code objectInit ⟨#[0xb1]⟩ 1 none, Cond.classLink RX5 7 RX3, Cond.instantiable RX3 8, Cond.initialized RX3, Cond.fieldLink RX5 10 "CampBook" "people" "LCampBook$People;", Cond.classLink RX5 16 RX4, Cond.instantiable RX4 3, Cond.initialized RX4, Cond.fieldLink RX5 19 "CampBook" "tents" "LCampBook$Tents;", Cond.classLink RX5 23 RX1, Cond.instantiable RX1 2]
def wsL_law0_r2 : List Cond := [Cond.initialized RX1, Cond.fieldLink RX5 26 "CampBook" "duties" "LCampBook$Duties;", Cond.classLink RX5 30 RX2, Cond.instantiable RX2 6, Cond.initialized RX2, Cond.fieldLink RX5 33 "CampBook" "kitchen" "LCampBook$Kitchen;", Cond.classLink RX5 37 RX0, Cond.instantiable RX0 3, Cond.initialized RX0, Cond.fieldLink RX5 40 "CampBook" "badges" "LCampBook$Badges;", Cond.fieldLink RX5 44 "CampBook" "today" "I", Cond.instanceMethod yX3_init, Cond.code yX3_init cX3_init 1 none, Cond.methodLink RX3 3 objectInit, Cond.arrayClass .int, Cond.fieldLink RX3 9 "CampBook$People" "patrol" "[I", Cond.fieldLink RX3 15 "CampBook$People" "age" "[I", Cond.fieldLink RX3 18 "CampBook$People" "skills" "[I", Cond.fieldLink RX3 21 "CampBook$People" "refused" "[I", Cond.fieldLink RX3 24 "CampBook$People" "badges" "[I", Cond.fieldLink RX3 27 "CampBook$People" "hours" "[I", Cond.instanceMethod yX4_init, Cond.code yX4_init cX4_init 1 none, Cond.methodLink RX4 3 objectInit]
def wsL_law0_r3 : List Cond := [Cond.fieldLink RX4 9 "CampBook$Tents" "places" "[I", Cond.fieldLink RX4 15 "CampBook$Tents" "sleepers" "[J", Cond.methodLink RX5 25 yX1_init, Cond.instanceMethod yX1_init, Cond.code yX1_init cX1_init 1 none, Cond.methodLink RX1 3 objectInit, Cond.fieldLink RX1 11 "CampBook$Duties" "holders" "[I", Cond.fieldLink RX1 15 "CampBook$Duties" "points" "[I", Cond.methodLink RX1 18 yJ7_fill_53178, Cond.static yJ7_fill_53178, Cond.initialized RJ7, Cond.code yJ7_fill_53178 cJ7_fill_53178 4 none, Cond.instanceMethod yX2_init, Cond.code yX2_init cX2_init 1 none, Cond.methodLink RX2 3 objectInit, Cond.fieldLink RX2 9 "CampBook$Kitchen" "stores" "[I", Cond.fieldLink RX2 15 "CampBook$Kitchen" "needs" "[I", Cond.instanceMethod yX0_init, Cond.code yX0_init cX0_init 1 none, Cond.methodLink RX0 3 objectInit, Cond.fieldLink RX0 9 "CampBook$Badges" "leastAge" "[I", Cond.fieldLink RX0 15 "CampBook$Badges" "wants" "[I", Cond.methodLink RL 106 yX6_init, Cond.instanceMethod yX6_init]
def wsL_law0_r4 : List Cond := [Cond.code yX6_init cX6_init 2 none, Cond.methodLink RX6 1 objectInit, Cond.fieldLink RX6 9 "CampBookModel" "patrolOf" "[I", Cond.fieldLink RX6 13 "CampBookModel" "ages" "[I", Cond.fieldLink RX6 16 "CampBookModel" "skills" "[I", Cond.fieldLink RX6 19 "CampBookModel" "avoids" "[I", Cond.fieldLink RX6 22 "CampBookModel" "tentOf" "[I", Cond.fieldLink RX6 25 "CampBookModel" "badgesOf" "[I", Cond.fieldLink RX6 28 "CampBookModel" "hours" "[I", Cond.arrayClass .boolean, Cond.fieldLink RX6 31 "CampBookModel" "hasEaten" "[Z", Cond.fieldLink RX6 35 "CampBookModel" "places" "[I", Cond.fieldLink RX6 38 "CampBookModel" "duties" "[I", Cond.fieldLink RX6 41 "CampBookModel" "stores" "[I", Cond.fieldLink RX6 44 "CampBookModel" "units" "[I", Cond.fieldLink RX6 47 "CampBookModel" "badgeAges" "[I", Cond.fieldLink RX6 50 "CampBookModel" "wants" "[I", Cond.methodLink RL 107 yL_addPatrol, Cond.static yL_addPatrol, Cond.initialized RL, Cond.codeWith yL_addPatrol cL_addPatrol 3 (some .int) [(0, 8, 11, 13)], Cond.classLink RL 13 "java/lang/IllegalStateException", Cond.methodLink RL 7 yX5_addPatrol, Cond.instanceMethod yX5_addPatrol]
def wsL_law0_r5 : List Cond := [Cond.selects RX5 yX5_addPatrol yX5_addPatrol, Cond.code yX5_addPatrol cX5_addPatrol 1 (some .int), Cond.classLink RX5 51 "java/lang/IllegalStateException", Cond.initialized "java/lang/IllegalStateException", Cond.fieldLink RX5 48 "CampBook$People" "patrols" "I", Cond.methodLink RL 112 yX6_addPatrol, Cond.instanceMethod yX6_addPatrol, Cond.selects RX6 yX6_addPatrol yX6_addPatrol, Cond.code yX6_addPatrol cX6_addPatrol 1 (some .int), Cond.fieldLink RX6 53 "CampBookModel" "thrown" "I", Cond.fieldLink RX6 57 "CampBookModel" "patrols" "I", Cond.methodLink RX6 79 yX6_no, Cond.instanceMethod yX6_no, Cond.selects RX6 yX6_no yX6_no, Cond.code yX6_no cX6_no 2 (some .int), Cond.methodLink RL 113 yX6_thrown, Cond.instanceMethod yX6_thrown, Cond.selects RX6 yX6_thrown yX6_thrown, Cond.code yX6_thrown cX6_thrown 1 (some .int), Cond.methodLink RL 116 yL_addScout, Cond.static yL_addScout, Cond.codeWith yL_addScout cL_addScout 6 (some .int) [(0, 12, 15, 19), (0, 12, 19, 21), (0, 12, 23, 13)], Cond.classLink RL 19 "java/lang/IndexOutOfBoundsException", Cond.classLink RL 21 "java/lang/IllegalArgumentException"]
def wsL_law0_r6 : List Cond := [Cond.methodLink RL 15 yX5_addScout, Cond.instanceMethod yX5_addScout, Cond.selects RX5 yX5_addScout yX5_addScout, Cond.code yX5_addScout cX5_addScout 4 (some .int), Cond.fieldLink RX5 66 "CampBook$People" "scouts" "I", Cond.methodLink RX5 58 yX5_checkNumber, Cond.static yX5_checkNumber, Cond.code yX5_checkNumber cX5_checkNumber 2 none, Cond.classLink RX5 273 "java/lang/IndexOutOfBoundsException", Cond.initialized "java/lang/IndexOutOfBoundsException", Cond.methodLink RX5 62 yX5_checkArgument, Cond.static yX5_checkArgument, Cond.code yX5_checkArgument cX5_checkArgument 3 none, Cond.classLink RX5 238 "java/lang/IllegalArgumentException", Cond.initialized "java/lang/IllegalArgumentException", Cond.methodLink RX5 71 yX3_enrol, Cond.instanceMethod yX3_enrol, Cond.selects RX3 yX3_enrol yX3_enrol, Cond.code yX3_enrol cX3_enrol 5 (some .int), Cond.fieldLink RX3 30 "CampBook$People" "scouts" "I", Cond.methodLink RL 119 yX6_addScout, Cond.instanceMethod yX6_addScout, Cond.selects RX6 yX6_addScout yX6_addScout, Cond.code yX6_addScout cX6_addScout 4 (some .int)]
def wsL_law0_r7 : List Cond := [Cond.fieldLink RX6 64 "CampBookModel" "scouts" "I", Cond.methodLink RX6 83 yX6_isPatrol, Cond.instanceMethod yX6_isPatrol, Cond.selects RX6 yX6_isPatrol yX6_isPatrol, Cond.code yX6_isPatrol cX6_isPatrol 2 (some .boolean), Cond.methodLink RX6 60 yX6_isIn, Cond.static yX6_isIn, Cond.code yX6_isIn cX6_isIn 3 (some .boolean), Cond.methodLink RL 120 yL_scout, Cond.static yL_scout, Cond.codeWith yL_scout cL_scout 5 (some .int) [(0, 10, 13, 19)], Cond.methodLink RL 23 yX5_scout, Cond.instanceMethod yX5_scout, Cond.selects RX5 yX5_scout yX5_scout, Cond.code yX5_scout cX5_scout 3 (some .int), Cond.methodLink RX5 75 yX5_factOf, Cond.instanceMethod yX5_factOf, Cond.selects RX5 yX5_factOf yX5_factOf, Cond.code yX5_factOf cX5_factOf 3 (some .int), Cond.fieldLink RX5 280 "CampBook$People" "patrol" "[I", Cond.fieldLink RX5 112 "CampBook$People" "age" "[I", Cond.fieldLink RX5 283 "CampBook$People" "skills" "[I", Cond.fieldLink RX5 161 "CampBook$People" "refused" "[I", Cond.fieldLink RX5 226 "CampBook$People" "badges" "[I"]
def wsL_law0_r8 : List Cond := [Cond.methodLink RX5 91 yX4_tentOf, Cond.instanceMethod yX4_tentOf, Cond.selects RX4 yX4_tentOf yX4_tentOf, Cond.code yX4_tentOf cX4_tentOf 3 (some .int), Cond.fieldLink RX4 19 "CampBook$Tents" "size" "I", Cond.methodLink RX5 286 yX3_allHours, Cond.instanceMethod yX3_allHours, Cond.selects RX3 yX3_allHours yX3_allHours, Cond.code yX3_allHours cX3_allHours 4 (some .int), Cond.methodLink RX3 34 yX3_hoursIn, Cond.instanceMethod yX3_hoursIn, Cond.selects RX3 yX3_hoursIn yX3_hoursIn, Cond.code yX3_hoursIn cX3_hoursIn 3 (some .int), Cond.methodLink RL 123 yX6_scout, Cond.instanceMethod yX6_scout, Cond.selects RX6 yX6_scout yX6_scout, Cond.code yX6_scout cX6_scout 3 (some .int), Cond.methodLink RX6 90 yX6_isScout, Cond.instanceMethod yX6_isScout, Cond.selects RX6 yX6_isScout yX6_isScout, Cond.code yX6_isScout cX6_isScout 2 (some .boolean), Cond.methodLink RX6 93 yX6_told, Cond.instanceMethod yX6_told, Cond.selects RX6 yX6_told yX6_told]
def wsL_law0_r9 : List Cond := [Cond.code yX6_told cX6_told 4 (some .int), Cond.methodLink RX6 87 yX6_hoursOf, Cond.instanceMethod yX6_hoursOf, Cond.selects RX6 yX6_hoursOf yX6_hoursOf, Cond.code yX6_hoursOf cX6_hoursOf 4 (some .int), Cond.methodLink RL 124 yL_addTent, Cond.static yL_addTent, Cond.codeWith yL_addTent cL_addTent 4 (some .int) [(0, 9, 12, 21), (0, 9, 15, 13)], Cond.methodLink RL 27 yX5_addTent, Cond.instanceMethod yX5_addTent, Cond.selects RX5 yX5_addTent yX5_addTent, Cond.code yX5_addTent cX5_addTent 2 (some .int), Cond.fieldLink RX5 79 "CampBook$Tents" "size" "I", Cond.methodLink RX5 84 yX4_pitch, Cond.instanceMethod yX4_pitch, Cond.selects RX4 yX4_pitch yX4_pitch, Cond.code yX4_pitch cX4_pitch 3 (some .int), Cond.methodLink RL 127 yX6_addTent, Cond.instanceMethod yX6_addTent, Cond.selects RX6 yX6_addTent yX6_addTent, Cond.code yX6_addTent cX6_addTent 2 (some .int), Cond.fieldLink RX6 67 "CampBookModel" "tents" "I", Cond.methodLink RL 128 yL_sleep, Cond.static yL_sleep]
def wsL_law0_r10 : List Cond := [Cond.codeWith yL_sleep cL_sleep 5 (some .int) [(0, 10, 13, 19), (0, 10, 17, 13)], Cond.methodLink RL 31 yX5_sleep, Cond.instanceMethod yX5_sleep, Cond.selects RX5 yX5_sleep yX5_sleep, Cond.code yX5_sleep cX5_sleep 4 (some .int), Cond.methodLink RX5 88 yX5_checkNumberOrNone, Cond.static yX5_checkNumberOrNone, Cond.code yX5_checkNumberOrNone cX5_checkNumberOrNone 2 none, Cond.methodLink RX5 96 yX4_canTake, Cond.instanceMethod yX4_canTake, Cond.selects RX4 yX4_canTake yX4_canTake, Cond.code yX4_canTake cX4_canTake 4 (some .boolean), Cond.methodLink RX4 25 yJ13_bitCount_95d88, Cond.static yJ13_bitCount_95d88, Cond.initialized RJ13, Cond.code yJ13_bitCount_95d88 cJ13_bitCount_95d88 2 (some .int), Cond.constantLong RJ13 314 (6148914691236517205), Cond.constantLong RJ13 316 (3689348814741910323), Cond.constantLong RJ13 318 (1085102592571150095), Cond.methodLink RX4 31 yX4_agesFit, Cond.instanceMethod yX4_agesFit, Cond.selects RX4 yX4_agesFit yX4_agesFit, Cond.code yX4_agesFit cX4_agesFit 6 (some .boolean), Cond.fieldLink RX4 35 "CampBook$People" "scouts" "I"]
def wsL_law0_r11 : List Cond := [Cond.fieldLink RX4 40 "CampBook$People" "age" "[I", Cond.methodLink RX4 43 Lib.Math.abs.name, Cond.static Lib.Math.abs.name, Cond.initialized "java/lang/Math", Cond.code Lib.Math.abs.name Lib.Math.abs.code 1 (some .int), Cond.methodLink RX5 102 yX4_leave, Cond.instanceMethod yX4_leave, Cond.selects RX4 yX4_leave yX4_leave, Cond.code yX4_leave cX4_leave 3 none, Cond.constantLong RX4 23 (-1), Cond.methodLink RX5 105 yX4_enter, Cond.instanceMethod yX4_enter, Cond.selects RX4 yX4_enter yX4_enter, Cond.code yX4_enter cX4_enter 3 none, Cond.methodLink RL 130 yX6_sleep, Cond.instanceMethod yX6_sleep, Cond.selects RX6 yX6_sleep yX6_sleep, Cond.code yX6_sleep cX6_sleep 4 (some .int), Cond.methodLink RX6 105 yX6_isTent, Cond.instanceMethod yX6_isTent, Cond.selects RX6 yX6_isTent yX6_isTent, Cond.code yX6_isTent cX6_isTent 2 (some .boolean), Cond.methodLink RX6 108 yX6_canSleep, Cond.instanceMethod yX6_canSleep]
def wsL_law0_r12 : List Cond := [Cond.selects RX6 yX6_canSleep yX6_canSleep, Cond.code yX6_canSleep cX6_canSleep 5 (some .boolean), Cond.methodLink RX6 100 Lib.Math.abs.name, Cond.methodLink RX6 97 yX6_sleepers, Cond.instanceMethod yX6_sleepers, Cond.selects RX6 yX6_sleepers yX6_sleepers, Cond.code yX6_sleepers cX6_sleepers 5 (some .int), Cond.methodLink RL 131 yL_inTent, Cond.static yL_inTent, Cond.codeWith yL_inTent cL_inTent 4 (some .int) [(0, 8, 11, 19)], Cond.methodLink RL 34 yX5_inTent, Cond.instanceMethod yX5_inTent, Cond.selects RX5 yX5_inTent yX5_inTent, Cond.code yX5_inTent cX5_inTent 2 (some .long), Cond.fieldLink RX5 108 "CampBook$Tents" "sleepers" "[J", Cond.methodLink RL 133 yX6_inTent, Cond.instanceMethod yX6_inTent, Cond.selects RX6 yX6_inTent yX6_inTent, Cond.code yX6_inTent cX6_inTent 2 (some .long), Cond.methodLink RX6 112 yX6_in, Cond.instanceMethod yX6_in, Cond.selects RX6 yX6_in yX6_in, Cond.code yX6_in cX6_in 5 (some .long), Cond.methodLink RL 134 yX5_findTents]
def wsL_law0_r13 : List Cond := [Cond.instanceMethod yX5_findTents, Cond.selects RX5 yX5_findTents yX5_findTents, Cond.code yX5_findTents cX5_findTents 3 (some .int), Cond.methodLink RX5 116 yX4_bestFor, Cond.instanceMethod yX4_bestFor, Cond.selects RX4 yX4_bestFor yX4_bestFor, Cond.code yX4_bestFor cX4_bestFor 9 (some .int), Cond.fieldLink RX4 49 "CampBook$People" "patrol" "[I", Cond.methodLink RX4 52 yX3_membersOf, Cond.instanceMethod yX3_membersOf, Cond.selects RX3 yX3_membersOf yX3_membersOf, Cond.code yX3_membersOf cX3_membersOf 5 (some .long), Cond.methodLink RX4 56 yX4_rankOf, Cond.instanceMethod yX4_rankOf, Cond.selects RX4 yX4_rankOf yX4_rankOf, Cond.code yX4_rankOf cX4_rankOf 4 (some .int), Cond.methodLink RX4 60 yX4_canTake, Cond.methodLink RX5 120 yX5_scoutsWithoutTent, Cond.instanceMethod yX5_scoutsWithoutTent, Cond.selects RX5 yX5_scoutsWithoutTent yX5_scoutsWithoutTent, Cond.code yX5_scoutsWithoutTent cX5_scoutsWithoutTent 1 (some .int), Cond.methodLink RX5 289 yX4_allSleepers, Cond.instanceMethod yX4_allSleepers, Cond.selects RX4 yX4_allSleepers yX4_allSleepers]
def wsL_law0_r14 : List Cond := [Cond.code yX4_allSleepers cX4_allSleepers 3 (some .int), Cond.methodLink RL 137 yX6_findTents, Cond.instanceMethod yX6_findTents, Cond.selects RX6 yX6_findTents yX6_findTents, Cond.code yX6_findTents cX6_findTents 3 (some .int), Cond.methodLink RX6 116 yX6_bestTent, Cond.instanceMethod yX6_bestTent, Cond.selects RX6 yX6_bestTent yX6_bestTent, Cond.code yX6_bestTent cX6_bestTent 5 (some .int), Cond.methodLink RL 138 yL_count, Cond.static yL_count, Cond.codeWith yL_count cL_count 4 (some .int) [(0, 9, 12, 19)], Cond.methodLink RL 38 yX5_count, Cond.instanceMethod yX5_count, Cond.selects RX5 yX5_count yX5_count, Cond.code yX5_count cX5_count 2 (some .int), Cond.methodLink RX5 124 yX5_countOf, Cond.instanceMethod yX5_countOf, Cond.selects RX5 yX5_countOf yX5_countOf, Cond.code yX5_countOf cX5_countOf 2 (some .int), Cond.fieldLink RX5 151 "CampBook$Kitchen" "foods" "I", Cond.fieldLink RX5 164 "CampBook$Kitchen" "meals" "I", Cond.fieldLink RX5 209 "CampBook$Badges" "size" "I", Cond.methodLink RL 140 yX6_count]
def wsL_law0_r15 : List Cond := [Cond.instanceMethod yX6_count, Cond.selects RX6 yX6_count yX6_count, Cond.code yX6_count cX6_count 2 (some .int), Cond.methodLink RX6 119 yX6_counted, Cond.instanceMethod yX6_counted, Cond.selects RX6 yX6_counted yX6_counted, Cond.code yX6_counted cX6_counted 3 (some .int), Cond.fieldLink RX6 70 "CampBookModel" "foods" "I", Cond.fieldLink RX6 73 "CampBookModel" "meals" "I", Cond.fieldLink RX6 76 "CampBookModel" "badges" "I", Cond.methodLink RL 141 yL_giveDuty, Cond.static yL_giveDuty, Cond.codeWith yL_giveDuty cL_giveDuty 6 (some .int) [(0, 12, 15, 19), (0, 12, 19, 21), (0, 12, 23, 13)], Cond.methodLink RL 41 yX5_giveDuty, Cond.instanceMethod yX5_giveDuty, Cond.selects RX5 yX5_giveDuty yX5_giveDuty, Cond.code yX5_giveDuty cX5_giveDuty 5 (some .int), Cond.methodLink RX5 127 yX1_canBeGiven, Cond.instanceMethod yX1_canBeGiven, Cond.selects RX1 yX1_canBeGiven yX1_canBeGiven, Cond.code yX1_canBeGiven cX1_canBeGiven 5 (some .boolean), Cond.methodLink RX1 24 yX1_hasFitScout, Cond.instanceMethod yX1_hasFitScout, Cond.selects RX1 yX1_hasFitScout yX1_hasFitScout]
def wsL_law0_r16 : List Cond := [Cond.code yX1_hasFitScout cX1_hasFitScout 5 (some .boolean), Cond.methodLink RX1 36 yX3_membersOf, Cond.methodLink RX1 42 yX3_agedAtLeast, Cond.instanceMethod yX3_agedAtLeast, Cond.selects RX3 yX3_agedAtLeast yX3_agedAtLeast, Cond.code yX3_agedAtLeast cX3_agedAtLeast 5 (some .long), Cond.methodLink RX1 28 yX1_doesOther, Cond.instanceMethod yX1_doesOther, Cond.selects RX1 yX1_doesOther yX1_doesOther, Cond.code yX1_doesOther cX1_doesOther 5 (some .boolean), Cond.methodLink RX1 32 yX1_holderOn, Cond.instanceMethod yX1_holderOn, Cond.selects RX1 yX1_holderOn yX1_holderOn, Cond.code yX1_holderOn cX1_holderOn 3 (some .int), Cond.methodLink RX5 133 yX1_holderOn, Cond.methodLink RX5 136 yX1_assign, Cond.instanceMethod yX1_assign, Cond.selects RX1 yX1_assign yX1_assign, Cond.code yX1_assign cX1_assign 5 none, Cond.fieldLink RX1 45 "CampBook$Duties" "POINTS" "[I", Cond.methodLink RL 143 yX6_giveDuty, Cond.instanceMethod yX6_giveDuty, Cond.selects RX6 yX6_giveDuty yX6_giveDuty, Cond.code yX6_giveDuty cX6_giveDuty 5 (some .int)]
def wsL_law0_r17 : List Cond := [Cond.fieldLink RX6 128 "CampBookModel" "day" "I", Cond.methodLink RX6 131 yX6_canBeGiven, Cond.instanceMethod yX6_canBeGiven, Cond.selects RX6 yX6_canBeGiven yX6_canBeGiven, Cond.code yX6_canBeGiven cX6_canBeGiven 6 (some .boolean), Cond.methodLink RX6 122 yX6_hasScout, Cond.instanceMethod yX6_hasScout, Cond.selects RX6 yX6_hasScout yX6_hasScout, Cond.code yX6_hasScout cX6_hasScout 5 (some .boolean), Cond.methodLink RX6 125 yX6_at, Cond.instanceMethod yX6_at, Cond.selects RX6 yX6_at yX6_at, Cond.code yX6_at cX6_at 3 (some .int), Cond.methodLink RL 144 yL_duty, Cond.static yL_duty, Cond.codeWith yL_duty cL_duty 5 (some .int) [(0, 10, 13, 19)], Cond.methodLink RL 44 yX5_duty, Cond.instanceMethod yX5_duty, Cond.selects RX5 yX5_duty yX5_duty, Cond.code yX5_duty cX5_duty 3 (some .int), Cond.methodLink RL 146 yX6_duty, Cond.instanceMethod yX6_duty, Cond.selects RX6 yX6_duty yX6_duty, Cond.code yX6_duty cX6_duty 3 (some .int)]
def wsL_law0_r18 : List Cond := [Cond.methodLink RL 147 yL_points, Cond.static yL_points, Cond.codeWith yL_points cL_points 4 (some .int) [(0, 9, 12, 19)], Cond.methodLink RL 47 yX5_points, Cond.instanceMethod yX5_points, Cond.selects RX5 yX5_points yX5_points, Cond.code yX5_points cX5_points 2 (some .int), Cond.fieldLink RX5 139 "CampBook$Duties" "points" "[I", Cond.methodLink RL 149 yX6_points, Cond.instanceMethod yX6_points, Cond.selects RX6 yX6_points yX6_points, Cond.code yX6_points cX6_points 2 (some .int), Cond.methodLink RX6 134 yX6_pointsOf, Cond.instanceMethod yX6_pointsOf, Cond.selects RX6 yX6_pointsOf yX6_pointsOf, Cond.code yX6_pointsOf cX6_pointsOf 5 (some .int), Cond.methodLink RL 150 yX5_findDuties, Cond.instanceMethod yX5_findDuties, Cond.selects RX5 yX5_findDuties yX5_findDuties, Cond.code yX5_findDuties cX5_findDuties 3 (some .int), Cond.methodLink RX5 145 yX1_bestFor, Cond.instanceMethod yX1_bestFor, Cond.selects RX1 yX1_bestFor yX1_bestFor, Cond.code yX1_bestFor cX1_bestFor 7 (some .int)]
def wsL_law0_r19 : List Cond := [Cond.fieldLink RX1 48 "CampBook$People" "patrols" "I", Cond.methodLink RX1 52 yX1_canBeGiven, Cond.methodLink RX5 148 yX1_openOn, Cond.instanceMethod yX1_openOn, Cond.selects RX1 yX1_openOn yX1_openOn, Cond.code yX1_openOn cX1_openOn 4 (some .int), Cond.methodLink RL 153 yX6_findDuties, Cond.instanceMethod yX6_findDuties, Cond.selects RX6 yX6_findDuties yX6_findDuties, Cond.code yX6_findDuties cX6_findDuties 9 (some .int), Cond.methodLink RL 154 yL_addFood, Cond.static yL_addFood, Cond.codeWith yL_addFood cL_addFood 4 (some .int) [(0, 9, 12, 21), (0, 9, 15, 13)], Cond.methodLink RL 50 yX5_addFood, Cond.instanceMethod yX5_addFood, Cond.selects RX5 yX5_addFood yX5_addFood, Cond.code yX5_addFood cX5_addFood 2 (some .int), Cond.fieldLink RX5 156 "CampBook$Kitchen" "stores" "[I", Cond.methodLink RL 156 yX6_addFood, Cond.instanceMethod yX6_addFood, Cond.selects RX6 yX6_addFood yX6_addFood, Cond.code yX6_addFood cX6_addFood 2 (some .int), Cond.methodLink RL 157 yL_buy, Cond.static yL_buy]
def wsL_law0_r20 : List Cond := [Cond.codeWith yL_buy cL_buy 5 (some .int) [(0, 10, 13, 19), (0, 10, 17, 21), (0, 10, 21, 13)], Cond.methodLink RL 53 yX5_buy, Cond.instanceMethod yX5_buy, Cond.selects RX5 yX5_buy yX5_buy, Cond.code yX5_buy cX5_buy 4 (some .int), Cond.methodLink RL 159 yX6_buy, Cond.instanceMethod yX6_buy, Cond.selects RX6 yX6_buy yX6_buy, Cond.code yX6_buy cX6_buy 3 (some .int), Cond.methodLink RX6 137 yX6_isFood, Cond.instanceMethod yX6_isFood, Cond.selects RX6 yX6_isFood yX6_isFood, Cond.code yX6_isFood cX6_isFood 2 (some .boolean), Cond.methodLink RL 160 yL_store, Cond.static yL_store, Cond.codeWith yL_store cL_store 4 (some .int) [(0, 9, 12, 19)], Cond.methodLink RL 56 yX5_store, Cond.instanceMethod yX5_store, Cond.selects RX5 yX5_store yX5_store, Cond.code yX5_store cX5_store 2 (some .int), Cond.methodLink RL 162 yX6_store, Cond.instanceMethod yX6_store, Cond.selects RX6 yX6_store yX6_store, Cond.code yX6_store cX6_store 2 (some .int)]
def wsL_law0_r21 : List Cond := [Cond.methodLink RL 163 yL_diet, Cond.static yL_diet, Cond.codeWith yL_diet cL_diet 6 (some .int) [(0, 19, 22, 19)], Cond.methodLink RL 59 yX5_diet, Cond.instanceMethod yX5_diet, Cond.selects RX5 yX5_diet yX5_diet, Cond.code yX5_diet cX5_diet 6 (some .boolean), Cond.methodLink RL 166 yX6_diet, Cond.instanceMethod yX6_diet, Cond.selects RX6 yX6_diet yX6_diet, Cond.code yX6_diet cX6_diet 5 (some .boolean), Cond.methodLink RL 167 yL_addMeal, Cond.static yL_addMeal, Cond.codeWith yL_addMeal cL_addMeal 3 (some .int) [(0, 8, 11, 13)], Cond.methodLink RL 63 yX5_addMeal, Cond.instanceMethod yX5_addMeal, Cond.selects RX5 yX5_addMeal yX5_addMeal, Cond.code yX5_addMeal cX5_addMeal 1 (some .int), Cond.methodLink RL 169 yX6_addMeal, Cond.instanceMethod yX6_addMeal, Cond.selects RX6 yX6_addMeal yX6_addMeal, Cond.code yX6_addMeal cX6_addMeal 1 (some .int), Cond.methodLink RL 170 yL_need, Cond.static yL_need]
def wsL_law0_r22 : List Cond := [Cond.codeWith yL_need cL_need 6 (some .int) [(0, 12, 15, 19), (0, 12, 19, 21)], Cond.methodLink RL 66 yX5_need, Cond.instanceMethod yX5_need, Cond.selects RX5 yX5_need yX5_need, Cond.code yX5_need cX5_need 5 (some .int), Cond.fieldLink RX5 172 "CampBook$Kitchen" "needs" "[I", Cond.methodLink RX5 169 yX2_needOf, Cond.instanceMethod yX2_needOf, Cond.selects RX2 yX2_needOf yX2_needOf, Cond.code yX2_needOf cX2_needOf 3 (some .int), Cond.methodLink RL 172 yX6_need, Cond.instanceMethod yX6_need, Cond.selects RX6 yX6_need yX6_need, Cond.code yX6_need cX6_need 5 (some .int), Cond.methodLink RX6 140 yX6_isMeal, Cond.instanceMethod yX6_isMeal, Cond.selects RX6 yX6_isMeal yX6_isMeal, Cond.code yX6_isMeal cX6_isMeal 2 (some .boolean), Cond.methodLink RL 173 yL_eaters, Cond.static yL_eaters, Cond.codeWith yL_eaters cL_eaters 4 (some .int) [(0, 8, 11, 19)], Cond.methodLink RL 69 yX5_eaters, Cond.instanceMethod yX5_eaters, Cond.selects RX5 yX5_eaters yX5_eaters]
def wsL_law0_r23 : List Cond := [Cond.code yX5_eaters cX5_eaters 2 (some .long), Cond.methodLink RX5 175 yX2_eatersOf, Cond.instanceMethod yX2_eatersOf, Cond.selects RX2 yX2_eatersOf yX2_eatersOf, Cond.code yX2_eatersOf cX2_eatersOf 7 (some .long), Cond.fieldLink RX2 30 "CampBook$People" "scouts" "I", Cond.fieldLink RX2 35 "CampBook$People" "refused" "[I", Cond.methodLink RX2 26 yX2_foodsOf, Cond.instanceMethod yX2_foodsOf, Cond.selects RX2 yX2_foodsOf yX2_foodsOf, Cond.code yX2_foodsOf cX2_foodsOf 4 (some .int), Cond.fieldLink RX2 18 "CampBook$Kitchen" "foods" "I", Cond.methodLink RX2 22 yX2_needOf, Cond.methodLink RL 175 yX6_eaters, Cond.instanceMethod yX6_eaters, Cond.selects RX6 yX6_eaters yX6_eaters, Cond.code yX6_eaters cX6_eaters 2 (some .long), Cond.methodLink RX6 146 yX6_setOf, Cond.instanceMethod yX6_setOf, Cond.selects RX6 yX6_setOf yX6_setOf, Cond.code yX6_setOf cX6_setOf 5 (some .long), Cond.methodLink RX6 143 yX6_canEat, Cond.instanceMethod yX6_canEat, Cond.selects RX6 yX6_canEat yX6_canEat]
def wsL_law0_r24 : List Cond := [Cond.code yX6_canEat cX6_canEat 5 (some .boolean), Cond.methodLink RL 176 yL_lacks, Cond.static yL_lacks, Cond.codeWith yL_lacks cL_lacks 6 (some .int) [(0, 12, 15, 19), (0, 12, 19, 21)], Cond.methodLink RL 72 yX5_lacks, Cond.instanceMethod yX5_lacks, Cond.selects RX5 yX5_lacks yX5_lacks, Cond.code yX5_lacks cX5_lacks 5 (some .int), Cond.methodLink RX5 185 Lib.Math.max.name, Cond.static Lib.Math.max.name, Cond.code Lib.Math.max.name Lib.Math.max.code 2 (some .int), Cond.methodLink RX5 179 yJ13_bitCount_95d88, Cond.methodLink RL 178 yX6_lacks, Cond.instanceMethod yX6_lacks, Cond.selects RX6 yX6_lacks yX6_lacks, Cond.code yX6_lacks cX6_lacks 4 (some .int), Cond.methodLink RX6 153 Lib.Math.max.name, Cond.methodLink RX6 149 yX6_eatersOf, Cond.instanceMethod yX6_eatersOf, Cond.selects RX6 yX6_eatersOf yX6_eatersOf, Cond.code yX6_eatersOf cX6_eatersOf 5 (some .int), Cond.methodLink RL 179 yL_eat, Cond.static yL_eat, Cond.codeWith yL_eat cL_eat 4 (some .int) [(0, 9, 12, 19), (0, 9, 15, 13)]]
def wsL_law0_r25 : List Cond := [Cond.methodLink RL 75 yX5_eat, Cond.instanceMethod yX5_eat, Cond.selects RX5 yX5_eat yX5_eat, Cond.code yX5_eat cX5_eat 2 (some .int), Cond.methodLink RX5 190 yX2_canBeEaten, Cond.instanceMethod yX2_canBeEaten, Cond.selects RX2 yX2_canBeEaten yX2_canBeEaten, Cond.code yX2_canBeEaten cX2_canBeEaten 4 (some .boolean), Cond.fieldLink RX2 48 "CampBook$Kitchen" "mealsToday" "I", Cond.methodLink RX2 38 yX2_eatersOf, Cond.methodLink RX2 42 yJ13_bitCount_95d88, Cond.methodLink RX2 51 yX2_isStocked, Cond.instanceMethod yX2_isStocked, Cond.selects RX2 yX2_isStocked yX2_isStocked, Cond.code yX2_isStocked cX2_isStocked 4 (some .boolean), Cond.methodLink RX5 196 yX2_serve, Cond.instanceMethod yX2_serve, Cond.selects RX2 yX2_serve yX2_serve, Cond.code yX2_serve cX2_serve 7 (some .int), Cond.fieldLink RX2 55 "CampBook$Kitchen" "ateToday" "J", Cond.methodLink RL 181 yX6_eat, Cond.instanceMethod yX6_eat, Cond.selects RX6 yX6_eat yX6_eat, Cond.code yX6_eat cX6_eat 4 (some .int)]
def wsL_law0_r26 : List Cond := [Cond.fieldLink RX6 156 "CampBookModel" "eaten" "I", Cond.methodLink RX6 159 yX6_canBeEaten, Cond.instanceMethod yX6_canBeEaten, Cond.selects RX6 yX6_canBeEaten yX6_canBeEaten, Cond.code yX6_canBeEaten cX6_canBeEaten 6 (some .boolean), Cond.methodLink RL 182 yL_table, Cond.static yL_table, Cond.codeWith yL_table cL_table 4 (some .int) [(0, 9, 12, 19)], Cond.methodLink RL 78 yX5_table, Cond.instanceMethod yX5_table, Cond.selects RX5 yX5_table yX5_table, Cond.code yX5_table cX5_table 2 (some .int), Cond.fieldLink RX5 202 "CampBook$Kitchen" "mealsToday" "I", Cond.methodLink RX5 199 yX5_hungryScouts, Cond.instanceMethod yX5_hungryScouts, Cond.selects RX5 yX5_hungryScouts yX5_hungryScouts, Cond.code yX5_hungryScouts cX5_hungryScouts 1 (some .int), Cond.fieldLink RX5 292 "CampBook$Kitchen" "ateToday" "J", Cond.methodLink RX5 205 yX2_bestMeal, Cond.instanceMethod yX2_bestMeal, Cond.selects RX2 yX2_bestMeal yX2_bestMeal, Cond.code yX2_bestMeal cX2_bestMeal 6 (some .int), Cond.fieldLink RX2 59 "CampBook$Kitchen" "meals" "I", Cond.constantLong RX2 62 (-1)]
def wsL_law0_r27 : List Cond := [Cond.methodLink RX2 64 yX2_canBeEaten, Cond.methodLink RL 184 yX6_table, Cond.instanceMethod yX6_table, Cond.selects RX6 yX6_table yX6_table, Cond.code yX6_table cX6_table 2 (some .int), Cond.methodLink RX6 162 yX6_tableOf, Cond.instanceMethod yX6_tableOf, Cond.selects RX6 yX6_tableOf yX6_tableOf, Cond.code yX6_tableOf cX6_tableOf 4 (some .int), Cond.methodLink RL 185 yL_addBadge, Cond.static yL_addBadge, Cond.codeWith yL_addBadge cL_addBadge 4 (some .int) [(0, 9, 12, 21), (0, 9, 15, 13)], Cond.methodLink RL 81 yX5_addBadge, Cond.instanceMethod yX5_addBadge, Cond.selects RX5 yX5_addBadge yX5_addBadge, Cond.code yX5_addBadge cX5_addBadge 2 (some .int), Cond.fieldLink RX5 212 "CampBook$Badges" "leastAge" "[I", Cond.methodLink RL 187 yX6_addBadge, Cond.instanceMethod yX6_addBadge, Cond.selects RX6 yX6_addBadge yX6_addBadge, Cond.code yX6_addBadge cX6_addBadge 2 (some .int), Cond.methodLink RL 188 yL_want, Cond.static yL_want, Cond.codeWith yL_want cL_want 6 (some .int) [(0, 12, 15, 19), (0, 12, 19, 21)]]
def wsL_law0_r28 : List Cond := [Cond.methodLink RL 84 yX5_want, Cond.instanceMethod yX5_want, Cond.selects RX5 yX5_want yX5_want, Cond.code yX5_want cX5_want 6 (some .int), Cond.fieldLink RX5 215 "CampBook$Badges" "wants" "[I", Cond.methodLink RL 190 yX6_want, Cond.instanceMethod yX6_want, Cond.selects RX6 yX6_want yX6_want, Cond.code yX6_want cX6_want 5 (some .int), Cond.methodLink RX6 165 yX6_isBadge, Cond.instanceMethod yX6_isBadge, Cond.selects RX6 yX6_isBadge yX6_isBadge, Cond.code yX6_isBadge cX6_isBadge 2 (some .boolean), Cond.methodLink RX6 168 yX6_isActivity, Cond.static yX6_isActivity, Cond.code yX6_isActivity cX6_isActivity 1 (some .boolean), Cond.methodLink RL 191 yL_practise, Cond.static yL_practise, Cond.codeWith yL_practise cL_practise 6 (some .int) [(0, 12, 15, 19), (0, 12, 19, 21)], Cond.methodLink RL 87 yX5_practise, Cond.instanceMethod yX5_practise, Cond.selects RX5 yX5_practise yX5_practise, Cond.code yX5_practise cX5_practise 4 (some .int), Cond.methodLink RX5 218 yX3_train]
def wsL_law0_r29 : List Cond := [Cond.instanceMethod yX3_train, Cond.selects RX3 yX3_train yX3_train, Cond.code yX3_train cX3_train 6 (some .int), Cond.methodLink RL 193 yX6_practise, Cond.instanceMethod yX6_practise, Cond.selects RX6 yX6_practise yX6_practise, Cond.code yX6_practise cX6_practise 6 (some .int), Cond.methodLink RL 194 yL_away, Cond.static yL_away, Cond.codeWith yL_away cL_away 5 (some .int) [(0, 10, 13, 19)], Cond.methodLink RL 90 yX5_away, Cond.instanceMethod yX5_away, Cond.selects RX5 yX5_away yX5_away, Cond.code yX5_away cX5_away 3 (some .int), Cond.methodLink RX5 221 yX0_distance, Cond.instanceMethod yX0_distance, Cond.selects RX0 yX0_distance yX0_distance, Cond.code yX0_distance cX0_distance 4 (some .int), Cond.fieldLink RX0 18 "CampBook$People" "age" "[I", Cond.fieldLink RX0 23 "CampBook$People" "badges" "[I", Cond.methodLink RX0 26 yX0_hoursLacking, Cond.instanceMethod yX0_hoursLacking, Cond.selects RX0 yX0_hoursLacking yX0_hoursLacking, Cond.code yX0_hoursLacking cX0_hoursLacking 7 (some .int)]
def wsL_law0_r30 : List Cond := [Cond.methodLink RX0 34 Lib.Math.max.name, Cond.methodLink RX0 30 yX3_hoursIn, Cond.methodLink RL 196 yX6_away, Cond.instanceMethod yX6_away, Cond.selects RX6 yX6_away yX6_away, Cond.code yX6_away cX6_away 3 (some .int), Cond.methodLink RX6 171 yX6_awayFrom, Cond.instanceMethod yX6_awayFrom, Cond.selects RX6 yX6_awayFrom yX6_awayFrom, Cond.code yX6_awayFrom cX6_awayFrom 5 (some .int), Cond.methodLink RL 197 yL_earn, Cond.static yL_earn, Cond.codeWith yL_earn cL_earn 5 (some .int) [(0, 10, 13, 19), (0, 10, 17, 13)], Cond.methodLink RL 93 yX5_earn, Cond.instanceMethod yX5_earn, Cond.selects RX5 yX5_earn yX5_earn, Cond.code yX5_earn cX5_earn 3 (some .int), Cond.methodLink RX5 228 yJ6_bitCount_0f7a4, Cond.static yJ6_bitCount_0f7a4, Cond.initialized RJ6, Cond.code yJ6_bitCount_0f7a4 cJ6_bitCount_0f7a4 1 (some .int), Cond.constant RJ6 265 (1431655765), Cond.constant RJ6 266 (858993459), Cond.constant RJ6 267 (252645135)]
def wsL_law0_r31 : List Cond := [Cond.methodLink RL 199 yX6_earn, Cond.instanceMethod yX6_earn, Cond.selects RX6 yX6_earn yX6_earn, Cond.code yX6_earn cX6_earn 5 (some .int), Cond.methodLink RL 202 yL_hike, Cond.static yL_hike, Cond.codeWith yL_hike cL_hike 7 (some .int) [(0, 13, 16, 21), (0, 13, 20, 13)], Cond.methodLink RL 96 yX5_hike, Cond.instanceMethod yX5_hike, Cond.selects RX5 yX5_hike yX5_hike, Cond.code yX5_hike cX5_hike 6 (some .int), Cond.constantLong RX5 236 (-1), Cond.methodLink RX5 232 yX3_everyone, Cond.instanceMethod yX3_everyone, Cond.selects RX3 yX3_everyone yX3_everyone, Cond.code yX3_everyone cX3_everyone 1 (some .long), Cond.methodLink RX5 243 yX3_agedAtLeast, Cond.methodLink RX5 247 yX3_skilledIn, Cond.instanceMethod yX3_skilledIn, Cond.selects RX3 yX3_skilledIn yX3_skilledIn, Cond.code yX3_skilledIn cX3_skilledIn 5 (some .long), Cond.methodLink RX5 252 yX3_slowestPace, Cond.instanceMethod yX3_slowestPace, Cond.selects RX3 yX3_slowestPace yX3_slowestPace]
def wsL_law0_r32 : List Cond := [Cond.code yX3_slowestPace cX3_slowestPace 5 (some .int), Cond.methodLink RX3 38 Lib.Math.max.name, Cond.methodLink RX3 43 yX3_paceOf, Cond.instanceMethod yX3_paceOf, Cond.selects RX3 yX3_paceOf yX3_paceOf, Cond.code yX3_paceOf cX3_paceOf 3 (some .int), Cond.methodLink RL 205 yX6_hike, Cond.instanceMethod yX6_hike, Cond.selects RX6 yX6_hike yX6_hike, Cond.code yX6_hike cX6_hike 9 (some .int), Cond.methodLink RL 206 yL_end, Cond.static yL_end, Cond.codeWith yL_end cL_end 3 (some .int) [(0, 8, 11, 13)], Cond.methodLink RL 100 yX5_end, Cond.instanceMethod yX5_end, Cond.selects RX5 yX5_end yX5_end, Cond.code yX5_end cX5_end 1 (some .int), Cond.methodLink RX5 257 yX2_clearTable, Cond.instanceMethod yX2_clearTable, Cond.selects RX2 yX2_clearTable yX2_clearTable, Cond.code yX2_clearTable cX2_clearTable 1 none, Cond.methodLink RL 208 yX6_end, Cond.instanceMethod yX6_end, Cond.selects RX6 yX6_end yX6_end]
def wsL_law0_r33 : List Cond := [Cond.code yX6_end cX6_end 2 (some .int), Cond.methodLink RL 209 yX5_day, Cond.instanceMethod yX5_day, Cond.selects RX5 yX5_day yX5_day, Cond.code yX5_day cX5_day 1 (some .int), Cond.methodLink RL 212 yX6_day, Cond.instanceMethod yX6_day, Cond.selects RX6 yX6_day yX6_day, Cond.code yX6_day cX6_day 1 (some .int), Cond.methodLink RL 213 yX5_meanAge, Cond.instanceMethod yX5_meanAge, Cond.selects RX5 yX5_meanAge yX5_meanAge, Cond.code yX5_meanAge cX5_meanAge 3 (some .double), Cond.methodLink RL 217 yX6_meanAge, Cond.instanceMethod yX6_meanAge, Cond.selects RX6 yX6_meanAge yX6_meanAge, Cond.code yX6_meanAge cX6_meanAge 3 (some .double), Cond.methodLink RL 218 yX5_digest, Cond.instanceMethod yX5_digest, Cond.selects RX5 yX5_digest yX5_digest, Cond.code yX5_digest cX5_digest 4 (some .long), Cond.constantLong RX5 260 (353), Cond.methodLink RX5 262 yX5_mixed, Cond.static yX5_mixed]
def wsL_law0_r34 : List Cond := [Cond.code yX5_mixed cX5_mixed 4 (some .long), Cond.constantLong RX5 296 (31), Cond.methodLink RX5 266 yX5_withPeople, Cond.instanceMethod yX5_withPeople, Cond.selects RX5 yX5_withPeople yX5_withPeople, Cond.code yX5_withPeople cX5_withPeople 7 (some .long), Cond.methodLink RX5 270 yX5_withKitchen, Cond.instanceMethod yX5_withKitchen, Cond.selects RX5 yX5_withKitchen yX5_withKitchen, Cond.code yX5_withKitchen cX5_withKitchen 6 (some .long), Cond.methodLink RL 222 yX6_digest, Cond.instanceMethod yX6_digest, Cond.selects RX6 yX6_digest yX6_digest, Cond.code yX6_digest cX6_digest 5 (some .long), Cond.constantLong RX6 174 (10943), Cond.constantLong RX6 176 (31)]
def wsL_law0 : List Cond := (wsL_law0_r1 ++ (wsL_law0_r2 ++ (wsL_law0_r3 ++ (wsL_law0_r4 ++ (wsL_law0_r5 ++ (wsL_law0_r6 ++ (wsL_law0_r7 ++ (wsL_law0_r8 ++ (wsL_law0_r9 ++ (wsL_law0_r10 ++ (wsL_law0_r11 ++ (wsL_law0_r12 ++ (wsL_law0_r13 ++ (wsL_law0_r14 ++ (wsL_law0_r15 ++ (wsL_law0_r16 ++ (wsL_law0_r17 ++ (wsL_law0_r18 ++ (wsL_law0_r19 ++ (wsL_law0_r20 ++ (wsL_law0_r21 ++ (wsL_law0_r22 ++ (wsL_law0_r23 ++ (wsL_law0_r24 ++ (wsL_law0_r25 ++ (wsL_law0_r26 ++ (wsL_law0_r27 ++ (wsL_law0_r28 ++ (wsL_law0_r29 ++ (wsL_law0_r30 ++ (wsL_law0_r31 ++ (wsL_law0_r32 ++ (wsL_law0_r33 ++ wsL_law0_r34))))))))))))))))))))))))))))))))) ++ wsX50 ++ wsX60 ++ wsX30 ++ wsX40 ++ wsX10 ++ wsX20 ++ wsX00 ++ ([] : List Cond)
def wsL_law : List Cond := wsL_law0 ++ (vx_atS RX5 55 "java/lang/IllegalStateException" ["java/lang/RuntimeException", "java/lang/Exception"]).filter goodWord ++ (vx_atS RX5 277 "java/lang/IndexOutOfBoundsException" ["java/lang/RuntimeException", "java/lang/Exception"]).filter goodWord ++ (vx_atS RX5 242 "java/lang/IllegalArgumentException" ["java/lang/RuntimeException", "java/lang/Exception"]).filter goodWord
end
section
theorem cb_in_r {big ws : List Cond} (ps : List Nat) (hp : ws = ps.filterMap (fun i => big[i]?)) : ∀ w ∈ ws, w ∈ big := by
  intro w hw
  rw [hp] at hw
  obtain ⟨i, -, hi⟩ := List.mem_filterMap.mp hw
  exact List.mem_of_getElem? hi
set_option maxRecDepth 20000 in
theorem wsL_law_in0_1 : ∀ w ∈ wsL_law0_r1, w ∈ lw_tbl := cb_in_r [49, 50, 32, 753, 754, 39, 121, 1068, 51, 52, 53, 54, 55, 56, 57, 58, 33, 188, 103, 104, 34, 189, 122, 123] (by decide +kernel)
set_option maxRecDepth 20000 in
theorem wsL_law_in0_2 : ∀ w ∈ wsL_law0_r2, w ∈ lw_tbl := cb_in_r [35, 190, 139, 140, 37, 191, 170, 171, 38, 192, 193, 60, 61, 62, 102, 69, 72, 76, 78, 81, 84, 106, 107, 108] (by decide +kernel)
set_option maxRecDepth 20000 in
theorem wsL_law_in0_3 : ∀ w ∈ wsL_law0_r3, w ∈ lw_tbl := cb_in_r [111, 112, 124, 125, 126, 127, 131, 132, 128, 129, 36, 130, 142, 143, 144, 153, 155, 173, 174, 175, 177, 179, 755, 756] (by decide +kernel)
set_option maxRecDepth 20000 in
theorem wsL_law_in0_4 : ∀ w ∈ wsL_law0_r4, w ∈ lw_tbl := cb_in_r [757, 758, 763, 764, 765, 766, 767, 768, 769, 829, 770, 772, 773, 775, 777, 780, 781, 356, 357, 31, 358, 359, 360, 361] (by decide +kernel)
set_option maxRecDepth 20000 in
theorem wsL_law_in0_5 : ∀ w ∈ wsL_law0_r5, w ∈ lw_tbl := cb_in_r [362, 363, 364, 43, 63, 834, 835, 836, 837, 759, 761, 838, 840, 7, 841, 830, 831, 832, 833, 432, 433, 434, 435, 436] (by decide +kernel)
set_option maxRecDepth 20000 in
theorem wsL_law_in0_6 : ∀ w ∈ wsL_law0_r6, w ∈ lw_tbl := cb_in_r [437, 438, 439, 440, 66, 441, 442, 443, 444, 44, 460, 461, 462, 463, 45, 480, 481, 482, 483, 65, 842, 843, 844, 845] (by decide +kernel)
set_option maxRecDepth 20000 in
theorem wsL_law_in0_7 : ∀ w ∈ wsL_law0_r7, w ∈ lw_tbl := cb_in_r [762, 846, 848, 8, 849, 850, 851, 852, 484, 485, 486, 487, 488, 489, 490, 323, 325, 3, 326, 71, 74, 77, 80, 83] (by decide +kernel)
set_option maxRecDepth 20000 in
theorem wsL_law_in0_8 : ∀ w ∈ wsL_law0_r8, w ∈ lw_tbl := cb_in_r [211, 212, 213, 214, 109, 327, 328, 329, 330, 331, 332, 333, 334, 853, 854, 855, 856, 857, 859, 9, 860, 861, 863, 10] (by decide +kernel)
set_option maxRecDepth 20000 in
theorem wsL_law_in0_9 : ∀ w ∈ wsL_law0_r9, w ∈ lw_tbl := cb_in_r [864, 865, 867, 11, 868, 491, 492, 493, 494, 495, 496, 497, 110, 499, 500, 501, 502, 869, 870, 871, 872, 771, 503, 504] (by decide +kernel)
set_option maxRecDepth 20000 in
theorem wsL_law_in0_10 : ∀ w ∈ wsL_law0_r10, w ∈ lw_tbl := cb_in_r [505, 506, 507, 508, 509, 510, 511, 512, 514, 234, 235, 236, 227, 228, 46, 229, 230, 231, 232, 237, 238, 239, 240, 68] (by decide +kernel)
set_option maxRecDepth 20000 in
theorem wsL_law_in0_11 : ∀ w ∈ wsL_law0_r11, w ∈ lw_tbl := cb_in_r [75, 241, 242, 47, 243, 516, 517, 518, 519, 520, 244, 245, 246, 247, 873, 874, 875, 876, 877, 879, 12, 880, 881, 883] (by decide +kernel)
set_option maxRecDepth 20000 in
theorem wsL_law_in0_12 : ∀ w ∈ wsL_law0_r12, w ∈ lw_tbl := cb_in_r [13, 884, 889, 885, 887, 14, 888, 521, 522, 523, 524, 525, 526, 527, 113, 890, 891, 892, 893, 894, 896, 15, 897, 207] (by decide +kernel)
set_option maxRecDepth 20000 in
theorem wsL_law_in0_13 : ∀ w ∈ wsL_law0_r13, w ∈ lw_tbl := cb_in_r [208, 209, 210, 215, 216, 217, 218, 70, 219, 220, 221, 222, 223, 224, 225, 226, 233, 248, 250, 0, 251, 252, 253, 254] (by decide +kernel)
set_option maxRecDepth 20000 in
theorem wsL_law_in0_14 : ∀ w ∈ wsL_law0_r14, w ∈ lw_tbl := cb_in_r [255, 898, 899, 900, 901, 902, 904, 16, 905, 528, 529, 530, 531, 532, 533, 534, 315, 317, 1, 318, 146, 148, 176, 906] (by decide +kernel)
set_option maxRecDepth 20000 in
theorem wsL_law_in0_15 : ∀ w ∈ wsL_law0_r15, w ∈ lw_tbl := cb_in_r [907, 908, 909, 910, 912, 17, 913, 774, 776, 779, 535, 536, 537, 538, 539, 540, 541, 542, 271, 272, 273, 274, 275, 276] (by decide +kernel)
set_option maxRecDepth 20000 in
theorem wsL_law_in0_16 : ∀ w ∈ wsL_law0_r16, w ∈ lw_tbl := cb_in_r [277, 278, 279, 280, 281, 282, 283, 284, 285, 286, 287, 263, 264, 265, 262, 288, 289, 290, 291, 292, 914, 915, 916, 917] (by decide +kernel)
set_option maxRecDepth 20000 in
theorem wsL_law_in0_17 : ∀ w ∈ wsL_law0_r17, w ∈ lw_tbl := cb_in_r [760, 918, 920, 18, 921, 922, 924, 19, 925, 926, 928, 20, 929, 544, 545, 546, 547, 548, 549, 550, 930, 931, 932, 933] (by decide +kernel)
set_option maxRecDepth 20000 in
theorem wsL_law_in0_18 : ∀ w ∈ wsL_law0_r18, w ∈ lw_tbl := cb_in_r [551, 552, 553, 554, 555, 556, 557, 133, 934, 935, 936, 937, 938, 940, 21, 941, 256, 257, 258, 259, 266, 267, 268, 269] (by decide +kernel)
set_option maxRecDepth 20000 in
theorem wsL_law_in0_19 : ∀ w ∈ wsL_law0_r19, w ∈ lw_tbl := cb_in_r [64, 270, 294, 295, 296, 297, 942, 943, 944, 945, 558, 559, 560, 561, 562, 563, 564, 154, 946, 947, 948, 949, 566, 567] (by decide +kernel)
set_option maxRecDepth 20000 in
theorem wsL_law_in0_20 : ∀ w ∈ wsL_law0_r20, w ∈ lw_tbl := cb_in_r [568, 569, 570, 571, 572, 950, 951, 952, 953, 954, 956, 22, 957, 574, 575, 576, 577, 578, 579, 580, 958, 959, 960, 961] (by decide +kernel)
set_option maxRecDepth 20000 in
theorem wsL_law_in0_21 : ∀ w ∈ wsL_law0_r21, w ∈ lw_tbl := cb_in_r [581, 582, 583, 584, 585, 586, 587, 962, 963, 964, 965, 588, 589, 590, 591, 592, 593, 594, 966, 967, 968, 969, 596, 597] (by decide +kernel)
set_option maxRecDepth 20000 in
theorem wsL_law_in0_22 : ∀ w ∈ wsL_law0_r22, w ∈ lw_tbl := cb_in_r [598, 599, 600, 601, 602, 156, 603, 348, 349, 350, 970, 971, 972, 973, 974, 976, 23, 977, 604, 605, 606, 607, 608, 609] (by decide +kernel)
set_option maxRecDepth 20000 in
theorem wsL_law_in0_23 : ∀ w ∈ wsL_law0_r23, w ∈ lw_tbl := cb_in_r [610, 339, 340, 341, 342, 67, 79, 343, 344, 345, 346, 145, 347, 978, 979, 980, 981, 982, 984, 24, 985, 986, 988, 25] (by decide +kernel)
set_option maxRecDepth 20000 in
theorem wsL_law_in0_24 : ∀ w ∈ wsL_law0_r24, w ∈ lw_tbl := cb_in_r [989, 611, 612, 613, 614, 615, 616, 617, 618, 619, 620, 355, 990, 991, 992, 993, 998, 994, 996, 26, 997, 621, 622, 623] (by decide +kernel)
set_option maxRecDepth 20000 in
theorem wsL_law_in0_25 : ∀ w ∈ wsL_law0_r25, w ∈ lw_tbl := cb_in_r [624, 625, 626, 627, 628, 629, 630, 631, 149, 632, 633, 634, 635, 636, 637, 639, 640, 641, 642, 151, 999, 1000, 1001, 1002] (by decide +kernel)
set_option maxRecDepth 20000 in
theorem wsL_law_in0_26 : ∀ w ∈ wsL_law0_r26, w ∈ lw_tbl := cb_in_r [778, 1003, 1005, 27, 1006, 643, 644, 645, 646, 647, 648, 649, 150, 351, 353, 5, 354, 152, 650, 651, 652, 653, 147, 654] (by decide +kernel)
set_option maxRecDepth 20000 in
theorem wsL_law_in0_27 : ∀ w ∈ wsL_law0_r27, w ∈ lw_tbl := cb_in_r [655, 1007, 1008, 1009, 1010, 1011, 1013, 28, 1014, 656, 657, 658, 659, 660, 661, 662, 178, 1015, 1016, 1017, 1018, 664, 665, 666] (by decide +kernel)
set_option maxRecDepth 20000 in
theorem wsL_law_in0_28 : ∀ w ∈ wsL_law0_r28, w ∈ lw_tbl := cb_in_r [667, 668, 669, 670, 180, 1019, 1020, 1021, 1022, 1023, 1025, 29, 1026, 1027, 1028, 1029, 671, 672, 673, 674, 675, 676, 677, 678] (by decide +kernel)
set_option maxRecDepth 20000 in
theorem wsL_law_in0_29 : ∀ w ∈ wsL_law0_r29, w ∈ lw_tbl := cb_in_r [679, 680, 681, 1030, 1031, 1032, 1033, 682, 683, 684, 685, 686, 687, 688, 689, 690, 691, 692, 73, 82, 693, 694, 695, 696] (by decide +kernel)
set_option maxRecDepth 20000 in
theorem wsL_law_in0_30 : ∀ w ∈ wsL_law0_r30, w ∈ lw_tbl := cb_in_r [698, 697, 1034, 1035, 1036, 1037, 1038, 1040, 30, 1041, 699, 700, 701, 702, 703, 704, 705, 707, 708, 48, 709, 710, 711, 712] (by decide +kernel)
set_option maxRecDepth 20000 in
theorem wsL_law_in0_31 : ∀ w ∈ wsL_law0_r31, w ∈ lw_tbl := cb_in_r [1042, 1043, 1044, 1045, 713, 714, 715, 716, 717, 718, 719, 724, 720, 721, 722, 723, 726, 727, 728, 729, 730, 732, 733, 734] (by decide +kernel)
set_option maxRecDepth 20000 in
theorem wsL_law_in0_32 : ∀ w ∈ wsL_law0_r32, w ∈ lw_tbl := cb_in_r [735, 740, 736, 737, 738, 739, 1046, 1047, 1048, 1049, 741, 742, 743, 744, 745, 746, 747, 749, 750, 751, 752, 1050, 1051, 1052] (by decide +kernel)
set_option maxRecDepth 20000 in
theorem wsL_law_in0_33 : ∀ w ∈ wsL_law0_r33, w ∈ lw_tbl := cb_in_r [1053, 298, 299, 300, 301, 1054, 1055, 1056, 1057, 302, 303, 304, 305, 1058, 1059, 1060, 1061, 306, 307, 308, 309, 310, 311, 312] (by decide +kernel)
set_option maxRecDepth 20000 in
theorem wsL_law_in0_34 : ∀ w ∈ wsL_law0_r34, w ∈ lw_tbl := cb_in_r [313, 314, 319, 321, 2, 322, 335, 337, 4, 338, 1062, 1063, 1064, 1065, 1066, 1067] (by decide +kernel)
set_option maxRecDepth 20000 in
theorem wsL_law_in0_wsX50 : ∀ w ∈ wsX50, w ∈ lw_tbl := by decide +kernel
set_option maxRecDepth 20000 in
theorem wsL_law_in0_wsX60 : ∀ w ∈ wsX60, w ∈ lw_tbl := by decide +kernel
set_option maxRecDepth 20000 in
theorem wsL_law_in0_wsX30 : ∀ w ∈ wsX30, w ∈ lw_tbl := by decide +kernel
set_option maxRecDepth 20000 in
theorem wsL_law_in0_wsX40 : ∀ w ∈ wsX40, w ∈ lw_tbl := by decide +kernel
set_option maxRecDepth 20000 in
theorem wsL_law_in0_wsX10 : ∀ w ∈ wsX10, w ∈ lw_tbl := by decide +kernel
set_option maxRecDepth 20000 in
theorem wsL_law_in0_wsX20 : ∀ w ∈ wsX20, w ∈ lw_tbl := by decide +kernel
set_option maxRecDepth 20000 in
theorem wsL_law_in0_wsX00 : ∀ w ∈ wsX00, w ∈ lw_tbl := by decide +kernel
theorem wsL_law_in0 : ∀ w ∈ wsL_law0, w ∈ lw_tbl := fun w h => (List.mem_append.mp h).elim (fun h => (List.mem_append.mp h).elim (fun h => (List.mem_append.mp h).elim (fun h => (List.mem_append.mp h).elim (fun h => (List.mem_append.mp h).elim (fun h => (List.mem_append.mp h).elim (fun h => (List.mem_append.mp h).elim (fun h => (List.mem_append.mp h).elim (fun h => (List.mem_append.mp h).elim (fun h => wsL_law_in0_1 w h) (fun h => (List.mem_append.mp h).elim (fun h => wsL_law_in0_2 w h) (fun h => (List.mem_append.mp h).elim (fun h => wsL_law_in0_3 w h) (fun h => (List.mem_append.mp h).elim (fun h => wsL_law_in0_4 w h) (fun h => (List.mem_append.mp h).elim (fun h => wsL_law_in0_5 w h) (fun h => (List.mem_append.mp h).elim (fun h => wsL_law_in0_6 w h) (fun h => (List.mem_append.mp h).elim (fun h => wsL_law_in0_7 w h) (fun h => (List.mem_append.mp h).elim (fun h => wsL_law_in0_8 w h) (fun h => (List.mem_append.mp h).elim (fun h => wsL_law_in0_9 w h) (fun h => (List.mem_append.mp h).elim (fun h => wsL_law_in0_10 w h) (fun h => (List.mem_append.mp h).elim (fun h => wsL_law_in0_11 w h) (fun h => (List.mem_append.mp h).elim (fun h => wsL_law_in0_12 w h) (fun h => (List.mem_append.mp h).elim (fun h => wsL_law_in0_13 w h) (fun h => (List.mem_append.mp h).elim (fun h => wsL_law_in0_14 w h) (fun h => (List.mem_append.mp h).elim (fun h => wsL_law_in0_15 w h) (fun h => (List.mem_append.mp h).elim (fun h => wsL_law_in0_16 w h) (fun h => (List.mem_append.mp h).elim (fun h => wsL_law_in0_17 w h) (fun h => (List.mem_append.mp h).elim (fun h => wsL_law_in0_18 w h) (fun h => (List.mem_append.mp h).elim (fun h => wsL_law_in0_19 w h) (fun h => (List.mem_append.mp h).elim (fun h => wsL_law_in0_20 w h) (fun h => (List.mem_append.mp h).elim (fun h => wsL_law_in0_21 w h) (fun h => (List.mem_append.mp h).elim (fun h => wsL_law_in0_22 w h) (fun h => (List.mem_append.mp h).elim (fun h => wsL_law_in0_23 w h) (fun h => (List.mem_append.mp h).elim (fun h => wsL_law_in0_24 w h) (fun h => (List.mem_append.mp h).elim (fun h => wsL_law_in0_25 w h) (fun h => (List.mem_append.mp h).elim (fun h => wsL_law_in0_26 w h) (fun h => (List.mem_append.mp h).elim (fun h => wsL_law_in0_27 w h) (fun h => (List.mem_append.mp h).elim (fun h => wsL_law_in0_28 w h) (fun h => (List.mem_append.mp h).elim (fun h => wsL_law_in0_29 w h) (fun h => (List.mem_append.mp h).elim (fun h => wsL_law_in0_30 w h) (fun h => (List.mem_append.mp h).elim (fun h => wsL_law_in0_31 w h) (fun h => (List.mem_append.mp h).elim (fun h => wsL_law_in0_32 w h) (fun h => (List.mem_append.mp h).elim (fun h => wsL_law_in0_33 w h) (fun h => wsL_law_in0_34 w h)))))))))))))))))))))))))))))))))) (fun h => wsL_law_in0_wsX50 w h)) (fun h => wsL_law_in0_wsX60 w h)) (fun h => wsL_law_in0_wsX30 w h)) (fun h => wsL_law_in0_wsX40 w h)) (fun h => wsL_law_in0_wsX10 w h)) (fun h => wsL_law_in0_wsX20 w h)) (fun h => wsL_law_in0_wsX00 w h)) (fun h => absurd h List.not_mem_nil)
end
section
theorem wsL_law_x0 : ∀ w ∈ (vx_atS RX5 55 "java/lang/IllegalStateException" ["java/lang/RuntimeException", "java/lang/Exception"]).filter goodWord, w ∈ lw_tbl := by decide +kernel
theorem wsL_law_x1 : ∀ w ∈ (vx_atS RX5 277 "java/lang/IndexOutOfBoundsException" ["java/lang/RuntimeException", "java/lang/Exception"]).filter goodWord, w ∈ lw_tbl := by decide +kernel
theorem wsL_law_x2 : ∀ w ∈ (vx_atS RX5 242 "java/lang/IllegalArgumentException" ["java/lang/RuntimeException", "java/lang/Exception"]).filter goodWord, w ∈ lw_tbl := by decide +kernel
theorem wsL_law_in : ∀ w ∈ wsL_law, w ∈ lw_tbl := fun w h => (List.mem_append.mp h).elim (fun h => (List.mem_append.mp h).elim (fun h => (List.mem_append.mp h).elim (fun h => wsL_law_in0 w h) (fun h => wsL_law_x0 w h)) (fun h => wsL_law_x1 w h)) (fun h => wsL_law_x2 w h)
theorem inlX0 : ∀ w ∈ wsX00, w ∈ wsL_law := fun _ h => List.mem_append_left _ (List.mem_append_left _ (List.mem_append_left _ (List.mem_append_left _ (List.mem_append_right _ h))))
theorem inX0 : ∀ w ∈ wsX00, w ∈ lw_tbl := fun w h => wsL_law_in w (inlX0 w h)
theorem inlX1 : ∀ w ∈ wsX10, w ∈ wsL_law := fun _ h => List.mem_append_left _ (List.mem_append_left _ (List.mem_append_left _ (List.mem_append_left _ (List.mem_append_left _ (List.mem_append_left _ (List.mem_append_right _ h))))))
theorem inX1 : ∀ w ∈ wsX10, w ∈ lw_tbl := fun w h => wsL_law_in w (inlX1 w h)
theorem inlX2 : ∀ w ∈ wsX20, w ∈ wsL_law := fun _ h => List.mem_append_left _ (List.mem_append_left _ (List.mem_append_left _ (List.mem_append_left _ (List.mem_append_left _ (List.mem_append_right _ h)))))
theorem inX2 : ∀ w ∈ wsX20, w ∈ lw_tbl := fun w h => wsL_law_in w (inlX2 w h)
theorem inlX3 : ∀ w ∈ wsX30, w ∈ wsL_law := fun _ h => List.mem_append_left _ (List.mem_append_left _ (List.mem_append_left _ (List.mem_append_left _ (List.mem_append_left _ (List.mem_append_left _ (List.mem_append_left _ (List.mem_append_left _ (List.mem_append_right _ h))))))))
theorem inX3 : ∀ w ∈ wsX30, w ∈ lw_tbl := fun w h => wsL_law_in w (inlX3 w h)
theorem inlX4 : ∀ w ∈ wsX40, w ∈ wsL_law := fun _ h => List.mem_append_left _ (List.mem_append_left _ (List.mem_append_left _ (List.mem_append_left _ (List.mem_append_left _ (List.mem_append_left _ (List.mem_append_left _ (List.mem_append_right _ h)))))))
theorem inX4 : ∀ w ∈ wsX40, w ∈ lw_tbl := fun w h => wsL_law_in w (inlX4 w h)
theorem inlX5 : ∀ w ∈ wsX50, w ∈ wsL_law := fun _ h => List.mem_append_left _ (List.mem_append_left _ (List.mem_append_left _ (List.mem_append_left _ (List.mem_append_left _ (List.mem_append_left _ (List.mem_append_left _ (List.mem_append_left _ (List.mem_append_left _ (List.mem_append_left _ (List.mem_append_right _ h))))))))))
theorem inX5 : ∀ w ∈ wsX50, w ∈ lw_tbl := fun w h => wsL_law_in w (inlX5 w h)
theorem inlX6 : ∀ w ∈ wsX60, w ∈ wsL_law := fun _ h => List.mem_append_left _ (List.mem_append_left _ (List.mem_append_left _ (List.mem_append_left _ (List.mem_append_left _ (List.mem_append_left _ (List.mem_append_left _ (List.mem_append_left _ (List.mem_append_left _ (List.mem_append_right _ h)))))))))
theorem inX6 : ∀ w ∈ wsX60, w ∈ lw_tbl := fun w h => wsL_law_in w (inlX6 w h)
theorem inJx145de : ∀ w ∈ wsJx145de0, w ∈ lw_tbl := by decide +kernel
theorem inJ6 : ∀ w ∈ wsJ60, w ∈ lw_tbl := by decide +kernel
theorem inJ13 : ∀ w ∈ wsJ130, w ∈ lw_tbl := by decide +kernel
theorem inJ9 : ∀ w ∈ wsJ90, w ∈ lw_tbl := by decide +kernel
theorem inJ0 : ∀ w ∈ wsJ00, w ∈ lw_tbl := by decide +kernel
theorem inJ7 : ∀ w ∈ wsJ70, w ∈ lw_tbl := by decide +kernel
theorem dX0_init_0 : decode cX0_init 0 = .ok (.aload_n 0, 1) := by decide +kernel
theorem dX0_init_1 : decode cX0_init 1 = .ok (.invokespecial 3, 3) := by decide +kernel
theorem dX0_init_4 : decode cX0_init 4 = .ok (.aload_n 0, 1) := by decide +kernel
theorem dX0_init_5 : decode cX0_init 5 = .ok (.bipush 8, 2) := by decide +kernel
theorem dX0_init_7 : decode cX0_init 7 = .ok (.newarray .int, 2) := by decide +kernel
theorem dX0_init_9 : decode cX0_init 9 = .ok (.putfield 9, 3) := by decide +kernel
theorem dX0_init_12 : decode cX0_init 12 = .ok (.aload_n 0, 1) := by decide +kernel
theorem dX0_init_13 : decode cX0_init 13 = .ok (.bipush 80, 2) := by decide +kernel
theorem dX0_init_15 : decode cX0_init 15 = .ok (.newarray .int, 2) := by decide +kernel
theorem dX0_init_17 : decode cX0_init 17 = .ok (.putfield 15, 3) := by decide +kernel
theorem dX0_init_20 : decode cX0_init 20 = .ok (.return_, 1) := by decide +kernel
set_option maxRecDepth 20000 in
theorem ggX0_distance_X0_hoursLacking : GoodIn wsX0_distance wsX0_hoursLacking := goodIn_r _ [8, 9, 10, 11, 12, 13, 14, 15, 16, 17, 18, 19, 28, 29, 30, 20, 21, 22, 23, 24, 25, 26, 27] (by decide +kernel) (by decide +kernel)
set_option maxRecDepth 20000 in
theorem gX0_distance_X0_hoursLacking : GoodIn wsX0_distance (wsV RX0 26 RX0 yX0_hoursLacking wsX0_hoursLacking) := goodIn_app (goodIn_of _ (by decide +kernel)) ggX0_distance_X0_hoursLacking
theorem dX0_distance_0 : decode cX0_distance 0 = .ok (.aload_n 3, 1) := by decide +kernel
theorem dX0_distance_1 : decode cX0_distance 1 = .ok (.getfield 18, 3) := by decide +kernel
theorem dX0_distance_4 : decode cX0_distance 4 = .ok (.iload_n 1, 1) := by decide +kernel
theorem dX0_distance_5 : decode cX0_distance 5 = .ok (.iaload, 1) := by decide +kernel
theorem dX0_distance_6 : decode cX0_distance 6 = .ok (.aload_n 0, 1) := by decide +kernel
theorem dX0_distance_7 : decode cX0_distance 7 = .ok (.getfield 9, 3) := by decide +kernel
theorem dX0_distance_10 : decode cX0_distance 10 = .ok (.iload_n 2, 1) := by decide +kernel
theorem dX0_distance_11 : decode cX0_distance 11 = .ok (.iaload, 1) := by decide +kernel
theorem dX0_distance_12 : decode cX0_distance 12 = .ok (.if_icmp .ge 5, 3) := by decide +kernel
theorem dX0_distance_15 : decode cX0_distance 15 = .ok (.iconst (-1), 1) := by decide +kernel
theorem dX0_distance_16 : decode cX0_distance 16 = .ok (.ireturn, 1) := by decide +kernel
theorem dX0_distance_17 : decode cX0_distance 17 = .ok (.aload_n 3, 1) := by decide +kernel
theorem dX0_distance_18 : decode cX0_distance 18 = .ok (.getfield 23, 3) := by decide +kernel
theorem dX0_distance_21 : decode cX0_distance 21 = .ok (.iload_n 1, 1) := by decide +kernel
theorem dX0_distance_22 : decode cX0_distance 22 = .ok (.iaload, 1) := by decide +kernel
theorem dX0_distance_23 : decode cX0_distance 23 = .ok (.iconst 1, 1) := by decide +kernel
theorem dX0_distance_24 : decode cX0_distance 24 = .ok (.iload_n 2, 1) := by decide +kernel
theorem dX0_distance_25 : decode cX0_distance 25 = .ok (.ishl, 1) := by decide +kernel
theorem dX0_distance_26 : decode cX0_distance 26 = .ok (.iand, 1) := by decide +kernel
theorem dX0_distance_27 : decode cX0_distance 27 = .ok (.ifCond .eq 6, 3) := by decide +kernel
theorem dX0_distance_30 : decode cX0_distance 30 = .ok (.bipush (-2), 2) := by decide +kernel
theorem dX0_distance_32 : decode cX0_distance 32 = .ok (.ireturn, 1) := by decide +kernel
theorem dX0_distance_33 : decode cX0_distance 33 = .ok (.aload_n 0, 1) := by decide +kernel
theorem dX0_distance_34 : decode cX0_distance 34 = .ok (.iload_n 1, 1) := by decide +kernel
theorem dX0_distance_35 : decode cX0_distance 35 = .ok (.iload_n 2, 1) := by decide +kernel
theorem dX0_distance_36 : decode cX0_distance 36 = .ok (.aload_n 3, 1) := by decide +kernel
theorem dX0_distance_37 : decode cX0_distance 37 = .ok (.invokevirtual 26, 3) := by decide +kernel
theorem dX0_distance_40 : decode cX0_distance 40 = .ok (.ireturn, 1) := by decide +kernel
set_option maxRecDepth 20000 in
theorem ggX0_hoursLacking_X3_hoursIn : GoodIn wsX0_hoursLacking wsX3_hoursIn := goodIn_r _ [10, 11, 15, 16, 17, 18, 19, 20, 21, 22] (by decide +kernel) (by decide +kernel)
set_option maxRecDepth 20000 in
theorem gX0_hoursLacking_X3_hoursIn : GoodIn wsX0_hoursLacking (wsV RX0 30 RX3 yX3_hoursIn wsX3_hoursIn) := goodIn_app (goodIn_of _ (by decide +kernel)) ggX0_hoursLacking_X3_hoursIn
theorem dX0_hoursLacking_0 : decode cX0_hoursLacking 0 = .ok (.iconst 0, 1) := by decide +kernel
theorem dX0_hoursLacking_1 : decode cX0_hoursLacking 1 = .ok (.istore 4, 2) := by decide +kernel
theorem dX0_hoursLacking_3 : decode cX0_hoursLacking 3 = .ok (.iconst 0, 1) := by decide +kernel
theorem dX0_hoursLacking_4 : decode cX0_hoursLacking 4 = .ok (.istore 5, 2) := by decide +kernel
theorem dX0_hoursLacking_6 : decode cX0_hoursLacking 6 = .ok (.iload 5, 2) := by decide +kernel
theorem dX0_hoursLacking_8 : decode cX0_hoursLacking 8 = .ok (.bipush 10, 2) := by decide +kernel
theorem dX0_hoursLacking_10 : decode cX0_hoursLacking 10 = .ok (.if_icmp .ge 42, 3) := by decide +kernel
theorem dX0_hoursLacking_13 : decode cX0_hoursLacking 13 = .ok (.aload_n 0, 1) := by decide +kernel
theorem dX0_hoursLacking_14 : decode cX0_hoursLacking 14 = .ok (.getfield 15, 3) := by decide +kernel
theorem dX0_hoursLacking_17 : decode cX0_hoursLacking 17 = .ok (.iload_n 2, 1) := by decide +kernel
theorem dX0_hoursLacking_18 : decode cX0_hoursLacking 18 = .ok (.bipush 10, 2) := by decide +kernel
theorem dX0_hoursLacking_20 : decode cX0_hoursLacking 20 = .ok (.imul, 1) := by decide +kernel
theorem dX0_hoursLacking_21 : decode cX0_hoursLacking 21 = .ok (.iload 5, 2) := by decide +kernel
theorem dX0_hoursLacking_23 : decode cX0_hoursLacking 23 = .ok (.iadd, 1) := by decide +kernel
theorem dX0_hoursLacking_24 : decode cX0_hoursLacking 24 = .ok (.iaload, 1) := by decide +kernel
theorem dX0_hoursLacking_25 : decode cX0_hoursLacking 25 = .ok (.istore 6, 2) := by decide +kernel
theorem dX0_hoursLacking_27 : decode cX0_hoursLacking 27 = .ok (.iload 4, 2) := by decide +kernel
theorem dX0_hoursLacking_29 : decode cX0_hoursLacking 29 = .ok (.iconst 0, 1) := by decide +kernel
theorem dX0_hoursLacking_30 : decode cX0_hoursLacking 30 = .ok (.iload 6, 2) := by decide +kernel
theorem dX0_hoursLacking_32 : decode cX0_hoursLacking 32 = .ok (.aload_n 3, 1) := by decide +kernel
theorem dX0_hoursLacking_33 : decode cX0_hoursLacking 33 = .ok (.iload_n 1, 1) := by decide +kernel
theorem dX0_hoursLacking_34 : decode cX0_hoursLacking 34 = .ok (.iload 5, 2) := by decide +kernel
theorem dX0_hoursLacking_36 : decode cX0_hoursLacking 36 = .ok (.invokevirtual 30, 3) := by decide +kernel
theorem dX0_hoursLacking_39 : decode cX0_hoursLacking 39 = .ok (.isub, 1) := by decide +kernel
theorem dX0_hoursLacking_40 : decode cX0_hoursLacking 40 = .ok (.invokestatic 34, 3) := by decide +kernel
theorem dX0_hoursLacking_43 : decode cX0_hoursLacking 43 = .ok (.iadd, 1) := by decide +kernel
theorem dX0_hoursLacking_44 : decode cX0_hoursLacking 44 = .ok (.istore 4, 2) := by decide +kernel
theorem dX0_hoursLacking_46 : decode cX0_hoursLacking 46 = .ok (.iinc 5 1, 3) := by decide +kernel
theorem dX0_hoursLacking_49 : decode cX0_hoursLacking 49 = .ok (.goto (-43), 3) := by decide +kernel
theorem dX0_hoursLacking_52 : decode cX0_hoursLacking 52 = .ok (.iload 4, 2) := by decide +kernel
theorem dX0_hoursLacking_54 : decode cX0_hoursLacking 54 = .ok (.ireturn, 1) := by decide +kernel
set_option maxRecDepth 20000 in
theorem ggX1_init_J7_fill_53178 : GoodIn wsX1_init wsJ7_fill_53178 := goodIn_r _ [10] (by decide +kernel) (by decide +kernel)
set_option maxRecDepth 20000 in
theorem gX1_init_J7_fill_53178 : GoodIn wsX1_init (va_wsS RX1 18 yJ7_fill_53178 wsJ7_fill_53178) := goodIn_app (goodIn_of _ (by decide +kernel)) ggX1_init_J7_fill_53178
theorem dX1_init_0 : decode cX1_init 0 = .ok (.aload_n 0, 1) := by decide +kernel
theorem dX1_init_1 : decode cX1_init 1 = .ok (.invokespecial 3, 3) := by decide +kernel
theorem dX1_init_4 : decode cX1_init 4 = .ok (.aload_n 0, 1) := by decide +kernel
theorem dX1_init_5 : decode cX1_init 5 = .ok (.sipush 305, 3) := by decide +kernel
theorem dX1_init_8 : decode cX1_init 8 = .ok (.newarray .int, 2) := by decide +kernel
theorem dX1_init_10 : decode cX1_init 10 = .ok (.putfield 11, 3) := by decide +kernel
theorem dX1_init_13 : decode cX1_init 13 = .ok (.aload_n 0, 1) := by decide +kernel
theorem dX1_init_14 : decode cX1_init 14 = .ok (.bipush 6, 2) := by decide +kernel
theorem dX1_init_16 : decode cX1_init 16 = .ok (.newarray .int, 2) := by decide +kernel
theorem dX1_init_18 : decode cX1_init 18 = .ok (.putfield 15, 3) := by decide +kernel
theorem dX1_init_21 : decode cX1_init 21 = .ok (.aload_n 0, 1) := by decide +kernel
theorem dX1_init_22 : decode cX1_init 22 = .ok (.getfield 11, 3) := by decide +kernel
theorem dX1_init_25 : decode cX1_init 25 = .ok (.iconst (-1), 1) := by decide +kernel
theorem dX1_init_26 : decode cX1_init 26 = .ok (.invokestatic 18, 3) := by decide +kernel
theorem dX1_init_29 : decode cX1_init 29 = .ok (.return_, 1) := by decide +kernel
theorem dX1_holderOn_0 : decode cX1_holderOn 0 = .ok (.iload_n 1, 1) := by decide +kernel
theorem dX1_holderOn_1 : decode cX1_holderOn 1 = .ok (.ifCond .lt 22, 3) := by decide +kernel
theorem dX1_holderOn_4 : decode cX1_holderOn 4 = .ok (.iload_n 1, 1) := by decide +kernel
theorem dX1_holderOn_5 : decode cX1_holderOn 5 = .ok (.bipush 60, 2) := by decide +kernel
theorem dX1_holderOn_7 : decode cX1_holderOn 7 = .ok (.if_icmp .gt 16, 3) := by decide +kernel
theorem dX1_holderOn_10 : decode cX1_holderOn 10 = .ok (.aload_n 0, 1) := by decide +kernel
theorem dX1_holderOn_11 : decode cX1_holderOn 11 = .ok (.getfield 11, 3) := by decide +kernel
theorem dX1_holderOn_14 : decode cX1_holderOn 14 = .ok (.iload_n 1, 1) := by decide +kernel
theorem dX1_holderOn_15 : decode cX1_holderOn 15 = .ok (.iconst 5, 1) := by decide +kernel
theorem dX1_holderOn_16 : decode cX1_holderOn 16 = .ok (.imul, 1) := by decide +kernel
theorem dX1_holderOn_17 : decode cX1_holderOn 17 = .ok (.iload_n 2, 1) := by decide +kernel
theorem dX1_holderOn_18 : decode cX1_holderOn 18 = .ok (.iadd, 1) := by decide +kernel
theorem dX1_holderOn_19 : decode cX1_holderOn 19 = .ok (.iaload, 1) := by decide +kernel
theorem dX1_holderOn_20 : decode cX1_holderOn 20 = .ok (.goto 4, 3) := by decide +kernel
theorem dX1_holderOn_23 : decode cX1_holderOn 23 = .ok (.iconst (-1), 1) := by decide +kernel
theorem dX1_holderOn_24 : decode cX1_holderOn 24 = .ok (.ireturn, 1) := by decide +kernel
set_option maxRecDepth 20000 in
theorem ggX1_canBeGiven_X1_hasFitScout : GoodIn wsX1_canBeGiven wsX1_hasFitScout := goodIn_r _ [5, 6, 7, 8, 9, 10, 11, 12, 13, 14, 15, 16, 17, 27, 28, 29, 30, 31, 32, 33, 34] (by decide +kernel) (by decide +kernel)
set_option maxRecDepth 20000 in
theorem gX1_canBeGiven_X1_hasFitScout : GoodIn wsX1_canBeGiven (wsV RX1 24 RX1 yX1_hasFitScout wsX1_hasFitScout) := goodIn_app (goodIn_of _ (by decide +kernel)) ggX1_canBeGiven_X1_hasFitScout
set_option maxRecDepth 20000 in
theorem ggX1_canBeGiven_X1_doesOther : GoodIn wsX1_canBeGiven wsX1_doesOther := goodIn_r _ [21, 22, 23, 24, 4, 25, 26, 35, 36] (by decide +kernel) (by decide +kernel)
set_option maxRecDepth 20000 in
theorem gX1_canBeGiven_X1_doesOther : GoodIn wsX1_canBeGiven (wsV RX1 28 RX1 yX1_doesOther wsX1_doesOther) := goodIn_app (goodIn_of _ (by decide +kernel)) ggX1_canBeGiven_X1_doesOther
set_option maxRecDepth 20000 in
theorem ggX1_canBeGiven_X1_holderOn : GoodIn wsX1_canBeGiven wsX1_holderOn := goodIn_r _ [25, 26, 35, 36] (by decide +kernel) (by decide +kernel)
set_option maxRecDepth 20000 in
theorem gX1_canBeGiven_X1_holderOn : GoodIn wsX1_canBeGiven (wsV RX1 32 RX1 yX1_holderOn wsX1_holderOn) := goodIn_app (goodIn_of _ (by decide +kernel)) ggX1_canBeGiven_X1_holderOn
theorem dX1_canBeGiven_0 : decode cX1_canBeGiven 0 = .ok (.aload_n 0, 1) := by decide +kernel
theorem dX1_canBeGiven_1 : decode cX1_canBeGiven 1 = .ok (.iload_n 2, 1) := by decide +kernel
theorem dX1_canBeGiven_2 : decode cX1_canBeGiven 2 = .ok (.iload_n 3, 1) := by decide +kernel
theorem dX1_canBeGiven_3 : decode cX1_canBeGiven 3 = .ok (.aload 4, 2) := by decide +kernel
theorem dX1_canBeGiven_5 : decode cX1_canBeGiven 5 = .ok (.invokevirtual 24, 3) := by decide +kernel
theorem dX1_canBeGiven_8 : decode cX1_canBeGiven 8 = .ok (.ifCond .eq 41, 3) := by decide +kernel
theorem dX1_canBeGiven_11 : decode cX1_canBeGiven 11 = .ok (.aload_n 0, 1) := by decide +kernel
theorem dX1_canBeGiven_12 : decode cX1_canBeGiven 12 = .ok (.iload_n 1, 1) := by decide +kernel
theorem dX1_canBeGiven_13 : decode cX1_canBeGiven 13 = .ok (.iload_n 2, 1) := by decide +kernel
theorem dX1_canBeGiven_14 : decode cX1_canBeGiven 14 = .ok (.iload_n 3, 1) := by decide +kernel
theorem dX1_canBeGiven_15 : decode cX1_canBeGiven 15 = .ok (.invokevirtual 28, 3) := by decide +kernel
theorem dX1_canBeGiven_18 : decode cX1_canBeGiven 18 = .ok (.ifCond .ne 31, 3) := by decide +kernel
theorem dX1_canBeGiven_21 : decode cX1_canBeGiven 21 = .ok (.aload_n 0, 1) := by decide +kernel
theorem dX1_canBeGiven_22 : decode cX1_canBeGiven 22 = .ok (.iload_n 1, 1) := by decide +kernel
theorem dX1_canBeGiven_23 : decode cX1_canBeGiven 23 = .ok (.iconst 1, 1) := by decide +kernel
theorem dX1_canBeGiven_24 : decode cX1_canBeGiven 24 = .ok (.isub, 1) := by decide +kernel
theorem dX1_canBeGiven_25 : decode cX1_canBeGiven 25 = .ok (.iload_n 2, 1) := by decide +kernel
theorem dX1_canBeGiven_26 : decode cX1_canBeGiven 26 = .ok (.invokevirtual 32, 3) := by decide +kernel
theorem dX1_canBeGiven_29 : decode cX1_canBeGiven 29 = .ok (.iload_n 3, 1) := by decide +kernel
theorem dX1_canBeGiven_30 : decode cX1_canBeGiven 30 = .ok (.if_icmp .eq 19, 3) := by decide +kernel
theorem dX1_canBeGiven_33 : decode cX1_canBeGiven 33 = .ok (.aload_n 0, 1) := by decide +kernel
theorem dX1_canBeGiven_34 : decode cX1_canBeGiven 34 = .ok (.iload_n 1, 1) := by decide +kernel
theorem dX1_canBeGiven_35 : decode cX1_canBeGiven 35 = .ok (.iconst 1, 1) := by decide +kernel
theorem dX1_canBeGiven_36 : decode cX1_canBeGiven 36 = .ok (.iadd, 1) := by decide +kernel
theorem dX1_canBeGiven_37 : decode cX1_canBeGiven 37 = .ok (.iload_n 2, 1) := by decide +kernel
theorem dX1_canBeGiven_38 : decode cX1_canBeGiven 38 = .ok (.invokevirtual 32, 3) := by decide +kernel
theorem dX1_canBeGiven_41 : decode cX1_canBeGiven 41 = .ok (.iload_n 3, 1) := by decide +kernel
theorem dX1_canBeGiven_42 : decode cX1_canBeGiven 42 = .ok (.if_icmp .eq 7, 3) := by decide +kernel
theorem dX1_canBeGiven_45 : decode cX1_canBeGiven 45 = .ok (.iconst 1, 1) := by decide +kernel
theorem dX1_canBeGiven_46 : decode cX1_canBeGiven 46 = .ok (.goto 4, 3) := by decide +kernel
theorem dX1_canBeGiven_49 : decode cX1_canBeGiven 49 = .ok (.iconst 0, 1) := by decide +kernel
theorem dX1_canBeGiven_50 : decode cX1_canBeGiven 50 = .ok (.ireturn, 1) := by decide +kernel
set_option maxRecDepth 20000 in
theorem ggX1_hasFitScout_X3_membersOf : GoodIn wsX1_hasFitScout wsX3_membersOf := goodIn_r _ [5, 6, 7, 13, 14, 15, 16, 17, 18, 19, 20] (by decide +kernel) (by decide +kernel)
set_option maxRecDepth 20000 in
theorem gX1_hasFitScout_X3_membersOf : GoodIn wsX1_hasFitScout (wsV RX1 36 RX3 yX3_membersOf wsX3_membersOf) := goodIn_app (goodIn_of _ (by decide +kernel)) ggX1_hasFitScout_X3_membersOf
set_option maxRecDepth 20000 in
theorem ggX1_hasFitScout_X3_agedAtLeast : GoodIn wsX1_hasFitScout wsX3_agedAtLeast := goodIn_r _ [11, 6, 12, 13, 14, 15, 16, 17, 18, 19, 20] (by decide +kernel) (by decide +kernel)
set_option maxRecDepth 20000 in
theorem gX1_hasFitScout_X3_agedAtLeast : GoodIn wsX1_hasFitScout (wsV RX1 42 RX3 yX3_agedAtLeast wsX3_agedAtLeast) := goodIn_app (goodIn_of _ (by decide +kernel)) ggX1_hasFitScout_X3_agedAtLeast
theorem dX1_hasFitScout_0 : decode cX1_hasFitScout 0 = .ok (.iload_n 1, 1) := by decide +kernel
theorem dX1_hasFitScout_1 : decode cX1_hasFitScout 1 = .ok (.iconst 4, 1) := by decide +kernel
theorem dX1_hasFitScout_2 : decode cX1_hasFitScout 2 = .ok (.if_icmp .ne 8, 3) := by decide +kernel
theorem dX1_hasFitScout_5 : decode cX1_hasFitScout 5 = .ok (.bipush 12, 2) := by decide +kernel
theorem dX1_hasFitScout_7 : decode cX1_hasFitScout 7 = .ok (.goto 5, 3) := by decide +kernel
theorem dX1_hasFitScout_10 : decode cX1_hasFitScout 10 = .ok (.bipush 6, 2) := by decide +kernel
theorem dX1_hasFitScout_12 : decode cX1_hasFitScout 12 = .ok (.istore 4, 2) := by decide +kernel
theorem dX1_hasFitScout_14 : decode cX1_hasFitScout 14 = .ok (.aload_n 3, 1) := by decide +kernel
theorem dX1_hasFitScout_15 : decode cX1_hasFitScout 15 = .ok (.iload_n 2, 1) := by decide +kernel
theorem dX1_hasFitScout_16 : decode cX1_hasFitScout 16 = .ok (.invokevirtual 36, 3) := by decide +kernel
theorem dX1_hasFitScout_19 : decode cX1_hasFitScout 19 = .ok (.aload_n 3, 1) := by decide +kernel
theorem dX1_hasFitScout_20 : decode cX1_hasFitScout 20 = .ok (.iload 4, 2) := by decide +kernel
theorem dX1_hasFitScout_22 : decode cX1_hasFitScout 22 = .ok (.invokevirtual 42, 3) := by decide +kernel
theorem dX1_hasFitScout_25 : decode cX1_hasFitScout 25 = .ok (.land, 1) := by decide +kernel
theorem dX1_hasFitScout_26 : decode cX1_hasFitScout 26 = .ok (.lconst 0, 1) := by decide +kernel
theorem dX1_hasFitScout_27 : decode cX1_hasFitScout 27 = .ok (.lcmp, 1) := by decide +kernel
theorem dX1_hasFitScout_28 : decode cX1_hasFitScout 28 = .ok (.ifCond .eq 7, 3) := by decide +kernel
theorem dX1_hasFitScout_31 : decode cX1_hasFitScout 31 = .ok (.iconst 1, 1) := by decide +kernel
theorem dX1_hasFitScout_32 : decode cX1_hasFitScout 32 = .ok (.goto 4, 3) := by decide +kernel
theorem dX1_hasFitScout_35 : decode cX1_hasFitScout 35 = .ok (.iconst 0, 1) := by decide +kernel
theorem dX1_hasFitScout_36 : decode cX1_hasFitScout 36 = .ok (.ireturn, 1) := by decide +kernel
set_option maxRecDepth 20000 in
theorem ggX1_doesOther_X1_holderOn : GoodIn wsX1_doesOther wsX1_holderOn := goodIn_r _ [5, 6, 7, 8] (by decide +kernel) (by decide +kernel)
set_option maxRecDepth 20000 in
theorem gX1_doesOther_X1_holderOn : GoodIn wsX1_doesOther (wsV RX1 32 RX1 yX1_holderOn wsX1_holderOn) := goodIn_app (goodIn_of _ (by decide +kernel)) ggX1_doesOther_X1_holderOn
theorem dX1_doesOther_0 : decode cX1_doesOther 0 = .ok (.iconst 0, 1) := by decide +kernel
theorem dX1_doesOther_1 : decode cX1_doesOther 1 = .ok (.istore 4, 2) := by decide +kernel
theorem dX1_doesOther_3 : decode cX1_doesOther 3 = .ok (.iload 4, 2) := by decide +kernel
theorem dX1_doesOther_5 : decode cX1_doesOther 5 = .ok (.iconst 5, 1) := by decide +kernel
theorem dX1_doesOther_6 : decode cX1_doesOther 6 = .ok (.if_icmp .ge 28, 3) := by decide +kernel
theorem dX1_doesOther_9 : decode cX1_doesOther 9 = .ok (.iload 4, 2) := by decide +kernel
theorem dX1_doesOther_11 : decode cX1_doesOther 11 = .ok (.iload_n 2, 1) := by decide +kernel
theorem dX1_doesOther_12 : decode cX1_doesOther 12 = .ok (.if_icmp .eq 16, 3) := by decide +kernel
theorem dX1_doesOther_15 : decode cX1_doesOther 15 = .ok (.aload_n 0, 1) := by decide +kernel
theorem dX1_doesOther_16 : decode cX1_doesOther 16 = .ok (.iload_n 1, 1) := by decide +kernel
theorem dX1_doesOther_17 : decode cX1_doesOther 17 = .ok (.iload 4, 2) := by decide +kernel
theorem dX1_doesOther_19 : decode cX1_doesOther 19 = .ok (.invokevirtual 32, 3) := by decide +kernel
theorem dX1_doesOther_22 : decode cX1_doesOther 22 = .ok (.iload_n 3, 1) := by decide +kernel
theorem dX1_doesOther_23 : decode cX1_doesOther 23 = .ok (.if_icmp .ne 5, 3) := by decide +kernel
theorem dX1_doesOther_26 : decode cX1_doesOther 26 = .ok (.iconst 1, 1) := by decide +kernel
theorem dX1_doesOther_27 : decode cX1_doesOther 27 = .ok (.ireturn, 1) := by decide +kernel
theorem dX1_doesOther_28 : decode cX1_doesOther 28 = .ok (.iinc 4 1, 3) := by decide +kernel
theorem dX1_doesOther_31 : decode cX1_doesOther 31 = .ok (.goto (-28), 3) := by decide +kernel
theorem dX1_doesOther_34 : decode cX1_doesOther 34 = .ok (.iconst 0, 1) := by decide +kernel
theorem dX1_doesOther_35 : decode cX1_doesOther 35 = .ok (.ireturn, 1) := by decide +kernel
set_option maxRecDepth 20000 in
theorem ggX1_assign_X1_holderOn : GoodIn wsX1_assign wsX1_holderOn := goodIn_r _ [8, 3, 9, 10] (by decide +kernel) (by decide +kernel)
set_option maxRecDepth 20000 in
theorem gX1_assign_X1_holderOn : GoodIn wsX1_assign (wsV RX1 32 RX1 yX1_holderOn wsX1_holderOn) := goodIn_app (goodIn_of _ (by decide +kernel)) ggX1_assign_X1_holderOn
theorem dX1_assign_0 : decode cX1_assign 0 = .ok (.aload_n 0, 1) := by decide +kernel
theorem dX1_assign_1 : decode cX1_assign 1 = .ok (.iload_n 1, 1) := by decide +kernel
theorem dX1_assign_2 : decode cX1_assign 2 = .ok (.iload_n 2, 1) := by decide +kernel
theorem dX1_assign_3 : decode cX1_assign 3 = .ok (.invokevirtual 32, 3) := by decide +kernel
theorem dX1_assign_6 : decode cX1_assign 6 = .ok (.istore 4, 2) := by decide +kernel
theorem dX1_assign_8 : decode cX1_assign 8 = .ok (.iload 4, 2) := by decide +kernel
theorem dX1_assign_10 : decode cX1_assign 10 = .ok (.iconst (-1), 1) := by decide +kernel
theorem dX1_assign_11 : decode cX1_assign 11 = .ok (.if_icmp .eq 18, 3) := by decide +kernel
theorem dX1_assign_14 : decode cX1_assign 14 = .ok (.aload_n 0, 1) := by decide +kernel
theorem dX1_assign_15 : decode cX1_assign 15 = .ok (.getfield 15, 3) := by decide +kernel
theorem dX1_assign_18 : decode cX1_assign 18 = .ok (.iload 4, 2) := by decide +kernel
theorem dX1_assign_20 : decode cX1_assign 20 = .ok (.dup2, 1) := by decide +kernel
theorem dX1_assign_21 : decode cX1_assign 21 = .ok (.iaload, 1) := by decide +kernel
theorem dX1_assign_22 : decode cX1_assign 22 = .ok (.getstatic 45, 3) := by decide +kernel
theorem dX1_assign_25 : decode cX1_assign 25 = .ok (.iload_n 2, 1) := by decide +kernel
theorem dX1_assign_26 : decode cX1_assign 26 = .ok (.iaload, 1) := by decide +kernel
theorem dX1_assign_27 : decode cX1_assign 27 = .ok (.isub, 1) := by decide +kernel
theorem dX1_assign_28 : decode cX1_assign 28 = .ok (.iastore, 1) := by decide +kernel
theorem dX1_assign_29 : decode cX1_assign 29 = .ok (.iload_n 3, 1) := by decide +kernel
theorem dX1_assign_30 : decode cX1_assign 30 = .ok (.iconst (-1), 1) := by decide +kernel
theorem dX1_assign_31 : decode cX1_assign 31 = .ok (.if_icmp .eq 17, 3) := by decide +kernel
theorem dX1_assign_34 : decode cX1_assign 34 = .ok (.aload_n 0, 1) := by decide +kernel
theorem dX1_assign_35 : decode cX1_assign 35 = .ok (.getfield 15, 3) := by decide +kernel
theorem dX1_assign_38 : decode cX1_assign 38 = .ok (.iload_n 3, 1) := by decide +kernel
theorem dX1_assign_39 : decode cX1_assign 39 = .ok (.dup2, 1) := by decide +kernel
theorem dX1_assign_40 : decode cX1_assign 40 = .ok (.iaload, 1) := by decide +kernel
theorem dX1_assign_41 : decode cX1_assign 41 = .ok (.getstatic 45, 3) := by decide +kernel
theorem dX1_assign_44 : decode cX1_assign 44 = .ok (.iload_n 2, 1) := by decide +kernel
theorem dX1_assign_45 : decode cX1_assign 45 = .ok (.iaload, 1) := by decide +kernel
theorem dX1_assign_46 : decode cX1_assign 46 = .ok (.iadd, 1) := by decide +kernel
theorem dX1_assign_47 : decode cX1_assign 47 = .ok (.iastore, 1) := by decide +kernel
theorem dX1_assign_48 : decode cX1_assign 48 = .ok (.aload_n 0, 1) := by decide +kernel
theorem dX1_assign_49 : decode cX1_assign 49 = .ok (.getfield 11, 3) := by decide +kernel
theorem dX1_assign_52 : decode cX1_assign 52 = .ok (.iload_n 1, 1) := by decide +kernel
theorem dX1_assign_53 : decode cX1_assign 53 = .ok (.iconst 5, 1) := by decide +kernel
theorem dX1_assign_54 : decode cX1_assign 54 = .ok (.imul, 1) := by decide +kernel
theorem dX1_assign_55 : decode cX1_assign 55 = .ok (.iload_n 2, 1) := by decide +kernel
theorem dX1_assign_56 : decode cX1_assign 56 = .ok (.iadd, 1) := by decide +kernel
theorem dX1_assign_57 : decode cX1_assign 57 = .ok (.iload_n 3, 1) := by decide +kernel
theorem dX1_assign_58 : decode cX1_assign 58 = .ok (.iastore, 1) := by decide +kernel
theorem dX1_assign_59 : decode cX1_assign 59 = .ok (.return_, 1) := by decide +kernel
set_option maxRecDepth 20000 in
theorem ggX1_bestFor_X1_canBeGiven : GoodIn wsX1_bestFor wsX1_canBeGiven := goodIn_r _ [7, 8, 9, 10, 6, 11, 12, 13, 14, 15, 16, 17, 18, 19, 20, 21, 22, 23, 24, 25, 26, 27, 28, 29, 30, 31, 32, 33, 34, 35, 36, 37, 38, 39, 40, 41, 42] (by decide +kernel) (by decide +kernel)
set_option maxRecDepth 20000 in
theorem gX1_bestFor_X1_canBeGiven : GoodIn wsX1_bestFor (wsV RX1 52 RX1 yX1_canBeGiven wsX1_canBeGiven) := goodIn_app (goodIn_of _ (by decide +kernel)) ggX1_bestFor_X1_canBeGiven
theorem dX1_bestFor_0 : decode cX1_bestFor 0 = .ok (.iconst (-1), 1) := by decide +kernel
theorem dX1_bestFor_1 : decode cX1_bestFor 1 = .ok (.istore 4, 2) := by decide +kernel
theorem dX1_bestFor_3 : decode cX1_bestFor 3 = .ok (.iconst 0, 1) := by decide +kernel
theorem dX1_bestFor_4 : decode cX1_bestFor 4 = .ok (.istore 5, 2) := by decide +kernel
theorem dX1_bestFor_6 : decode cX1_bestFor 6 = .ok (.iload 5, 2) := by decide +kernel
theorem dX1_bestFor_8 : decode cX1_bestFor 8 = .ok (.aload_n 3, 1) := by decide +kernel
theorem dX1_bestFor_9 : decode cX1_bestFor 9 = .ok (.getfield 48, 3) := by decide +kernel
theorem dX1_bestFor_12 : decode cX1_bestFor 12 = .ok (.if_icmp .ge 60, 3) := by decide +kernel
theorem dX1_bestFor_15 : decode cX1_bestFor 15 = .ok (.iload 4, 2) := by decide +kernel
theorem dX1_bestFor_17 : decode cX1_bestFor 17 = .ok (.iconst (-1), 1) := by decide +kernel
theorem dX1_bestFor_18 : decode cX1_bestFor 18 = .ok (.if_icmp .eq 20, 3) := by decide +kernel
theorem dX1_bestFor_21 : decode cX1_bestFor 21 = .ok (.aload_n 0, 1) := by decide +kernel
theorem dX1_bestFor_22 : decode cX1_bestFor 22 = .ok (.getfield 15, 3) := by decide +kernel
theorem dX1_bestFor_25 : decode cX1_bestFor 25 = .ok (.iload 5, 2) := by decide +kernel
theorem dX1_bestFor_27 : decode cX1_bestFor 27 = .ok (.iaload, 1) := by decide +kernel
theorem dX1_bestFor_28 : decode cX1_bestFor 28 = .ok (.aload_n 0, 1) := by decide +kernel
theorem dX1_bestFor_29 : decode cX1_bestFor 29 = .ok (.getfield 15, 3) := by decide +kernel
theorem dX1_bestFor_32 : decode cX1_bestFor 32 = .ok (.iload 4, 2) := by decide +kernel
theorem dX1_bestFor_34 : decode cX1_bestFor 34 = .ok (.iaload, 1) := by decide +kernel
theorem dX1_bestFor_35 : decode cX1_bestFor 35 = .ok (.if_icmp .ge 7, 3) := by decide +kernel
theorem dX1_bestFor_38 : decode cX1_bestFor 38 = .ok (.iconst 1, 1) := by decide +kernel
theorem dX1_bestFor_39 : decode cX1_bestFor 39 = .ok (.goto 4, 3) := by decide +kernel
theorem dX1_bestFor_42 : decode cX1_bestFor 42 = .ok (.iconst 0, 1) := by decide +kernel
theorem dX1_bestFor_43 : decode cX1_bestFor 43 = .ok (.istore 6, 2) := by decide +kernel
theorem dX1_bestFor_45 : decode cX1_bestFor 45 = .ok (.iload 6, 2) := by decide +kernel
theorem dX1_bestFor_47 : decode cX1_bestFor 47 = .ok (.ifCond .eq 19, 3) := by decide +kernel
theorem dX1_bestFor_50 : decode cX1_bestFor 50 = .ok (.aload_n 0, 1) := by decide +kernel
theorem dX1_bestFor_51 : decode cX1_bestFor 51 = .ok (.iload_n 1, 1) := by decide +kernel
theorem dX1_bestFor_52 : decode cX1_bestFor 52 = .ok (.iload_n 2, 1) := by decide +kernel
theorem dX1_bestFor_53 : decode cX1_bestFor 53 = .ok (.iload 5, 2) := by decide +kernel
theorem dX1_bestFor_55 : decode cX1_bestFor 55 = .ok (.aload_n 3, 1) := by decide +kernel
theorem dX1_bestFor_56 : decode cX1_bestFor 56 = .ok (.invokevirtual 52, 3) := by decide +kernel
theorem dX1_bestFor_59 : decode cX1_bestFor 59 = .ok (.ifCond .eq 7, 3) := by decide +kernel
theorem dX1_bestFor_62 : decode cX1_bestFor 62 = .ok (.iload 5, 2) := by decide +kernel
theorem dX1_bestFor_64 : decode cX1_bestFor 64 = .ok (.istore 4, 2) := by decide +kernel
theorem dX1_bestFor_66 : decode cX1_bestFor 66 = .ok (.iinc 5 1, 3) := by decide +kernel
theorem dX1_bestFor_69 : decode cX1_bestFor 69 = .ok (.goto (-63), 3) := by decide +kernel
theorem dX1_bestFor_72 : decode cX1_bestFor 72 = .ok (.iload 4, 2) := by decide +kernel
theorem dX1_bestFor_74 : decode cX1_bestFor 74 = .ok (.ireturn, 1) := by decide +kernel
set_option maxRecDepth 20000 in
theorem ggX1_openOn_X1_holderOn : GoodIn wsX1_openOn wsX1_holderOn := goodIn_r _ [5, 6, 7, 8] (by decide +kernel) (by decide +kernel)
set_option maxRecDepth 20000 in
theorem gX1_openOn_X1_holderOn : GoodIn wsX1_openOn (wsV RX1 32 RX1 yX1_holderOn wsX1_holderOn) := goodIn_app (goodIn_of _ (by decide +kernel)) ggX1_openOn_X1_holderOn
theorem dX1_openOn_0 : decode cX1_openOn 0 = .ok (.iconst 0, 1) := by decide +kernel
theorem dX1_openOn_1 : decode cX1_openOn 1 = .ok (.istore_n 2, 1) := by decide +kernel
theorem dX1_openOn_2 : decode cX1_openOn 2 = .ok (.iconst 0, 1) := by decide +kernel
theorem dX1_openOn_3 : decode cX1_openOn 3 = .ok (.istore_n 3, 1) := by decide +kernel
theorem dX1_openOn_4 : decode cX1_openOn 4 = .ok (.iload_n 3, 1) := by decide +kernel
theorem dX1_openOn_5 : decode cX1_openOn 5 = .ok (.iconst 5, 1) := by decide +kernel
theorem dX1_openOn_6 : decode cX1_openOn 6 = .ok (.if_icmp .ge 22, 3) := by decide +kernel
theorem dX1_openOn_9 : decode cX1_openOn 9 = .ok (.aload_n 0, 1) := by decide +kernel
theorem dX1_openOn_10 : decode cX1_openOn 10 = .ok (.iload_n 1, 1) := by decide +kernel
theorem dX1_openOn_11 : decode cX1_openOn 11 = .ok (.iload_n 3, 1) := by decide +kernel
theorem dX1_openOn_12 : decode cX1_openOn 12 = .ok (.invokevirtual 32, 3) := by decide +kernel
theorem dX1_openOn_15 : decode cX1_openOn 15 = .ok (.iconst (-1), 1) := by decide +kernel
theorem dX1_openOn_16 : decode cX1_openOn 16 = .ok (.if_icmp .ne 6, 3) := by decide +kernel
theorem dX1_openOn_19 : decode cX1_openOn 19 = .ok (.iinc 2 1, 3) := by decide +kernel
theorem dX1_openOn_22 : decode cX1_openOn 22 = .ok (.iinc 3 1, 3) := by decide +kernel
theorem dX1_openOn_25 : decode cX1_openOn 25 = .ok (.goto (-21), 3) := by decide +kernel
theorem dX1_openOn_28 : decode cX1_openOn 28 = .ok (.iload_n 2, 1) := by decide +kernel
theorem dX1_openOn_29 : decode cX1_openOn 29 = .ok (.ireturn, 1) := by decide +kernel
theorem dX2_init_0 : decode cX2_init 0 = .ok (.aload_n 0, 1) := by decide +kernel
theorem dX2_init_1 : decode cX2_init 1 = .ok (.invokespecial 3, 3) := by decide +kernel
theorem dX2_init_4 : decode cX2_init 4 = .ok (.aload_n 0, 1) := by decide +kernel
theorem dX2_init_5 : decode cX2_init 5 = .ok (.bipush 12, 2) := by decide +kernel
theorem dX2_init_7 : decode cX2_init 7 = .ok (.newarray .int, 2) := by decide +kernel
theorem dX2_init_9 : decode cX2_init 9 = .ok (.putfield 9, 3) := by decide +kernel
theorem dX2_init_12 : decode cX2_init 12 = .ok (.aload_n 0, 1) := by decide +kernel
theorem dX2_init_13 : decode cX2_init 13 = .ok (.bipush 120, 2) := by decide +kernel
theorem dX2_init_15 : decode cX2_init 15 = .ok (.newarray .int, 2) := by decide +kernel
theorem dX2_init_17 : decode cX2_init 17 = .ok (.putfield 15, 3) := by decide +kernel
theorem dX2_init_20 : decode cX2_init 20 = .ok (.return_, 1) := by decide +kernel
theorem dX2_needOf_0 : decode cX2_needOf 0 = .ok (.aload_n 0, 1) := by decide +kernel
theorem dX2_needOf_1 : decode cX2_needOf 1 = .ok (.getfield 15, 3) := by decide +kernel
theorem dX2_needOf_4 : decode cX2_needOf 4 = .ok (.iload_n 1, 1) := by decide +kernel
theorem dX2_needOf_5 : decode cX2_needOf 5 = .ok (.bipush 12, 2) := by decide +kernel
theorem dX2_needOf_7 : decode cX2_needOf 7 = .ok (.imul, 1) := by decide +kernel
theorem dX2_needOf_8 : decode cX2_needOf 8 = .ok (.iload_n 2, 1) := by decide +kernel
theorem dX2_needOf_9 : decode cX2_needOf 9 = .ok (.iadd, 1) := by decide +kernel
theorem dX2_needOf_10 : decode cX2_needOf 10 = .ok (.iaload, 1) := by decide +kernel
theorem dX2_needOf_11 : decode cX2_needOf 11 = .ok (.ireturn, 1) := by decide +kernel
set_option maxRecDepth 20000 in
theorem ggX2_foodsOf_X2_needOf : GoodIn wsX2_foodsOf wsX2_needOf := goodIn_r _ [6, 7, 8, 9, 10, 11, 12, 13] (by decide +kernel) (by decide +kernel)
set_option maxRecDepth 20000 in
theorem gX2_foodsOf_X2_needOf : GoodIn wsX2_foodsOf (wsV RX2 22 RX2 yX2_needOf wsX2_needOf) := goodIn_app (goodIn_of _ (by decide +kernel)) ggX2_foodsOf_X2_needOf
theorem dX2_foodsOf_0 : decode cX2_foodsOf 0 = .ok (.iconst 0, 1) := by decide +kernel
theorem dX2_foodsOf_1 : decode cX2_foodsOf 1 = .ok (.istore_n 2, 1) := by decide +kernel
theorem dX2_foodsOf_2 : decode cX2_foodsOf 2 = .ok (.iconst 0, 1) := by decide +kernel
theorem dX2_foodsOf_3 : decode cX2_foodsOf 3 = .ok (.istore_n 3, 1) := by decide +kernel
theorem dX2_foodsOf_4 : decode cX2_foodsOf 4 = .ok (.iload_n 3, 1) := by decide +kernel
theorem dX2_foodsOf_5 : decode cX2_foodsOf 5 = .ok (.aload_n 0, 1) := by decide +kernel
theorem dX2_foodsOf_6 : decode cX2_foodsOf 6 = .ok (.getfield 18, 3) := by decide +kernel
theorem dX2_foodsOf_9 : decode cX2_foodsOf 9 = .ok (.if_icmp .ge 24, 3) := by decide +kernel
theorem dX2_foodsOf_12 : decode cX2_foodsOf 12 = .ok (.aload_n 0, 1) := by decide +kernel
theorem dX2_foodsOf_13 : decode cX2_foodsOf 13 = .ok (.iload_n 1, 1) := by decide +kernel
theorem dX2_foodsOf_14 : decode cX2_foodsOf 14 = .ok (.iload_n 3, 1) := by decide +kernel
theorem dX2_foodsOf_15 : decode cX2_foodsOf 15 = .ok (.invokevirtual 22, 3) := by decide +kernel
theorem dX2_foodsOf_18 : decode cX2_foodsOf 18 = .ok (.ifCond .le 9, 3) := by decide +kernel
theorem dX2_foodsOf_21 : decode cX2_foodsOf 21 = .ok (.iload_n 2, 1) := by decide +kernel
theorem dX2_foodsOf_22 : decode cX2_foodsOf 22 = .ok (.iconst 1, 1) := by decide +kernel
theorem dX2_foodsOf_23 : decode cX2_foodsOf 23 = .ok (.iload_n 3, 1) := by decide +kernel
theorem dX2_foodsOf_24 : decode cX2_foodsOf 24 = .ok (.ishl, 1) := by decide +kernel
theorem dX2_foodsOf_25 : decode cX2_foodsOf 25 = .ok (.ior, 1) := by decide +kernel
theorem dX2_foodsOf_26 : decode cX2_foodsOf 26 = .ok (.istore_n 2, 1) := by decide +kernel
theorem dX2_foodsOf_27 : decode cX2_foodsOf 27 = .ok (.iinc 3 1, 3) := by decide +kernel
theorem dX2_foodsOf_30 : decode cX2_foodsOf 30 = .ok (.goto (-26), 3) := by decide +kernel
theorem dX2_foodsOf_33 : decode cX2_foodsOf 33 = .ok (.iload_n 2, 1) := by decide +kernel
theorem dX2_foodsOf_34 : decode cX2_foodsOf 34 = .ok (.ireturn, 1) := by decide +kernel
set_option maxRecDepth 20000 in
theorem ggX2_eatersOf_X2_foodsOf : GoodIn wsX2_eatersOf wsX2_foodsOf := goodIn_r _ [7, 8, 9, 10, 11, 6, 12, 13, 22, 23, 24, 25, 26, 27] (by decide +kernel) (by decide +kernel)
set_option maxRecDepth 20000 in
theorem gX2_eatersOf_X2_foodsOf : GoodIn wsX2_eatersOf (wsV RX2 26 RX2 yX2_foodsOf wsX2_foodsOf) := goodIn_app (goodIn_of _ (by decide +kernel)) ggX2_eatersOf_X2_foodsOf
theorem dX2_eatersOf_0 : decode cX2_eatersOf 0 = .ok (.aload_n 0, 1) := by decide +kernel
theorem dX2_eatersOf_1 : decode cX2_eatersOf 1 = .ok (.iload_n 1, 1) := by decide +kernel
theorem dX2_eatersOf_2 : decode cX2_eatersOf 2 = .ok (.invokevirtual 26, 3) := by decide +kernel
theorem dX2_eatersOf_5 : decode cX2_eatersOf 5 = .ok (.istore_n 3, 1) := by decide +kernel
theorem dX2_eatersOf_6 : decode cX2_eatersOf 6 = .ok (.lconst 0, 1) := by decide +kernel
theorem dX2_eatersOf_7 : decode cX2_eatersOf 7 = .ok (.lstore 4, 2) := by decide +kernel
theorem dX2_eatersOf_9 : decode cX2_eatersOf 9 = .ok (.iconst 0, 1) := by decide +kernel
theorem dX2_eatersOf_10 : decode cX2_eatersOf 10 = .ok (.istore 6, 2) := by decide +kernel
theorem dX2_eatersOf_12 : decode cX2_eatersOf 12 = .ok (.iload 6, 2) := by decide +kernel
theorem dX2_eatersOf_14 : decode cX2_eatersOf 14 = .ok (.aload_n 2, 1) := by decide +kernel
theorem dX2_eatersOf_15 : decode cX2_eatersOf 15 = .ok (.getfield 30, 3) := by decide +kernel
theorem dX2_eatersOf_18 : decode cX2_eatersOf 18 = .ok (.if_icmp .ge 30, 3) := by decide +kernel
theorem dX2_eatersOf_21 : decode cX2_eatersOf 21 = .ok (.aload_n 2, 1) := by decide +kernel
theorem dX2_eatersOf_22 : decode cX2_eatersOf 22 = .ok (.getfield 35, 3) := by decide +kernel
theorem dX2_eatersOf_25 : decode cX2_eatersOf 25 = .ok (.iload 6, 2) := by decide +kernel
theorem dX2_eatersOf_27 : decode cX2_eatersOf 27 = .ok (.iaload, 1) := by decide +kernel
theorem dX2_eatersOf_28 : decode cX2_eatersOf 28 = .ok (.iload_n 3, 1) := by decide +kernel
theorem dX2_eatersOf_29 : decode cX2_eatersOf 29 = .ok (.iand, 1) := by decide +kernel
theorem dX2_eatersOf_30 : decode cX2_eatersOf 30 = .ok (.ifCond .ne 12, 3) := by decide +kernel
theorem dX2_eatersOf_33 : decode cX2_eatersOf 33 = .ok (.lload 4, 2) := by decide +kernel
theorem dX2_eatersOf_35 : decode cX2_eatersOf 35 = .ok (.lconst 1, 1) := by decide +kernel
theorem dX2_eatersOf_36 : decode cX2_eatersOf 36 = .ok (.iload 6, 2) := by decide +kernel
theorem dX2_eatersOf_38 : decode cX2_eatersOf 38 = .ok (.lshl, 1) := by decide +kernel
theorem dX2_eatersOf_39 : decode cX2_eatersOf 39 = .ok (.lor, 1) := by decide +kernel
theorem dX2_eatersOf_40 : decode cX2_eatersOf 40 = .ok (.lstore 4, 2) := by decide +kernel
theorem dX2_eatersOf_42 : decode cX2_eatersOf 42 = .ok (.iinc 6 1, 3) := by decide +kernel
theorem dX2_eatersOf_45 : decode cX2_eatersOf 45 = .ok (.goto (-33), 3) := by decide +kernel
theorem dX2_eatersOf_48 : decode cX2_eatersOf 48 = .ok (.lload 4, 2) := by decide +kernel
theorem dX2_eatersOf_50 : decode cX2_eatersOf 50 = .ok (.lreturn, 1) := by decide +kernel
set_option maxRecDepth 20000 in
theorem ggX2_canBeEaten_X2_eatersOf : GoodIn wsX2_canBeEaten wsX2_eatersOf := goodIn_r _ [6, 7, 8, 9, 10, 11, 5, 12, 13, 14, 15, 16, 17, 18, 37, 38, 39, 40, 41, 42, 43, 44, 31, 32, 33, 34, 35, 36] (by decide +kernel) (by decide +kernel)
set_option maxRecDepth 20000 in
theorem gX2_canBeEaten_X2_eatersOf : GoodIn wsX2_canBeEaten (wsV RX2 38 RX2 yX2_eatersOf wsX2_eatersOf) := goodIn_app (goodIn_of _ (by decide +kernel)) ggX2_canBeEaten_X2_eatersOf
set_option maxRecDepth 20000 in
theorem ggX2_canBeEaten_J13_bitCount_95d88 : GoodIn wsX2_canBeEaten wsJ13_bitCount_95d88 := goodIn_r _ [22, 23, 24, 25] (by decide +kernel) (by decide +kernel)
set_option maxRecDepth 20000 in
theorem gX2_canBeEaten_J13_bitCount_95d88 : GoodIn wsX2_canBeEaten (va_wsS RX2 42 yJ13_bitCount_95d88 wsJ13_bitCount_95d88) := goodIn_app (goodIn_of _ (by decide +kernel)) ggX2_canBeEaten_J13_bitCount_95d88
set_option maxRecDepth 20000 in
theorem ggX2_canBeEaten_X2_foodsOf : GoodIn wsX2_canBeEaten wsX2_foodsOf := goodIn_r _ [12, 13, 14, 15, 16, 5, 17, 18, 31, 32, 33, 34, 35, 36] (by decide +kernel) (by decide +kernel)
set_option maxRecDepth 20000 in
theorem gX2_canBeEaten_X2_foodsOf : GoodIn wsX2_canBeEaten (wsV RX2 26 RX2 yX2_foodsOf wsX2_foodsOf) := goodIn_app (goodIn_of _ (by decide +kernel)) ggX2_canBeEaten_X2_foodsOf
set_option maxRecDepth 20000 in
theorem ggX2_canBeEaten_X2_isStocked : GoodIn wsX2_canBeEaten wsX2_isStocked := goodIn_r _ [29, 13, 30, 14, 15, 16, 5, 17, 18, 31, 32, 33, 34, 35, 36] (by decide +kernel) (by decide +kernel)
set_option maxRecDepth 20000 in
theorem gX2_canBeEaten_X2_isStocked : GoodIn wsX2_canBeEaten (wsV RX2 51 RX2 yX2_isStocked wsX2_isStocked) := goodIn_app (goodIn_of _ (by decide +kernel)) ggX2_canBeEaten_X2_isStocked
theorem dX2_canBeEaten_0 : decode cX2_canBeEaten 0 = .ok (.aload_n 0, 1) := by decide +kernel
theorem dX2_canBeEaten_1 : decode cX2_canBeEaten 1 = .ok (.iload_n 1, 1) := by decide +kernel
theorem dX2_canBeEaten_2 : decode cX2_canBeEaten 2 = .ok (.aload_n 2, 1) := by decide +kernel
theorem dX2_canBeEaten_3 : decode cX2_canBeEaten 3 = .ok (.invokevirtual 38, 3) := by decide +kernel
theorem dX2_canBeEaten_6 : decode cX2_canBeEaten 6 = .ok (.invokestatic 42, 3) := by decide +kernel
theorem dX2_canBeEaten_9 : decode cX2_canBeEaten 9 = .ok (.istore_n 3, 1) := by decide +kernel
theorem dX2_canBeEaten_10 : decode cX2_canBeEaten 10 = .ok (.aload_n 0, 1) := by decide +kernel
theorem dX2_canBeEaten_11 : decode cX2_canBeEaten 11 = .ok (.getfield 48, 3) := by decide +kernel
theorem dX2_canBeEaten_14 : decode cX2_canBeEaten 14 = .ok (.iconst 3, 1) := by decide +kernel
theorem dX2_canBeEaten_15 : decode cX2_canBeEaten 15 = .ok (.if_icmp .ge 28, 3) := by decide +kernel
theorem dX2_canBeEaten_18 : decode cX2_canBeEaten 18 = .ok (.aload_n 0, 1) := by decide +kernel
theorem dX2_canBeEaten_19 : decode cX2_canBeEaten 19 = .ok (.iload_n 1, 1) := by decide +kernel
theorem dX2_canBeEaten_20 : decode cX2_canBeEaten 20 = .ok (.invokevirtual 26, 3) := by decide +kernel
theorem dX2_canBeEaten_23 : decode cX2_canBeEaten 23 = .ok (.ifCond .eq 20, 3) := by decide +kernel
theorem dX2_canBeEaten_26 : decode cX2_canBeEaten 26 = .ok (.iload_n 3, 1) := by decide +kernel
theorem dX2_canBeEaten_27 : decode cX2_canBeEaten 27 = .ok (.ifCond .le 16, 3) := by decide +kernel
theorem dX2_canBeEaten_30 : decode cX2_canBeEaten 30 = .ok (.aload_n 0, 1) := by decide +kernel
theorem dX2_canBeEaten_31 : decode cX2_canBeEaten 31 = .ok (.iload_n 1, 1) := by decide +kernel
theorem dX2_canBeEaten_32 : decode cX2_canBeEaten 32 = .ok (.iload_n 3, 1) := by decide +kernel
theorem dX2_canBeEaten_33 : decode cX2_canBeEaten 33 = .ok (.invokevirtual 51, 3) := by decide +kernel
theorem dX2_canBeEaten_36 : decode cX2_canBeEaten 36 = .ok (.ifCond .eq 7, 3) := by decide +kernel
theorem dX2_canBeEaten_39 : decode cX2_canBeEaten 39 = .ok (.iconst 1, 1) := by decide +kernel
theorem dX2_canBeEaten_40 : decode cX2_canBeEaten 40 = .ok (.goto 4, 3) := by decide +kernel
theorem dX2_canBeEaten_43 : decode cX2_canBeEaten 43 = .ok (.iconst 0, 1) := by decide +kernel
theorem dX2_canBeEaten_44 : decode cX2_canBeEaten 44 = .ok (.ireturn, 1) := by decide +kernel
set_option maxRecDepth 20000 in
theorem ggX2_isStocked_X2_needOf : GoodIn wsX2_isStocked wsX2_needOf := goodIn_r _ [7, 8, 9, 10, 11, 12, 13, 14] (by decide +kernel) (by decide +kernel)
set_option maxRecDepth 20000 in
theorem gX2_isStocked_X2_needOf : GoodIn wsX2_isStocked (wsV RX2 22 RX2 yX2_needOf wsX2_needOf) := goodIn_app (goodIn_of _ (by decide +kernel)) ggX2_isStocked_X2_needOf
theorem dX2_isStocked_0 : decode cX2_isStocked 0 = .ok (.iconst 0, 1) := by decide +kernel
theorem dX2_isStocked_1 : decode cX2_isStocked 1 = .ok (.istore_n 3, 1) := by decide +kernel
theorem dX2_isStocked_2 : decode cX2_isStocked 2 = .ok (.iload_n 3, 1) := by decide +kernel
theorem dX2_isStocked_3 : decode cX2_isStocked 3 = .ok (.aload_n 0, 1) := by decide +kernel
theorem dX2_isStocked_4 : decode cX2_isStocked 4 = .ok (.getfield 18, 3) := by decide +kernel
theorem dX2_isStocked_7 : decode cX2_isStocked 7 = .ok (.if_icmp .ge 28, 3) := by decide +kernel
theorem dX2_isStocked_10 : decode cX2_isStocked 10 = .ok (.aload_n 0, 1) := by decide +kernel
theorem dX2_isStocked_11 : decode cX2_isStocked 11 = .ok (.iload_n 1, 1) := by decide +kernel
theorem dX2_isStocked_12 : decode cX2_isStocked 12 = .ok (.iload_n 3, 1) := by decide +kernel
theorem dX2_isStocked_13 : decode cX2_isStocked 13 = .ok (.invokevirtual 22, 3) := by decide +kernel
theorem dX2_isStocked_16 : decode cX2_isStocked 16 = .ok (.iload_n 2, 1) := by decide +kernel
theorem dX2_isStocked_17 : decode cX2_isStocked 17 = .ok (.imul, 1) := by decide +kernel
theorem dX2_isStocked_18 : decode cX2_isStocked 18 = .ok (.aload_n 0, 1) := by decide +kernel
theorem dX2_isStocked_19 : decode cX2_isStocked 19 = .ok (.getfield 9, 3) := by decide +kernel
theorem dX2_isStocked_22 : decode cX2_isStocked 22 = .ok (.iload_n 3, 1) := by decide +kernel
theorem dX2_isStocked_23 : decode cX2_isStocked 23 = .ok (.iaload, 1) := by decide +kernel
theorem dX2_isStocked_24 : decode cX2_isStocked 24 = .ok (.if_icmp .le 5, 3) := by decide +kernel
theorem dX2_isStocked_27 : decode cX2_isStocked 27 = .ok (.iconst 0, 1) := by decide +kernel
theorem dX2_isStocked_28 : decode cX2_isStocked 28 = .ok (.ireturn, 1) := by decide +kernel
theorem dX2_isStocked_29 : decode cX2_isStocked 29 = .ok (.iinc 3 1, 3) := by decide +kernel
theorem dX2_isStocked_32 : decode cX2_isStocked 32 = .ok (.goto (-30), 3) := by decide +kernel
theorem dX2_isStocked_35 : decode cX2_isStocked 35 = .ok (.iconst 1, 1) := by decide +kernel
theorem dX2_isStocked_36 : decode cX2_isStocked 36 = .ok (.ireturn, 1) := by decide +kernel
set_option maxRecDepth 20000 in
theorem ggX2_serve_X2_eatersOf : GoodIn wsX2_serve wsX2_eatersOf := goodIn_r _ [9, 10, 11, 12, 13, 14, 8, 15, 1, 16, 17, 18, 19, 20, 34, 35, 36, 37, 38, 39, 40, 41, 28, 29, 30, 31, 32, 33] (by decide +kernel) (by decide +kernel)
set_option maxRecDepth 20000 in
theorem gX2_serve_X2_eatersOf : GoodIn wsX2_serve (wsV RX2 38 RX2 yX2_eatersOf wsX2_eatersOf) := goodIn_app (goodIn_of _ (by decide +kernel)) ggX2_serve_X2_eatersOf
set_option maxRecDepth 20000 in
theorem ggX2_serve_J13_bitCount_95d88 : GoodIn wsX2_serve wsJ13_bitCount_95d88 := goodIn_r _ [24, 25, 26, 27] (by decide +kernel) (by decide +kernel)
set_option maxRecDepth 20000 in
theorem gX2_serve_J13_bitCount_95d88 : GoodIn wsX2_serve (va_wsS RX2 42 yJ13_bitCount_95d88 wsJ13_bitCount_95d88) := goodIn_app (goodIn_of _ (by decide +kernel)) ggX2_serve_J13_bitCount_95d88
set_option maxRecDepth 20000 in
theorem ggX2_serve_X2_needOf : GoodIn wsX2_serve wsX2_needOf := goodIn_r _ [19, 20, 28, 29, 30, 31, 32, 33] (by decide +kernel) (by decide +kernel)
set_option maxRecDepth 20000 in
theorem gX2_serve_X2_needOf : GoodIn wsX2_serve (wsV RX2 22 RX2 yX2_needOf wsX2_needOf) := goodIn_app (goodIn_of _ (by decide +kernel)) ggX2_serve_X2_needOf
theorem dX2_serve_0 : decode cX2_serve 0 = .ok (.aload_n 0, 1) := by decide +kernel
theorem dX2_serve_1 : decode cX2_serve 1 = .ok (.iload_n 1, 1) := by decide +kernel
theorem dX2_serve_2 : decode cX2_serve 2 = .ok (.aload_n 2, 1) := by decide +kernel
theorem dX2_serve_3 : decode cX2_serve 3 = .ok (.invokevirtual 38, 3) := by decide +kernel
theorem dX2_serve_6 : decode cX2_serve 6 = .ok (.lstore_n 3, 1) := by decide +kernel
theorem dX2_serve_7 : decode cX2_serve 7 = .ok (.lload_n 3, 1) := by decide +kernel
theorem dX2_serve_8 : decode cX2_serve 8 = .ok (.invokestatic 42, 3) := by decide +kernel
theorem dX2_serve_11 : decode cX2_serve 11 = .ok (.istore 5, 2) := by decide +kernel
theorem dX2_serve_13 : decode cX2_serve 13 = .ok (.iconst 0, 1) := by decide +kernel
theorem dX2_serve_14 : decode cX2_serve 14 = .ok (.istore 6, 2) := by decide +kernel
theorem dX2_serve_16 : decode cX2_serve 16 = .ok (.iload 6, 2) := by decide +kernel
theorem dX2_serve_18 : decode cX2_serve 18 = .ok (.aload_n 0, 1) := by decide +kernel
theorem dX2_serve_19 : decode cX2_serve 19 = .ok (.getfield 18, 3) := by decide +kernel
theorem dX2_serve_22 : decode cX2_serve 22 = .ok (.if_icmp .ge 29, 3) := by decide +kernel
theorem dX2_serve_25 : decode cX2_serve 25 = .ok (.aload_n 0, 1) := by decide +kernel
theorem dX2_serve_26 : decode cX2_serve 26 = .ok (.getfield 9, 3) := by decide +kernel
theorem dX2_serve_29 : decode cX2_serve 29 = .ok (.iload 6, 2) := by decide +kernel
theorem dX2_serve_31 : decode cX2_serve 31 = .ok (.dup2, 1) := by decide +kernel
theorem dX2_serve_32 : decode cX2_serve 32 = .ok (.iaload, 1) := by decide +kernel
theorem dX2_serve_33 : decode cX2_serve 33 = .ok (.aload_n 0, 1) := by decide +kernel
theorem dX2_serve_34 : decode cX2_serve 34 = .ok (.iload_n 1, 1) := by decide +kernel
theorem dX2_serve_35 : decode cX2_serve 35 = .ok (.iload 6, 2) := by decide +kernel
theorem dX2_serve_37 : decode cX2_serve 37 = .ok (.invokevirtual 22, 3) := by decide +kernel
theorem dX2_serve_40 : decode cX2_serve 40 = .ok (.iload 5, 2) := by decide +kernel
theorem dX2_serve_42 : decode cX2_serve 42 = .ok (.imul, 1) := by decide +kernel
theorem dX2_serve_43 : decode cX2_serve 43 = .ok (.isub, 1) := by decide +kernel
theorem dX2_serve_44 : decode cX2_serve 44 = .ok (.iastore, 1) := by decide +kernel
theorem dX2_serve_45 : decode cX2_serve 45 = .ok (.iinc 6 1, 3) := by decide +kernel
theorem dX2_serve_48 : decode cX2_serve 48 = .ok (.goto (-32), 3) := by decide +kernel
theorem dX2_serve_51 : decode cX2_serve 51 = .ok (.aload_n 0, 1) := by decide +kernel
theorem dX2_serve_52 : decode cX2_serve 52 = .ok (.dup, 1) := by decide +kernel
theorem dX2_serve_53 : decode cX2_serve 53 = .ok (.getfield 55, 3) := by decide +kernel
theorem dX2_serve_56 : decode cX2_serve 56 = .ok (.lload_n 3, 1) := by decide +kernel
theorem dX2_serve_57 : decode cX2_serve 57 = .ok (.lor, 1) := by decide +kernel
theorem dX2_serve_58 : decode cX2_serve 58 = .ok (.putfield 55, 3) := by decide +kernel
theorem dX2_serve_61 : decode cX2_serve 61 = .ok (.aload_n 0, 1) := by decide +kernel
theorem dX2_serve_62 : decode cX2_serve 62 = .ok (.dup, 1) := by decide +kernel
theorem dX2_serve_63 : decode cX2_serve 63 = .ok (.getfield 48, 3) := by decide +kernel
theorem dX2_serve_66 : decode cX2_serve 66 = .ok (.iconst 1, 1) := by decide +kernel
theorem dX2_serve_67 : decode cX2_serve 67 = .ok (.iadd, 1) := by decide +kernel
theorem dX2_serve_68 : decode cX2_serve 68 = .ok (.putfield 48, 3) := by decide +kernel
theorem dX2_serve_71 : decode cX2_serve 71 = .ok (.iload 5, 2) := by decide +kernel
theorem dX2_serve_73 : decode cX2_serve 73 = .ok (.ireturn, 1) := by decide +kernel
set_option maxRecDepth 20000 in
theorem ggX2_bestMeal_X2_eatersOf : GoodIn wsX2_bestMeal wsX2_eatersOf := goodIn_r _ [8, 9, 10, 11, 12, 13, 7, 14, 15, 16, 17, 18, 19, 20, 44, 45, 46, 47, 48, 49, 50, 51, 38, 39, 40, 41, 42, 43] (by decide +kernel) (by decide +kernel)
set_option maxRecDepth 20000 in
theorem gX2_bestMeal_X2_eatersOf : GoodIn wsX2_bestMeal (wsV RX2 38 RX2 yX2_eatersOf wsX2_eatersOf) := goodIn_app (goodIn_of _ (by decide +kernel)) ggX2_bestMeal_X2_eatersOf
set_option maxRecDepth 20000 in
theorem ggX2_bestMeal_J13_bitCount_95d88 : GoodIn wsX2_bestMeal wsJ13_bitCount_95d88 := goodIn_r _ [24, 25, 26, 27] (by decide +kernel) (by decide +kernel)
set_option maxRecDepth 20000 in
theorem gX2_bestMeal_J13_bitCount_95d88 : GoodIn wsX2_bestMeal (va_wsS RX2 42 yJ13_bitCount_95d88 wsJ13_bitCount_95d88) := goodIn_app (goodIn_of _ (by decide +kernel)) ggX2_bestMeal_J13_bitCount_95d88
set_option maxRecDepth 20000 in
theorem ggX2_bestMeal_X2_canBeEaten : GoodIn wsX2_bestMeal wsX2_canBeEaten := goodIn_r _ [31, 32, 4, 5, 6, 7, 8, 9, 10, 11, 12, 13, 14, 15, 16, 17, 18, 19, 20, 21, 22, 23, 24, 25, 26, 27, 33, 34, 35, 36, 37, 38, 39, 40, 41, 42, 43, 44, 45, 46, 47, 48, 49, 50, 51] (by decide +kernel) (by decide +kernel)
set_option maxRecDepth 20000 in
theorem gX2_bestMeal_X2_canBeEaten : GoodIn wsX2_bestMeal (wsV RX2 64 RX2 yX2_canBeEaten wsX2_canBeEaten) := goodIn_app (goodIn_of _ (by decide +kernel)) ggX2_bestMeal_X2_canBeEaten
theorem dX2_bestMeal_0 : decode cX2_bestMeal 0 = .ok (.iconst (-1), 1) := by decide +kernel
theorem dX2_bestMeal_1 : decode cX2_bestMeal 1 = .ok (.istore_n 2, 1) := by decide +kernel
theorem dX2_bestMeal_2 : decode cX2_bestMeal 2 = .ok (.iconst (-1), 1) := by decide +kernel
theorem dX2_bestMeal_3 : decode cX2_bestMeal 3 = .ok (.istore_n 3, 1) := by decide +kernel
theorem dX2_bestMeal_4 : decode cX2_bestMeal 4 = .ok (.iconst 0, 1) := by decide +kernel
theorem dX2_bestMeal_5 : decode cX2_bestMeal 5 = .ok (.istore 4, 2) := by decide +kernel
theorem dX2_bestMeal_7 : decode cX2_bestMeal 7 = .ok (.iload 4, 2) := by decide +kernel
theorem dX2_bestMeal_9 : decode cX2_bestMeal 9 = .ok (.aload_n 0, 1) := by decide +kernel
theorem dX2_bestMeal_10 : decode cX2_bestMeal 10 = .ok (.getfield 59, 3) := by decide +kernel
theorem dX2_bestMeal_13 : decode cX2_bestMeal 13 = .ok (.if_icmp .ge 52, 3) := by decide +kernel
theorem dX2_bestMeal_16 : decode cX2_bestMeal 16 = .ok (.aload_n 0, 1) := by decide +kernel
theorem dX2_bestMeal_17 : decode cX2_bestMeal 17 = .ok (.iload 4, 2) := by decide +kernel
theorem dX2_bestMeal_19 : decode cX2_bestMeal 19 = .ok (.aload_n 1, 1) := by decide +kernel
theorem dX2_bestMeal_20 : decode cX2_bestMeal 20 = .ok (.invokevirtual 38, 3) := by decide +kernel
theorem dX2_bestMeal_23 : decode cX2_bestMeal 23 = .ok (.aload_n 0, 1) := by decide +kernel
theorem dX2_bestMeal_24 : decode cX2_bestMeal 24 = .ok (.getfield 55, 3) := by decide +kernel
theorem dX2_bestMeal_27 : decode cX2_bestMeal 27 = .ok (.ldc2_w 62, 3) := by decide +kernel
theorem dX2_bestMeal_30 : decode cX2_bestMeal 30 = .ok (.lxor, 1) := by decide +kernel
theorem dX2_bestMeal_31 : decode cX2_bestMeal 31 = .ok (.land, 1) := by decide +kernel
theorem dX2_bestMeal_32 : decode cX2_bestMeal 32 = .ok (.invokestatic 42, 3) := by decide +kernel
theorem dX2_bestMeal_35 : decode cX2_bestMeal 35 = .ok (.istore 5, 2) := by decide +kernel
theorem dX2_bestMeal_37 : decode cX2_bestMeal 37 = .ok (.iload 5, 2) := by decide +kernel
theorem dX2_bestMeal_39 : decode cX2_bestMeal 39 = .ok (.iload_n 3, 1) := by decide +kernel
theorem dX2_bestMeal_40 : decode cX2_bestMeal 40 = .ok (.if_icmp .le 19, 3) := by decide +kernel
theorem dX2_bestMeal_43 : decode cX2_bestMeal 43 = .ok (.aload_n 0, 1) := by decide +kernel
theorem dX2_bestMeal_44 : decode cX2_bestMeal 44 = .ok (.iload 4, 2) := by decide +kernel
theorem dX2_bestMeal_46 : decode cX2_bestMeal 46 = .ok (.aload_n 1, 1) := by decide +kernel
theorem dX2_bestMeal_47 : decode cX2_bestMeal 47 = .ok (.invokevirtual 64, 3) := by decide +kernel
theorem dX2_bestMeal_50 : decode cX2_bestMeal 50 = .ok (.ifCond .eq 9, 3) := by decide +kernel
theorem dX2_bestMeal_53 : decode cX2_bestMeal 53 = .ok (.iload 4, 2) := by decide +kernel
theorem dX2_bestMeal_55 : decode cX2_bestMeal 55 = .ok (.istore_n 2, 1) := by decide +kernel
theorem dX2_bestMeal_56 : decode cX2_bestMeal 56 = .ok (.iload 5, 2) := by decide +kernel
theorem dX2_bestMeal_58 : decode cX2_bestMeal 58 = .ok (.istore_n 3, 1) := by decide +kernel
theorem dX2_bestMeal_59 : decode cX2_bestMeal 59 = .ok (.iinc 4 1, 3) := by decide +kernel
theorem dX2_bestMeal_62 : decode cX2_bestMeal 62 = .ok (.goto (-55), 3) := by decide +kernel
theorem dX2_bestMeal_65 : decode cX2_bestMeal 65 = .ok (.iload_n 2, 1) := by decide +kernel
theorem dX2_bestMeal_66 : decode cX2_bestMeal 66 = .ok (.ireturn, 1) := by decide +kernel
theorem dX2_clearTable_0 : decode cX2_clearTable 0 = .ok (.aload_n 0, 1) := by decide +kernel
theorem dX2_clearTable_1 : decode cX2_clearTable 1 = .ok (.iconst 0, 1) := by decide +kernel
theorem dX2_clearTable_2 : decode cX2_clearTable 2 = .ok (.putfield 48, 3) := by decide +kernel
theorem dX2_clearTable_5 : decode cX2_clearTable 5 = .ok (.aload_n 0, 1) := by decide +kernel
theorem dX2_clearTable_6 : decode cX2_clearTable 6 = .ok (.lconst 0, 1) := by decide +kernel
theorem dX2_clearTable_7 : decode cX2_clearTable 7 = .ok (.putfield 55, 3) := by decide +kernel
theorem dX2_clearTable_10 : decode cX2_clearTable 10 = .ok (.return_, 1) := by decide +kernel
theorem dX3_init_0 : decode cX3_init 0 = .ok (.aload_n 0, 1) := by decide +kernel
theorem dX3_init_1 : decode cX3_init 1 = .ok (.invokespecial 3, 3) := by decide +kernel
theorem dX3_init_4 : decode cX3_init 4 = .ok (.aload_n 0, 1) := by decide +kernel
theorem dX3_init_5 : decode cX3_init 5 = .ok (.bipush 30, 2) := by decide +kernel
theorem dX3_init_7 : decode cX3_init 7 = .ok (.newarray .int, 2) := by decide +kernel
theorem dX3_init_9 : decode cX3_init 9 = .ok (.putfield 9, 3) := by decide +kernel
theorem dX3_init_12 : decode cX3_init 12 = .ok (.aload_n 0, 1) := by decide +kernel
theorem dX3_init_13 : decode cX3_init 13 = .ok (.bipush 30, 2) := by decide +kernel
theorem dX3_init_15 : decode cX3_init 15 = .ok (.newarray .int, 2) := by decide +kernel
theorem dX3_init_17 : decode cX3_init 17 = .ok (.putfield 15, 3) := by decide +kernel
theorem dX3_init_20 : decode cX3_init 20 = .ok (.aload_n 0, 1) := by decide +kernel
theorem dX3_init_21 : decode cX3_init 21 = .ok (.bipush 30, 2) := by decide +kernel
theorem dX3_init_23 : decode cX3_init 23 = .ok (.newarray .int, 2) := by decide +kernel
theorem dX3_init_25 : decode cX3_init 25 = .ok (.putfield 18, 3) := by decide +kernel
theorem dX3_init_28 : decode cX3_init 28 = .ok (.aload_n 0, 1) := by decide +kernel
theorem dX3_init_29 : decode cX3_init 29 = .ok (.bipush 30, 2) := by decide +kernel
theorem dX3_init_31 : decode cX3_init 31 = .ok (.newarray .int, 2) := by decide +kernel
theorem dX3_init_33 : decode cX3_init 33 = .ok (.putfield 21, 3) := by decide +kernel
theorem dX3_init_36 : decode cX3_init 36 = .ok (.aload_n 0, 1) := by decide +kernel
theorem dX3_init_37 : decode cX3_init 37 = .ok (.bipush 30, 2) := by decide +kernel
theorem dX3_init_39 : decode cX3_init 39 = .ok (.newarray .int, 2) := by decide +kernel
theorem dX3_init_41 : decode cX3_init 41 = .ok (.putfield 24, 3) := by decide +kernel
theorem dX3_init_44 : decode cX3_init 44 = .ok (.aload_n 0, 1) := by decide +kernel
theorem dX3_init_45 : decode cX3_init 45 = .ok (.sipush 300, 3) := by decide +kernel
theorem dX3_init_48 : decode cX3_init 48 = .ok (.newarray .int, 2) := by decide +kernel
theorem dX3_init_50 : decode cX3_init 50 = .ok (.putfield 27, 3) := by decide +kernel
theorem dX3_init_53 : decode cX3_init 53 = .ok (.return_, 1) := by decide +kernel
theorem dX3_enrol_0 : decode cX3_enrol 0 = .ok (.aload_n 0, 1) := by decide +kernel
theorem dX3_enrol_1 : decode cX3_enrol 1 = .ok (.getfield 30, 3) := by decide +kernel
theorem dX3_enrol_4 : decode cX3_enrol 4 = .ok (.istore 4, 2) := by decide +kernel
theorem dX3_enrol_6 : decode cX3_enrol 6 = .ok (.aload_n 0, 1) := by decide +kernel
theorem dX3_enrol_7 : decode cX3_enrol 7 = .ok (.getfield 9, 3) := by decide +kernel
theorem dX3_enrol_10 : decode cX3_enrol 10 = .ok (.iload 4, 2) := by decide +kernel
theorem dX3_enrol_12 : decode cX3_enrol 12 = .ok (.iload_n 1, 1) := by decide +kernel
theorem dX3_enrol_13 : decode cX3_enrol 13 = .ok (.iastore, 1) := by decide +kernel
theorem dX3_enrol_14 : decode cX3_enrol 14 = .ok (.aload_n 0, 1) := by decide +kernel
theorem dX3_enrol_15 : decode cX3_enrol 15 = .ok (.getfield 15, 3) := by decide +kernel
theorem dX3_enrol_18 : decode cX3_enrol 18 = .ok (.iload 4, 2) := by decide +kernel
theorem dX3_enrol_20 : decode cX3_enrol 20 = .ok (.iload_n 2, 1) := by decide +kernel
theorem dX3_enrol_21 : decode cX3_enrol 21 = .ok (.iastore, 1) := by decide +kernel
theorem dX3_enrol_22 : decode cX3_enrol 22 = .ok (.aload_n 0, 1) := by decide +kernel
theorem dX3_enrol_23 : decode cX3_enrol 23 = .ok (.getfield 18, 3) := by decide +kernel
theorem dX3_enrol_26 : decode cX3_enrol 26 = .ok (.iload 4, 2) := by decide +kernel
theorem dX3_enrol_28 : decode cX3_enrol 28 = .ok (.iload_n 3, 1) := by decide +kernel
theorem dX3_enrol_29 : decode cX3_enrol 29 = .ok (.iastore, 1) := by decide +kernel
theorem dX3_enrol_30 : decode cX3_enrol 30 = .ok (.aload_n 0, 1) := by decide +kernel
theorem dX3_enrol_31 : decode cX3_enrol 31 = .ok (.dup, 1) := by decide +kernel
theorem dX3_enrol_32 : decode cX3_enrol 32 = .ok (.getfield 30, 3) := by decide +kernel
theorem dX3_enrol_35 : decode cX3_enrol 35 = .ok (.iconst 1, 1) := by decide +kernel
theorem dX3_enrol_36 : decode cX3_enrol 36 = .ok (.iadd, 1) := by decide +kernel
theorem dX3_enrol_37 : decode cX3_enrol 37 = .ok (.putfield 30, 3) := by decide +kernel
theorem dX3_enrol_40 : decode cX3_enrol 40 = .ok (.iload 4, 2) := by decide +kernel
theorem dX3_enrol_42 : decode cX3_enrol 42 = .ok (.ireturn, 1) := by decide +kernel
theorem dX3_hoursIn_0 : decode cX3_hoursIn 0 = .ok (.aload_n 0, 1) := by decide +kernel
theorem dX3_hoursIn_1 : decode cX3_hoursIn 1 = .ok (.getfield 27, 3) := by decide +kernel
theorem dX3_hoursIn_4 : decode cX3_hoursIn 4 = .ok (.iload_n 1, 1) := by decide +kernel
theorem dX3_hoursIn_5 : decode cX3_hoursIn 5 = .ok (.bipush 10, 2) := by decide +kernel
theorem dX3_hoursIn_7 : decode cX3_hoursIn 7 = .ok (.imul, 1) := by decide +kernel
theorem dX3_hoursIn_8 : decode cX3_hoursIn 8 = .ok (.iload_n 2, 1) := by decide +kernel
theorem dX3_hoursIn_9 : decode cX3_hoursIn 9 = .ok (.iadd, 1) := by decide +kernel
theorem dX3_hoursIn_10 : decode cX3_hoursIn 10 = .ok (.iaload, 1) := by decide +kernel
theorem dX3_hoursIn_11 : decode cX3_hoursIn 11 = .ok (.ireturn, 1) := by decide +kernel
set_option maxRecDepth 20000 in
theorem ggX3_allHours_X3_hoursIn : GoodIn wsX3_allHours wsX3_hoursIn := goodIn_r _ [5, 6, 7, 8, 9, 10, 11, 12, 13, 14] (by decide +kernel) (by decide +kernel)
set_option maxRecDepth 20000 in
theorem gX3_allHours_X3_hoursIn : GoodIn wsX3_allHours (wsV RX3 34 RX3 yX3_hoursIn wsX3_hoursIn) := goodIn_app (goodIn_of _ (by decide +kernel)) ggX3_allHours_X3_hoursIn
theorem dX3_allHours_0 : decode cX3_allHours 0 = .ok (.iconst 0, 1) := by decide +kernel
theorem dX3_allHours_1 : decode cX3_allHours 1 = .ok (.istore_n 2, 1) := by decide +kernel
theorem dX3_allHours_2 : decode cX3_allHours 2 = .ok (.iconst 0, 1) := by decide +kernel
theorem dX3_allHours_3 : decode cX3_allHours 3 = .ok (.istore_n 3, 1) := by decide +kernel
theorem dX3_allHours_4 : decode cX3_allHours 4 = .ok (.iload_n 3, 1) := by decide +kernel
theorem dX3_allHours_5 : decode cX3_allHours 5 = .ok (.bipush 10, 2) := by decide +kernel
theorem dX3_allHours_7 : decode cX3_allHours 7 = .ok (.if_icmp .ge 18, 3) := by decide +kernel
theorem dX3_allHours_10 : decode cX3_allHours 10 = .ok (.iload_n 2, 1) := by decide +kernel
theorem dX3_allHours_11 : decode cX3_allHours 11 = .ok (.aload_n 0, 1) := by decide +kernel
theorem dX3_allHours_12 : decode cX3_allHours 12 = .ok (.iload_n 1, 1) := by decide +kernel
theorem dX3_allHours_13 : decode cX3_allHours 13 = .ok (.iload_n 3, 1) := by decide +kernel
theorem dX3_allHours_14 : decode cX3_allHours 14 = .ok (.invokevirtual 34, 3) := by decide +kernel
theorem dX3_allHours_17 : decode cX3_allHours 17 = .ok (.iadd, 1) := by decide +kernel
theorem dX3_allHours_18 : decode cX3_allHours 18 = .ok (.istore_n 2, 1) := by decide +kernel
theorem dX3_allHours_19 : decode cX3_allHours 19 = .ok (.iinc 3 1, 3) := by decide +kernel
theorem dX3_allHours_22 : decode cX3_allHours 22 = .ok (.goto (-18), 3) := by decide +kernel
theorem dX3_allHours_25 : decode cX3_allHours 25 = .ok (.iload_n 2, 1) := by decide +kernel
theorem dX3_allHours_26 : decode cX3_allHours 26 = .ok (.ireturn, 1) := by decide +kernel
theorem dX3_train_0 : decode cX3_train 0 = .ok (.iconst 0, 1) := by decide +kernel
theorem dX3_train_1 : decode cX3_train 1 = .ok (.istore 4, 2) := by decide +kernel
theorem dX3_train_3 : decode cX3_train 3 = .ok (.iconst 0, 1) := by decide +kernel
theorem dX3_train_4 : decode cX3_train 4 = .ok (.istore 5, 2) := by decide +kernel
theorem dX3_train_6 : decode cX3_train 6 = .ok (.iload 5, 2) := by decide +kernel
theorem dX3_train_8 : decode cX3_train 8 = .ok (.aload_n 0, 1) := by decide +kernel
theorem dX3_train_9 : decode cX3_train 9 = .ok (.getfield 30, 3) := by decide +kernel
theorem dX3_train_12 : decode cX3_train 12 = .ok (.if_icmp .ge 39, 3) := by decide +kernel
theorem dX3_train_15 : decode cX3_train 15 = .ok (.aload_n 0, 1) := by decide +kernel
theorem dX3_train_16 : decode cX3_train 16 = .ok (.getfield 9, 3) := by decide +kernel
theorem dX3_train_19 : decode cX3_train 19 = .ok (.iload 5, 2) := by decide +kernel
theorem dX3_train_21 : decode cX3_train 21 = .ok (.iaload, 1) := by decide +kernel
theorem dX3_train_22 : decode cX3_train 22 = .ok (.iload_n 1, 1) := by decide +kernel
theorem dX3_train_23 : decode cX3_train 23 = .ok (.if_icmp .ne 22, 3) := by decide +kernel
theorem dX3_train_26 : decode cX3_train 26 = .ok (.aload_n 0, 1) := by decide +kernel
theorem dX3_train_27 : decode cX3_train 27 = .ok (.getfield 27, 3) := by decide +kernel
theorem dX3_train_30 : decode cX3_train 30 = .ok (.iload 5, 2) := by decide +kernel
theorem dX3_train_32 : decode cX3_train 32 = .ok (.bipush 10, 2) := by decide +kernel
theorem dX3_train_34 : decode cX3_train 34 = .ok (.imul, 1) := by decide +kernel
theorem dX3_train_35 : decode cX3_train 35 = .ok (.iload_n 2, 1) := by decide +kernel
theorem dX3_train_36 : decode cX3_train 36 = .ok (.iadd, 1) := by decide +kernel
theorem dX3_train_37 : decode cX3_train 37 = .ok (.dup2, 1) := by decide +kernel
theorem dX3_train_38 : decode cX3_train 38 = .ok (.iaload, 1) := by decide +kernel
theorem dX3_train_39 : decode cX3_train 39 = .ok (.iload_n 3, 1) := by decide +kernel
theorem dX3_train_40 : decode cX3_train 40 = .ok (.iadd, 1) := by decide +kernel
theorem dX3_train_41 : decode cX3_train 41 = .ok (.iastore, 1) := by decide +kernel
theorem dX3_train_42 : decode cX3_train 42 = .ok (.iinc 4 1, 3) := by decide +kernel
theorem dX3_train_45 : decode cX3_train 45 = .ok (.iinc 5 1, 3) := by decide +kernel
theorem dX3_train_48 : decode cX3_train 48 = .ok (.goto (-42), 3) := by decide +kernel
theorem dX3_train_51 : decode cX3_train 51 = .ok (.iload 4, 2) := by decide +kernel
theorem dX3_train_53 : decode cX3_train 53 = .ok (.ireturn, 1) := by decide +kernel
theorem dX3_everyone_0 : decode cX3_everyone 0 = .ok (.lconst 1, 1) := by decide +kernel
theorem dX3_everyone_1 : decode cX3_everyone 1 = .ok (.aload_n 0, 1) := by decide +kernel
theorem dX3_everyone_2 : decode cX3_everyone 2 = .ok (.getfield 30, 3) := by decide +kernel
theorem dX3_everyone_5 : decode cX3_everyone 5 = .ok (.lshl, 1) := by decide +kernel
theorem dX3_everyone_6 : decode cX3_everyone 6 = .ok (.lconst 1, 1) := by decide +kernel
theorem dX3_everyone_7 : decode cX3_everyone 7 = .ok (.lsub, 1) := by decide +kernel
theorem dX3_everyone_8 : decode cX3_everyone 8 = .ok (.lreturn, 1) := by decide +kernel
theorem dX3_membersOf_0 : decode cX3_membersOf 0 = .ok (.lconst 0, 1) := by decide +kernel
theorem dX3_membersOf_1 : decode cX3_membersOf 1 = .ok (.lstore_n 2, 1) := by decide +kernel
theorem dX3_membersOf_2 : decode cX3_membersOf 2 = .ok (.iconst 0, 1) := by decide +kernel
theorem dX3_membersOf_3 : decode cX3_membersOf 3 = .ok (.istore 4, 2) := by decide +kernel
theorem dX3_membersOf_5 : decode cX3_membersOf 5 = .ok (.iload 4, 2) := by decide +kernel
theorem dX3_membersOf_7 : decode cX3_membersOf 7 = .ok (.aload_n 0, 1) := by decide +kernel
theorem dX3_membersOf_8 : decode cX3_membersOf 8 = .ok (.getfield 30, 3) := by decide +kernel
theorem dX3_membersOf_11 : decode cX3_membersOf 11 = .ok (.if_icmp .ge 27, 3) := by decide +kernel
theorem dX3_membersOf_14 : decode cX3_membersOf 14 = .ok (.aload_n 0, 1) := by decide +kernel
theorem dX3_membersOf_15 : decode cX3_membersOf 15 = .ok (.getfield 9, 3) := by decide +kernel
theorem dX3_membersOf_18 : decode cX3_membersOf 18 = .ok (.iload 4, 2) := by decide +kernel
theorem dX3_membersOf_20 : decode cX3_membersOf 20 = .ok (.iaload, 1) := by decide +kernel
theorem dX3_membersOf_21 : decode cX3_membersOf 21 = .ok (.iload_n 1, 1) := by decide +kernel
theorem dX3_membersOf_22 : decode cX3_membersOf 22 = .ok (.if_icmp .ne 10, 3) := by decide +kernel
theorem dX3_membersOf_25 : decode cX3_membersOf 25 = .ok (.lload_n 2, 1) := by decide +kernel
theorem dX3_membersOf_26 : decode cX3_membersOf 26 = .ok (.lconst 1, 1) := by decide +kernel
theorem dX3_membersOf_27 : decode cX3_membersOf 27 = .ok (.iload 4, 2) := by decide +kernel
theorem dX3_membersOf_29 : decode cX3_membersOf 29 = .ok (.lshl, 1) := by decide +kernel
theorem dX3_membersOf_30 : decode cX3_membersOf 30 = .ok (.lor, 1) := by decide +kernel
theorem dX3_membersOf_31 : decode cX3_membersOf 31 = .ok (.lstore_n 2, 1) := by decide +kernel
theorem dX3_membersOf_32 : decode cX3_membersOf 32 = .ok (.iinc 4 1, 3) := by decide +kernel
theorem dX3_membersOf_35 : decode cX3_membersOf 35 = .ok (.goto (-30), 3) := by decide +kernel
theorem dX3_membersOf_38 : decode cX3_membersOf 38 = .ok (.lload_n 2, 1) := by decide +kernel
theorem dX3_membersOf_39 : decode cX3_membersOf 39 = .ok (.lreturn, 1) := by decide +kernel
theorem dX3_agedAtLeast_0 : decode cX3_agedAtLeast 0 = .ok (.lconst 0, 1) := by decide +kernel
theorem dX3_agedAtLeast_1 : decode cX3_agedAtLeast 1 = .ok (.lstore_n 2, 1) := by decide +kernel
theorem dX3_agedAtLeast_2 : decode cX3_agedAtLeast 2 = .ok (.iconst 0, 1) := by decide +kernel
theorem dX3_agedAtLeast_3 : decode cX3_agedAtLeast 3 = .ok (.istore 4, 2) := by decide +kernel
theorem dX3_agedAtLeast_5 : decode cX3_agedAtLeast 5 = .ok (.iload 4, 2) := by decide +kernel
theorem dX3_agedAtLeast_7 : decode cX3_agedAtLeast 7 = .ok (.aload_n 0, 1) := by decide +kernel
theorem dX3_agedAtLeast_8 : decode cX3_agedAtLeast 8 = .ok (.getfield 30, 3) := by decide +kernel
theorem dX3_agedAtLeast_11 : decode cX3_agedAtLeast 11 = .ok (.if_icmp .ge 27, 3) := by decide +kernel
theorem dX3_agedAtLeast_14 : decode cX3_agedAtLeast 14 = .ok (.aload_n 0, 1) := by decide +kernel
theorem dX3_agedAtLeast_15 : decode cX3_agedAtLeast 15 = .ok (.getfield 15, 3) := by decide +kernel
theorem dX3_agedAtLeast_18 : decode cX3_agedAtLeast 18 = .ok (.iload 4, 2) := by decide +kernel
theorem dX3_agedAtLeast_20 : decode cX3_agedAtLeast 20 = .ok (.iaload, 1) := by decide +kernel
theorem dX3_agedAtLeast_21 : decode cX3_agedAtLeast 21 = .ok (.iload_n 1, 1) := by decide +kernel
theorem dX3_agedAtLeast_22 : decode cX3_agedAtLeast 22 = .ok (.if_icmp .lt 10, 3) := by decide +kernel
theorem dX3_agedAtLeast_25 : decode cX3_agedAtLeast 25 = .ok (.lload_n 2, 1) := by decide +kernel
theorem dX3_agedAtLeast_26 : decode cX3_agedAtLeast 26 = .ok (.lconst 1, 1) := by decide +kernel
theorem dX3_agedAtLeast_27 : decode cX3_agedAtLeast 27 = .ok (.iload 4, 2) := by decide +kernel
theorem dX3_agedAtLeast_29 : decode cX3_agedAtLeast 29 = .ok (.lshl, 1) := by decide +kernel
theorem dX3_agedAtLeast_30 : decode cX3_agedAtLeast 30 = .ok (.lor, 1) := by decide +kernel
theorem dX3_agedAtLeast_31 : decode cX3_agedAtLeast 31 = .ok (.lstore_n 2, 1) := by decide +kernel
theorem dX3_agedAtLeast_32 : decode cX3_agedAtLeast 32 = .ok (.iinc 4 1, 3) := by decide +kernel
theorem dX3_agedAtLeast_35 : decode cX3_agedAtLeast 35 = .ok (.goto (-30), 3) := by decide +kernel
theorem dX3_agedAtLeast_38 : decode cX3_agedAtLeast 38 = .ok (.lload_n 2, 1) := by decide +kernel
theorem dX3_agedAtLeast_39 : decode cX3_agedAtLeast 39 = .ok (.lreturn, 1) := by decide +kernel
theorem dX3_skilledIn_0 : decode cX3_skilledIn 0 = .ok (.lconst 0, 1) := by decide +kernel
theorem dX3_skilledIn_1 : decode cX3_skilledIn 1 = .ok (.lstore_n 2, 1) := by decide +kernel
theorem dX3_skilledIn_2 : decode cX3_skilledIn 2 = .ok (.iconst 0, 1) := by decide +kernel
theorem dX3_skilledIn_3 : decode cX3_skilledIn 3 = .ok (.istore 4, 2) := by decide +kernel
theorem dX3_skilledIn_5 : decode cX3_skilledIn 5 = .ok (.iload 4, 2) := by decide +kernel
theorem dX3_skilledIn_7 : decode cX3_skilledIn 7 = .ok (.aload_n 0, 1) := by decide +kernel
theorem dX3_skilledIn_8 : decode cX3_skilledIn 8 = .ok (.getfield 30, 3) := by decide +kernel
theorem dX3_skilledIn_11 : decode cX3_skilledIn 11 = .ok (.if_icmp .ge 30, 3) := by decide +kernel
theorem dX3_skilledIn_14 : decode cX3_skilledIn 14 = .ok (.aload_n 0, 1) := by decide +kernel
theorem dX3_skilledIn_15 : decode cX3_skilledIn 15 = .ok (.getfield 18, 3) := by decide +kernel
theorem dX3_skilledIn_18 : decode cX3_skilledIn 18 = .ok (.iload 4, 2) := by decide +kernel
theorem dX3_skilledIn_20 : decode cX3_skilledIn 20 = .ok (.iaload, 1) := by decide +kernel
theorem dX3_skilledIn_21 : decode cX3_skilledIn 21 = .ok (.iconst 1, 1) := by decide +kernel
theorem dX3_skilledIn_22 : decode cX3_skilledIn 22 = .ok (.iload_n 1, 1) := by decide +kernel
theorem dX3_skilledIn_23 : decode cX3_skilledIn 23 = .ok (.ishl, 1) := by decide +kernel
theorem dX3_skilledIn_24 : decode cX3_skilledIn 24 = .ok (.iand, 1) := by decide +kernel
theorem dX3_skilledIn_25 : decode cX3_skilledIn 25 = .ok (.ifCond .eq 10, 3) := by decide +kernel
theorem dX3_skilledIn_28 : decode cX3_skilledIn 28 = .ok (.lload_n 2, 1) := by decide +kernel
theorem dX3_skilledIn_29 : decode cX3_skilledIn 29 = .ok (.lconst 1, 1) := by decide +kernel
theorem dX3_skilledIn_30 : decode cX3_skilledIn 30 = .ok (.iload 4, 2) := by decide +kernel
theorem dX3_skilledIn_32 : decode cX3_skilledIn 32 = .ok (.lshl, 1) := by decide +kernel
theorem dX3_skilledIn_33 : decode cX3_skilledIn 33 = .ok (.lor, 1) := by decide +kernel
theorem dX3_skilledIn_34 : decode cX3_skilledIn 34 = .ok (.lstore_n 2, 1) := by decide +kernel
theorem dX3_skilledIn_35 : decode cX3_skilledIn 35 = .ok (.iinc 4 1, 3) := by decide +kernel
theorem dX3_skilledIn_38 : decode cX3_skilledIn 38 = .ok (.goto (-33), 3) := by decide +kernel
theorem dX3_skilledIn_41 : decode cX3_skilledIn 41 = .ok (.lload_n 2, 1) := by decide +kernel
theorem dX3_skilledIn_42 : decode cX3_skilledIn 42 = .ok (.lreturn, 1) := by decide +kernel
theorem dX3_paceOf_0 : decode cX3_paceOf 0 = .ok (.bipush 12, 2) := by decide +kernel
theorem dX3_paceOf_2 : decode cX3_paceOf 2 = .ok (.iconst 0, 1) := by decide +kernel
theorem dX3_paceOf_3 : decode cX3_paceOf 3 = .ok (.bipush 14, 2) := by decide +kernel
theorem dX3_paceOf_5 : decode cX3_paceOf 5 = .ok (.aload_n 0, 1) := by decide +kernel
theorem dX3_paceOf_6 : decode cX3_paceOf 6 = .ok (.getfield 15, 3) := by decide +kernel
theorem dX3_paceOf_9 : decode cX3_paceOf 9 = .ok (.iload_n 1, 1) := by decide +kernel
theorem dX3_paceOf_10 : decode cX3_paceOf 10 = .ok (.iaload, 1) := by decide +kernel
theorem dX3_paceOf_11 : decode cX3_paceOf 11 = .ok (.isub, 1) := by decide +kernel
theorem dX3_paceOf_12 : decode cX3_paceOf 12 = .ok (.invokestatic 38, 3) := by decide +kernel
theorem dX3_paceOf_15 : decode cX3_paceOf 15 = .ok (.iadd, 1) := by decide +kernel
theorem dX3_paceOf_16 : decode cX3_paceOf 16 = .ok (.istore_n 2, 1) := by decide +kernel
theorem dX3_paceOf_17 : decode cX3_paceOf 17 = .ok (.aload_n 0, 1) := by decide +kernel
theorem dX3_paceOf_18 : decode cX3_paceOf 18 = .ok (.getfield 18, 3) := by decide +kernel
theorem dX3_paceOf_21 : decode cX3_paceOf 21 = .ok (.iload_n 1, 1) := by decide +kernel
theorem dX3_paceOf_22 : decode cX3_paceOf 22 = .ok (.iaload, 1) := by decide +kernel
theorem dX3_paceOf_23 : decode cX3_paceOf 23 = .ok (.iconst 1, 1) := by decide +kernel
theorem dX3_paceOf_24 : decode cX3_paceOf 24 = .ok (.iand, 1) := by decide +kernel
theorem dX3_paceOf_25 : decode cX3_paceOf 25 = .ok (.ifCond .eq 9, 3) := by decide +kernel
theorem dX3_paceOf_28 : decode cX3_paceOf 28 = .ok (.iload_n 2, 1) := by decide +kernel
theorem dX3_paceOf_29 : decode cX3_paceOf 29 = .ok (.iconst 2, 1) := by decide +kernel
theorem dX3_paceOf_30 : decode cX3_paceOf 30 = .ok (.isub, 1) := by decide +kernel
theorem dX3_paceOf_31 : decode cX3_paceOf 31 = .ok (.goto 4, 3) := by decide +kernel
theorem dX3_paceOf_34 : decode cX3_paceOf 34 = .ok (.iload_n 2, 1) := by decide +kernel
theorem dX3_paceOf_35 : decode cX3_paceOf 35 = .ok (.ireturn, 1) := by decide +kernel
set_option maxRecDepth 20000 in
theorem ggX3_slowestPace_X3_paceOf : GoodIn wsX3_slowestPace wsX3_paceOf := goodIn_r _ [10, 11, 2, 3, 4, 5, 12, 13, 14, 15, 16, 17, 18, 19, 20] (by decide +kernel) (by decide +kernel)
set_option maxRecDepth 20000 in
theorem gX3_slowestPace_X3_paceOf : GoodIn wsX3_slowestPace (wsV RX3 43 RX3 yX3_paceOf wsX3_paceOf) := goodIn_app (goodIn_of _ (by decide +kernel)) ggX3_slowestPace_X3_paceOf
theorem dX3_slowestPace_0 : decode cX3_slowestPace 0 = .ok (.iconst 0, 1) := by decide +kernel
theorem dX3_slowestPace_1 : decode cX3_slowestPace 1 = .ok (.istore_n 3, 1) := by decide +kernel
theorem dX3_slowestPace_2 : decode cX3_slowestPace 2 = .ok (.iconst 0, 1) := by decide +kernel
theorem dX3_slowestPace_3 : decode cX3_slowestPace 3 = .ok (.istore 4, 2) := by decide +kernel
theorem dX3_slowestPace_5 : decode cX3_slowestPace 5 = .ok (.iload 4, 2) := by decide +kernel
theorem dX3_slowestPace_7 : decode cX3_slowestPace 7 = .ok (.aload_n 0, 1) := by decide +kernel
theorem dX3_slowestPace_8 : decode cX3_slowestPace 8 = .ok (.getfield 30, 3) := by decide +kernel
theorem dX3_slowestPace_11 : decode cX3_slowestPace 11 = .ok (.if_icmp .ge 31, 3) := by decide +kernel
theorem dX3_slowestPace_14 : decode cX3_slowestPace 14 = .ok (.lload_n 1, 1) := by decide +kernel
theorem dX3_slowestPace_15 : decode cX3_slowestPace 15 = .ok (.lconst 1, 1) := by decide +kernel
theorem dX3_slowestPace_16 : decode cX3_slowestPace 16 = .ok (.iload 4, 2) := by decide +kernel
theorem dX3_slowestPace_18 : decode cX3_slowestPace 18 = .ok (.lshl, 1) := by decide +kernel
theorem dX3_slowestPace_19 : decode cX3_slowestPace 19 = .ok (.land, 1) := by decide +kernel
theorem dX3_slowestPace_20 : decode cX3_slowestPace 20 = .ok (.lconst 0, 1) := by decide +kernel
theorem dX3_slowestPace_21 : decode cX3_slowestPace 21 = .ok (.lcmp, 1) := by decide +kernel
theorem dX3_slowestPace_22 : decode cX3_slowestPace 22 = .ok (.ifCond .eq 14, 3) := by decide +kernel
theorem dX3_slowestPace_25 : decode cX3_slowestPace 25 = .ok (.iload_n 3, 1) := by decide +kernel
theorem dX3_slowestPace_26 : decode cX3_slowestPace 26 = .ok (.aload_n 0, 1) := by decide +kernel
theorem dX3_slowestPace_27 : decode cX3_slowestPace 27 = .ok (.iload 4, 2) := by decide +kernel
theorem dX3_slowestPace_29 : decode cX3_slowestPace 29 = .ok (.invokevirtual 43, 3) := by decide +kernel
theorem dX3_slowestPace_32 : decode cX3_slowestPace 32 = .ok (.invokestatic 38, 3) := by decide +kernel
theorem dX3_slowestPace_35 : decode cX3_slowestPace 35 = .ok (.istore_n 3, 1) := by decide +kernel
theorem dX3_slowestPace_36 : decode cX3_slowestPace 36 = .ok (.iinc 4 1, 3) := by decide +kernel
theorem dX3_slowestPace_39 : decode cX3_slowestPace 39 = .ok (.goto (-34), 3) := by decide +kernel
theorem dX3_slowestPace_42 : decode cX3_slowestPace 42 = .ok (.iload_n 3, 1) := by decide +kernel
theorem dX3_slowestPace_43 : decode cX3_slowestPace 43 = .ok (.ireturn, 1) := by decide +kernel
theorem dX4_init_0 : decode cX4_init 0 = .ok (.aload_n 0, 1) := by decide +kernel
theorem dX4_init_1 : decode cX4_init 1 = .ok (.invokespecial 3, 3) := by decide +kernel
theorem dX4_init_4 : decode cX4_init 4 = .ok (.aload_n 0, 1) := by decide +kernel
theorem dX4_init_5 : decode cX4_init 5 = .ok (.bipush 10, 2) := by decide +kernel
theorem dX4_init_7 : decode cX4_init 7 = .ok (.newarray .int, 2) := by decide +kernel
theorem dX4_init_9 : decode cX4_init 9 = .ok (.putfield 9, 3) := by decide +kernel
theorem dX4_init_12 : decode cX4_init 12 = .ok (.aload_n 0, 1) := by decide +kernel
theorem dX4_init_13 : decode cX4_init 13 = .ok (.bipush 10, 2) := by decide +kernel
theorem dX4_init_15 : decode cX4_init 15 = .ok (.newarray .long, 2) := by decide +kernel
theorem dX4_init_17 : decode cX4_init 17 = .ok (.putfield 15, 3) := by decide +kernel
theorem dX4_init_20 : decode cX4_init 20 = .ok (.return_, 1) := by decide +kernel
theorem dX4_pitch_0 : decode cX4_pitch 0 = .ok (.aload_n 0, 1) := by decide +kernel
theorem dX4_pitch_1 : decode cX4_pitch 1 = .ok (.getfield 19, 3) := by decide +kernel
theorem dX4_pitch_4 : decode cX4_pitch 4 = .ok (.istore_n 2, 1) := by decide +kernel
theorem dX4_pitch_5 : decode cX4_pitch 5 = .ok (.aload_n 0, 1) := by decide +kernel
theorem dX4_pitch_6 : decode cX4_pitch 6 = .ok (.getfield 9, 3) := by decide +kernel
theorem dX4_pitch_9 : decode cX4_pitch 9 = .ok (.iload_n 2, 1) := by decide +kernel
theorem dX4_pitch_10 : decode cX4_pitch 10 = .ok (.iload_n 1, 1) := by decide +kernel
theorem dX4_pitch_11 : decode cX4_pitch 11 = .ok (.iastore, 1) := by decide +kernel
theorem dX4_pitch_12 : decode cX4_pitch 12 = .ok (.aload_n 0, 1) := by decide +kernel
theorem dX4_pitch_13 : decode cX4_pitch 13 = .ok (.dup, 1) := by decide +kernel
theorem dX4_pitch_14 : decode cX4_pitch 14 = .ok (.getfield 19, 3) := by decide +kernel
theorem dX4_pitch_17 : decode cX4_pitch 17 = .ok (.iconst 1, 1) := by decide +kernel
theorem dX4_pitch_18 : decode cX4_pitch 18 = .ok (.iadd, 1) := by decide +kernel
theorem dX4_pitch_19 : decode cX4_pitch 19 = .ok (.putfield 19, 3) := by decide +kernel
theorem dX4_pitch_22 : decode cX4_pitch 22 = .ok (.iload_n 2, 1) := by decide +kernel
theorem dX4_pitch_23 : decode cX4_pitch 23 = .ok (.ireturn, 1) := by decide +kernel
theorem dX4_tentOf_0 : decode cX4_tentOf 0 = .ok (.iconst 0, 1) := by decide +kernel
theorem dX4_tentOf_1 : decode cX4_tentOf 1 = .ok (.istore_n 2, 1) := by decide +kernel
theorem dX4_tentOf_2 : decode cX4_tentOf 2 = .ok (.iload_n 2, 1) := by decide +kernel
theorem dX4_tentOf_3 : decode cX4_tentOf 3 = .ok (.aload_n 0, 1) := by decide +kernel
theorem dX4_tentOf_4 : decode cX4_tentOf 4 = .ok (.getfield 19, 3) := by decide +kernel
theorem dX4_tentOf_7 : decode cX4_tentOf 7 = .ok (.if_icmp .ge 26, 3) := by decide +kernel
theorem dX4_tentOf_10 : decode cX4_tentOf 10 = .ok (.aload_n 0, 1) := by decide +kernel
theorem dX4_tentOf_11 : decode cX4_tentOf 11 = .ok (.getfield 15, 3) := by decide +kernel
theorem dX4_tentOf_14 : decode cX4_tentOf 14 = .ok (.iload_n 2, 1) := by decide +kernel
theorem dX4_tentOf_15 : decode cX4_tentOf 15 = .ok (.laload, 1) := by decide +kernel
theorem dX4_tentOf_16 : decode cX4_tentOf 16 = .ok (.lconst 1, 1) := by decide +kernel
theorem dX4_tentOf_17 : decode cX4_tentOf 17 = .ok (.iload_n 1, 1) := by decide +kernel
theorem dX4_tentOf_18 : decode cX4_tentOf 18 = .ok (.lshl, 1) := by decide +kernel
theorem dX4_tentOf_19 : decode cX4_tentOf 19 = .ok (.land, 1) := by decide +kernel
theorem dX4_tentOf_20 : decode cX4_tentOf 20 = .ok (.lconst 0, 1) := by decide +kernel
theorem dX4_tentOf_21 : decode cX4_tentOf 21 = .ok (.lcmp, 1) := by decide +kernel
theorem dX4_tentOf_22 : decode cX4_tentOf 22 = .ok (.ifCond .eq 5, 3) := by decide +kernel
theorem dX4_tentOf_25 : decode cX4_tentOf 25 = .ok (.iload_n 2, 1) := by decide +kernel
theorem dX4_tentOf_26 : decode cX4_tentOf 26 = .ok (.ireturn, 1) := by decide +kernel
theorem dX4_tentOf_27 : decode cX4_tentOf 27 = .ok (.iinc 2 1, 3) := by decide +kernel
theorem dX4_tentOf_30 : decode cX4_tentOf 30 = .ok (.goto (-28), 3) := by decide +kernel
theorem dX4_tentOf_33 : decode cX4_tentOf 33 = .ok (.iconst (-1), 1) := by decide +kernel
theorem dX4_tentOf_34 : decode cX4_tentOf 34 = .ok (.ireturn, 1) := by decide +kernel
theorem dX4_leave_0 : decode cX4_leave 0 = .ok (.iload_n 1, 1) := by decide +kernel
theorem dX4_leave_1 : decode cX4_leave 1 = .ok (.iconst (-1), 1) := by decide +kernel
theorem dX4_leave_2 : decode cX4_leave 2 = .ok (.if_icmp .eq 19, 3) := by decide +kernel
theorem dX4_leave_5 : decode cX4_leave 5 = .ok (.aload_n 0, 1) := by decide +kernel
theorem dX4_leave_6 : decode cX4_leave 6 = .ok (.getfield 15, 3) := by decide +kernel
theorem dX4_leave_9 : decode cX4_leave 9 = .ok (.iload_n 1, 1) := by decide +kernel
theorem dX4_leave_10 : decode cX4_leave 10 = .ok (.dup2, 1) := by decide +kernel
theorem dX4_leave_11 : decode cX4_leave 11 = .ok (.laload, 1) := by decide +kernel
theorem dX4_leave_12 : decode cX4_leave 12 = .ok (.lconst 1, 1) := by decide +kernel
theorem dX4_leave_13 : decode cX4_leave 13 = .ok (.iload_n 2, 1) := by decide +kernel
theorem dX4_leave_14 : decode cX4_leave 14 = .ok (.lshl, 1) := by decide +kernel
theorem dX4_leave_15 : decode cX4_leave 15 = .ok (.ldc2_w 23, 3) := by decide +kernel
theorem dX4_leave_18 : decode cX4_leave 18 = .ok (.lxor, 1) := by decide +kernel
theorem dX4_leave_19 : decode cX4_leave 19 = .ok (.land, 1) := by decide +kernel
theorem dX4_leave_20 : decode cX4_leave 20 = .ok (.lastore, 1) := by decide +kernel
theorem dX4_leave_21 : decode cX4_leave 21 = .ok (.return_, 1) := by decide +kernel
theorem dX4_enter_0 : decode cX4_enter 0 = .ok (.iload_n 1, 1) := by decide +kernel
theorem dX4_enter_1 : decode cX4_enter 1 = .ok (.iconst (-1), 1) := by decide +kernel
theorem dX4_enter_2 : decode cX4_enter 2 = .ok (.if_icmp .eq 15, 3) := by decide +kernel
theorem dX4_enter_5 : decode cX4_enter 5 = .ok (.aload_n 0, 1) := by decide +kernel
theorem dX4_enter_6 : decode cX4_enter 6 = .ok (.getfield 15, 3) := by decide +kernel
theorem dX4_enter_9 : decode cX4_enter 9 = .ok (.iload_n 1, 1) := by decide +kernel
theorem dX4_enter_10 : decode cX4_enter 10 = .ok (.dup2, 1) := by decide +kernel
theorem dX4_enter_11 : decode cX4_enter 11 = .ok (.laload, 1) := by decide +kernel
theorem dX4_enter_12 : decode cX4_enter 12 = .ok (.lconst 1, 1) := by decide +kernel
theorem dX4_enter_13 : decode cX4_enter 13 = .ok (.iload_n 2, 1) := by decide +kernel
theorem dX4_enter_14 : decode cX4_enter 14 = .ok (.lshl, 1) := by decide +kernel
theorem dX4_enter_15 : decode cX4_enter 15 = .ok (.lor, 1) := by decide +kernel
theorem dX4_enter_16 : decode cX4_enter 16 = .ok (.lastore, 1) := by decide +kernel
theorem dX4_enter_17 : decode cX4_enter 17 = .ok (.return_, 1) := by decide +kernel
set_option maxRecDepth 20000 in
theorem ggX4_allSleepers_J13_bitCount_95d88 : GoodIn wsX4_allSleepers wsJ13_bitCount_95d88 := goodIn_r _ [6, 7, 8, 9] (by decide +kernel) (by decide +kernel)
set_option maxRecDepth 20000 in
theorem gX4_allSleepers_J13_bitCount_95d88 : GoodIn wsX4_allSleepers (va_wsS RX4 25 yJ13_bitCount_95d88 wsJ13_bitCount_95d88) := goodIn_app (goodIn_of _ (by decide +kernel)) ggX4_allSleepers_J13_bitCount_95d88
theorem dX4_allSleepers_0 : decode cX4_allSleepers 0 = .ok (.iconst 0, 1) := by decide +kernel
theorem dX4_allSleepers_1 : decode cX4_allSleepers 1 = .ok (.istore_n 1, 1) := by decide +kernel
theorem dX4_allSleepers_2 : decode cX4_allSleepers 2 = .ok (.iconst 0, 1) := by decide +kernel
theorem dX4_allSleepers_3 : decode cX4_allSleepers 3 = .ok (.istore_n 2, 1) := by decide +kernel
theorem dX4_allSleepers_4 : decode cX4_allSleepers 4 = .ok (.iload_n 2, 1) := by decide +kernel
theorem dX4_allSleepers_5 : decode cX4_allSleepers 5 = .ok (.aload_n 0, 1) := by decide +kernel
theorem dX4_allSleepers_6 : decode cX4_allSleepers 6 = .ok (.getfield 19, 3) := by decide +kernel
theorem dX4_allSleepers_9 : decode cX4_allSleepers 9 = .ok (.if_icmp .ge 21, 3) := by decide +kernel
theorem dX4_allSleepers_12 : decode cX4_allSleepers 12 = .ok (.iload_n 1, 1) := by decide +kernel
theorem dX4_allSleepers_13 : decode cX4_allSleepers 13 = .ok (.aload_n 0, 1) := by decide +kernel
theorem dX4_allSleepers_14 : decode cX4_allSleepers 14 = .ok (.getfield 15, 3) := by decide +kernel
theorem dX4_allSleepers_17 : decode cX4_allSleepers 17 = .ok (.iload_n 2, 1) := by decide +kernel
theorem dX4_allSleepers_18 : decode cX4_allSleepers 18 = .ok (.laload, 1) := by decide +kernel
theorem dX4_allSleepers_19 : decode cX4_allSleepers 19 = .ok (.invokestatic 25, 3) := by decide +kernel
theorem dX4_allSleepers_22 : decode cX4_allSleepers 22 = .ok (.iadd, 1) := by decide +kernel
theorem dX4_allSleepers_23 : decode cX4_allSleepers 23 = .ok (.istore_n 1, 1) := by decide +kernel
theorem dX4_allSleepers_24 : decode cX4_allSleepers 24 = .ok (.iinc 2 1, 3) := by decide +kernel
theorem dX4_allSleepers_27 : decode cX4_allSleepers 27 = .ok (.goto (-23), 3) := by decide +kernel
theorem dX4_allSleepers_30 : decode cX4_allSleepers 30 = .ok (.iload_n 1, 1) := by decide +kernel
theorem dX4_allSleepers_31 : decode cX4_allSleepers 31 = .ok (.ireturn, 1) := by decide +kernel
set_option maxRecDepth 20000 in
theorem ggX4_canTake_J13_bitCount_95d88 : GoodIn wsX4_canTake wsJ13_bitCount_95d88 := goodIn_r _ [6, 7, 8, 9] (by decide +kernel) (by decide +kernel)
set_option maxRecDepth 20000 in
theorem gX4_canTake_J13_bitCount_95d88 : GoodIn wsX4_canTake (va_wsS RX4 25 yJ13_bitCount_95d88 wsJ13_bitCount_95d88) := goodIn_app (goodIn_of _ (by decide +kernel)) ggX4_canTake_J13_bitCount_95d88
set_option maxRecDepth 20000 in
theorem ggX4_canTake_X4_agesFit : GoodIn wsX4_canTake wsX4_agesFit := goodIn_r _ [14, 15, 1, 16, 17, 18, 19, 20, 24, 25, 26, 27, 28, 29, 30, 31, 21, 22, 23] (by decide +kernel) (by decide +kernel)
set_option maxRecDepth 20000 in
theorem gX4_canTake_X4_agesFit : GoodIn wsX4_canTake (wsV RX4 31 RX4 yX4_agesFit wsX4_agesFit) := goodIn_app (goodIn_of _ (by decide +kernel)) ggX4_canTake_X4_agesFit
theorem dX4_canTake_0 : decode cX4_canTake 0 = .ok (.aload_n 0, 1) := by decide +kernel
theorem dX4_canTake_1 : decode cX4_canTake 1 = .ok (.getfield 15, 3) := by decide +kernel
theorem dX4_canTake_4 : decode cX4_canTake 4 = .ok (.iload_n 1, 1) := by decide +kernel
theorem dX4_canTake_5 : decode cX4_canTake 5 = .ok (.laload, 1) := by decide +kernel
theorem dX4_canTake_6 : decode cX4_canTake 6 = .ok (.invokestatic 25, 3) := by decide +kernel
theorem dX4_canTake_9 : decode cX4_canTake 9 = .ok (.aload_n 0, 1) := by decide +kernel
theorem dX4_canTake_10 : decode cX4_canTake 10 = .ok (.getfield 9, 3) := by decide +kernel
theorem dX4_canTake_13 : decode cX4_canTake 13 = .ok (.iload_n 1, 1) := by decide +kernel
theorem dX4_canTake_14 : decode cX4_canTake 14 = .ok (.iaload, 1) := by decide +kernel
theorem dX4_canTake_15 : decode cX4_canTake 15 = .ok (.if_icmp .ge 17, 3) := by decide +kernel
theorem dX4_canTake_18 : decode cX4_canTake 18 = .ok (.aload_n 0, 1) := by decide +kernel
theorem dX4_canTake_19 : decode cX4_canTake 19 = .ok (.iload_n 1, 1) := by decide +kernel
theorem dX4_canTake_20 : decode cX4_canTake 20 = .ok (.iload_n 2, 1) := by decide +kernel
theorem dX4_canTake_21 : decode cX4_canTake 21 = .ok (.aload_n 3, 1) := by decide +kernel
theorem dX4_canTake_22 : decode cX4_canTake 22 = .ok (.invokevirtual 31, 3) := by decide +kernel
theorem dX4_canTake_25 : decode cX4_canTake 25 = .ok (.ifCond .eq 7, 3) := by decide +kernel
theorem dX4_canTake_28 : decode cX4_canTake 28 = .ok (.iconst 1, 1) := by decide +kernel
theorem dX4_canTake_29 : decode cX4_canTake 29 = .ok (.goto 4, 3) := by decide +kernel
theorem dX4_canTake_32 : decode cX4_canTake 32 = .ok (.iconst 0, 1) := by decide +kernel
theorem dX4_canTake_33 : decode cX4_canTake 33 = .ok (.ireturn, 1) := by decide +kernel
theorem dX4_agesFit_0 : decode cX4_agesFit 0 = .ok (.iconst 0, 1) := by decide +kernel
theorem dX4_agesFit_1 : decode cX4_agesFit 1 = .ok (.istore 4, 2) := by decide +kernel
theorem dX4_agesFit_3 : decode cX4_agesFit 3 = .ok (.iload 4, 2) := by decide +kernel
theorem dX4_agesFit_5 : decode cX4_agesFit 5 = .ok (.aload_n 3, 1) := by decide +kernel
theorem dX4_agesFit_6 : decode cX4_agesFit 6 = .ok (.getfield 35, 3) := by decide +kernel
theorem dX4_agesFit_9 : decode cX4_agesFit 9 = .ok (.if_icmp .ge 60, 3) := by decide +kernel
theorem dX4_agesFit_12 : decode cX4_agesFit 12 = .ok (.aload_n 0, 1) := by decide +kernel
theorem dX4_agesFit_13 : decode cX4_agesFit 13 = .ok (.getfield 15, 3) := by decide +kernel
theorem dX4_agesFit_16 : decode cX4_agesFit 16 = .ok (.iload_n 1, 1) := by decide +kernel
theorem dX4_agesFit_17 : decode cX4_agesFit 17 = .ok (.laload, 1) := by decide +kernel
theorem dX4_agesFit_18 : decode cX4_agesFit 18 = .ok (.lconst 1, 1) := by decide +kernel
theorem dX4_agesFit_19 : decode cX4_agesFit 19 = .ok (.iload 4, 2) := by decide +kernel
theorem dX4_agesFit_21 : decode cX4_agesFit 21 = .ok (.lshl, 1) := by decide +kernel
theorem dX4_agesFit_22 : decode cX4_agesFit 22 = .ok (.land, 1) := by decide +kernel
end
section
theorem dX4_agesFit_23 : decode cX4_agesFit 23 = .ok (.lconst 0, 1) := by decide +kernel
theorem dX4_agesFit_24 : decode cX4_agesFit 24 = .ok (.lcmp, 1) := by decide +kernel
theorem dX4_agesFit_25 : decode cX4_agesFit 25 = .ok (.ifCond .eq 7, 3) := by decide +kernel
theorem dX4_agesFit_28 : decode cX4_agesFit 28 = .ok (.iconst 1, 1) := by decide +kernel
theorem dX4_agesFit_29 : decode cX4_agesFit 29 = .ok (.goto 4, 3) := by decide +kernel
theorem dX4_agesFit_32 : decode cX4_agesFit 32 = .ok (.iconst 0, 1) := by decide +kernel
theorem dX4_agesFit_33 : decode cX4_agesFit 33 = .ok (.istore 5, 2) := by decide +kernel
theorem dX4_agesFit_35 : decode cX4_agesFit 35 = .ok (.iload 5, 2) := by decide +kernel
theorem dX4_agesFit_37 : decode cX4_agesFit 37 = .ok (.ifCond .eq 26, 3) := by decide +kernel
theorem dX4_agesFit_40 : decode cX4_agesFit 40 = .ok (.aload_n 3, 1) := by decide +kernel
theorem dX4_agesFit_41 : decode cX4_agesFit 41 = .ok (.getfield 40, 3) := by decide +kernel
theorem dX4_agesFit_44 : decode cX4_agesFit 44 = .ok (.iload 4, 2) := by decide +kernel
theorem dX4_agesFit_46 : decode cX4_agesFit 46 = .ok (.iaload, 1) := by decide +kernel
theorem dX4_agesFit_47 : decode cX4_agesFit 47 = .ok (.aload_n 3, 1) := by decide +kernel
theorem dX4_agesFit_48 : decode cX4_agesFit 48 = .ok (.getfield 40, 3) := by decide +kernel
theorem dX4_agesFit_51 : decode cX4_agesFit 51 = .ok (.iload_n 2, 1) := by decide +kernel
theorem dX4_agesFit_52 : decode cX4_agesFit 52 = .ok (.iaload, 1) := by decide +kernel
theorem dX4_agesFit_53 : decode cX4_agesFit 53 = .ok (.isub, 1) := by decide +kernel
theorem dX4_agesFit_54 : decode cX4_agesFit 54 = .ok (.invokestatic 43, 3) := by decide +kernel
theorem dX4_agesFit_57 : decode cX4_agesFit 57 = .ok (.iconst 3, 1) := by decide +kernel
theorem dX4_agesFit_58 : decode cX4_agesFit 58 = .ok (.if_icmp .le 5, 3) := by decide +kernel
theorem dX4_agesFit_61 : decode cX4_agesFit 61 = .ok (.iconst 0, 1) := by decide +kernel
theorem dX4_agesFit_62 : decode cX4_agesFit 62 = .ok (.ireturn, 1) := by decide +kernel
theorem dX4_agesFit_63 : decode cX4_agesFit 63 = .ok (.iinc 4 1, 3) := by decide +kernel
theorem dX4_agesFit_66 : decode cX4_agesFit 66 = .ok (.goto (-63), 3) := by decide +kernel
theorem dX4_agesFit_69 : decode cX4_agesFit 69 = .ok (.iconst 1, 1) := by decide +kernel
theorem dX4_agesFit_70 : decode cX4_agesFit 70 = .ok (.ireturn, 1) := by decide +kernel
set_option maxRecDepth 20000 in
theorem ggX4_bestFor_X3_membersOf : GoodIn wsX4_bestFor wsX3_membersOf := goodIn_r _ [7, 8, 9, 38, 39, 40, 41, 42, 43, 44, 45] (by decide +kernel) (by decide +kernel)
set_option maxRecDepth 20000 in
theorem gX4_bestFor_X3_membersOf : GoodIn wsX4_bestFor (wsV RX4 52 RX3 yX3_membersOf wsX3_membersOf) := goodIn_app (goodIn_of _ (by decide +kernel)) ggX4_bestFor_X3_membersOf
set_option maxRecDepth 20000 in
theorem ggX4_bestFor_X4_rankOf : GoodIn wsX4_bestFor wsX4_rankOf := goodIn_r _ [14, 15, 16, 17, 18, 19, 20, 21, 22, 46, 47, 48] (by decide +kernel) (by decide +kernel)
set_option maxRecDepth 20000 in
theorem gX4_bestFor_X4_rankOf : GoodIn wsX4_bestFor (wsV RX4 56 RX4 yX4_rankOf wsX4_rankOf) := goodIn_app (goodIn_of _ (by decide +kernel)) ggX4_bestFor_X4_rankOf
set_option maxRecDepth 20000 in
theorem ggX4_bestFor_X4_canTake : GoodIn wsX4_bestFor wsX4_canTake := goodIn_r _ [26, 15, 27, 16, 17, 18, 19, 20, 21, 22, 28, 29, 30, 13, 31, 32, 33, 34, 35, 36, 37, 46, 47, 48, 38, 39, 40, 41, 42, 43, 44, 45] (by decide +kernel) (by decide +kernel)
set_option maxRecDepth 20000 in
theorem gX4_bestFor_X4_canTake : GoodIn wsX4_bestFor (wsV RX4 60 RX4 yX4_canTake wsX4_canTake) := goodIn_app (goodIn_of _ (by decide +kernel)) ggX4_bestFor_X4_canTake
theorem dX4_bestFor_0 : decode cX4_bestFor 0 = .ok (.aload_n 2, 1) := by decide +kernel
theorem dX4_bestFor_1 : decode cX4_bestFor 1 = .ok (.aload_n 2, 1) := by decide +kernel
theorem dX4_bestFor_2 : decode cX4_bestFor 2 = .ok (.getfield 49, 3) := by decide +kernel
theorem dX4_bestFor_5 : decode cX4_bestFor 5 = .ok (.iload_n 1, 1) := by decide +kernel
theorem dX4_bestFor_6 : decode cX4_bestFor 6 = .ok (.iaload, 1) := by decide +kernel
theorem dX4_bestFor_7 : decode cX4_bestFor 7 = .ok (.invokevirtual 52, 3) := by decide +kernel
theorem dX4_bestFor_10 : decode cX4_bestFor 10 = .ok (.lstore_n 3, 1) := by decide +kernel
theorem dX4_bestFor_11 : decode cX4_bestFor 11 = .ok (.iconst (-1), 1) := by decide +kernel
theorem dX4_bestFor_12 : decode cX4_bestFor 12 = .ok (.istore 5, 2) := by decide +kernel
theorem dX4_bestFor_14 : decode cX4_bestFor 14 = .ok (.iconst (-1), 1) := by decide +kernel
theorem dX4_bestFor_15 : decode cX4_bestFor 15 = .ok (.istore 6, 2) := by decide +kernel
theorem dX4_bestFor_17 : decode cX4_bestFor 17 = .ok (.iconst 0, 1) := by decide +kernel
theorem dX4_bestFor_18 : decode cX4_bestFor 18 = .ok (.istore 7, 2) := by decide +kernel
theorem dX4_bestFor_20 : decode cX4_bestFor 20 = .ok (.iload 7, 2) := by decide +kernel
theorem dX4_bestFor_22 : decode cX4_bestFor 22 = .ok (.aload_n 0, 1) := by decide +kernel
theorem dX4_bestFor_23 : decode cX4_bestFor 23 = .ok (.getfield 19, 3) := by decide +kernel
theorem dX4_bestFor_26 : decode cX4_bestFor 26 = .ok (.if_icmp .ge 44, 3) := by decide +kernel
theorem dX4_bestFor_29 : decode cX4_bestFor 29 = .ok (.aload_n 0, 1) := by decide +kernel
theorem dX4_bestFor_30 : decode cX4_bestFor 30 = .ok (.iload 7, 2) := by decide +kernel
theorem dX4_bestFor_32 : decode cX4_bestFor 32 = .ok (.lload_n 3, 1) := by decide +kernel
theorem dX4_bestFor_33 : decode cX4_bestFor 33 = .ok (.invokevirtual 56, 3) := by decide +kernel
theorem dX4_bestFor_36 : decode cX4_bestFor 36 = .ok (.istore 8, 2) := by decide +kernel
theorem dX4_bestFor_38 : decode cX4_bestFor 38 = .ok (.iload 8, 2) := by decide +kernel
theorem dX4_bestFor_40 : decode cX4_bestFor 40 = .ok (.iload 6, 2) := by decide +kernel
theorem dX4_bestFor_42 : decode cX4_bestFor 42 = .ok (.if_icmp .le 22, 3) := by decide +kernel
theorem dX4_bestFor_45 : decode cX4_bestFor 45 = .ok (.aload_n 0, 1) := by decide +kernel
theorem dX4_bestFor_46 : decode cX4_bestFor 46 = .ok (.iload 7, 2) := by decide +kernel
theorem dX4_bestFor_48 : decode cX4_bestFor 48 = .ok (.iload_n 1, 1) := by decide +kernel
theorem dX4_bestFor_49 : decode cX4_bestFor 49 = .ok (.aload_n 2, 1) := by decide +kernel
theorem dX4_bestFor_50 : decode cX4_bestFor 50 = .ok (.invokevirtual 60, 3) := by decide +kernel
theorem dX4_bestFor_53 : decode cX4_bestFor 53 = .ok (.ifCond .eq 11, 3) := by decide +kernel
theorem dX4_bestFor_56 : decode cX4_bestFor 56 = .ok (.iload 7, 2) := by decide +kernel
theorem dX4_bestFor_58 : decode cX4_bestFor 58 = .ok (.istore 5, 2) := by decide +kernel
theorem dX4_bestFor_60 : decode cX4_bestFor 60 = .ok (.iload 8, 2) := by decide +kernel
theorem dX4_bestFor_62 : decode cX4_bestFor 62 = .ok (.istore 6, 2) := by decide +kernel
theorem dX4_bestFor_64 : decode cX4_bestFor 64 = .ok (.iinc 7 1, 3) := by decide +kernel
theorem dX4_bestFor_67 : decode cX4_bestFor 67 = .ok (.goto (-47), 3) := by decide +kernel
theorem dX4_bestFor_70 : decode cX4_bestFor 70 = .ok (.iload 5, 2) := by decide +kernel
theorem dX4_bestFor_72 : decode cX4_bestFor 72 = .ok (.ireturn, 1) := by decide +kernel
set_option maxRecDepth 20000 in
theorem ggX4_rankOf_J13_bitCount_95d88 : GoodIn wsX4_rankOf wsJ13_bitCount_95d88 := goodIn_r _ [5, 6, 7, 8] (by decide +kernel) (by decide +kernel)
set_option maxRecDepth 20000 in
theorem gX4_rankOf_J13_bitCount_95d88 : GoodIn wsX4_rankOf (va_wsS RX4 25 yJ13_bitCount_95d88 wsJ13_bitCount_95d88) := goodIn_app (goodIn_of _ (by decide +kernel)) ggX4_rankOf_J13_bitCount_95d88
theorem dX4_rankOf_0 : decode cX4_rankOf 0 = .ok (.aload_n 0, 1) := by decide +kernel
theorem dX4_rankOf_1 : decode cX4_rankOf 1 = .ok (.getfield 15, 3) := by decide +kernel
theorem dX4_rankOf_4 : decode cX4_rankOf 4 = .ok (.iload_n 1, 1) := by decide +kernel
theorem dX4_rankOf_5 : decode cX4_rankOf 5 = .ok (.laload, 1) := by decide +kernel
theorem dX4_rankOf_6 : decode cX4_rankOf 6 = .ok (.lload_n 2, 1) := by decide +kernel
theorem dX4_rankOf_7 : decode cX4_rankOf 7 = .ok (.land, 1) := by decide +kernel
theorem dX4_rankOf_8 : decode cX4_rankOf 8 = .ok (.invokestatic 25, 3) := by decide +kernel
theorem dX4_rankOf_11 : decode cX4_rankOf 11 = .ok (.bipush 9, 2) := by decide +kernel
theorem dX4_rankOf_13 : decode cX4_rankOf 13 = .ok (.imul, 1) := by decide +kernel
theorem dX4_rankOf_14 : decode cX4_rankOf 14 = .ok (.aload_n 0, 1) := by decide +kernel
theorem dX4_rankOf_15 : decode cX4_rankOf 15 = .ok (.getfield 15, 3) := by decide +kernel
theorem dX4_rankOf_18 : decode cX4_rankOf 18 = .ok (.iload_n 1, 1) := by decide +kernel
theorem dX4_rankOf_19 : decode cX4_rankOf 19 = .ok (.laload, 1) := by decide +kernel
theorem dX4_rankOf_20 : decode cX4_rankOf 20 = .ok (.invokestatic 25, 3) := by decide +kernel
theorem dX4_rankOf_23 : decode cX4_rankOf 23 = .ok (.iadd, 1) := by decide +kernel
theorem dX4_rankOf_24 : decode cX4_rankOf 24 = .ok (.ireturn, 1) := by decide +kernel
set_option maxRecDepth 20000 in
theorem ggX5_init_X3_init : GoodIn wsX5_init wsX3_init := goodIn_r _ [26, 27, 2, 3, 28, 29, 30, 31, 32, 33, 34, 61, 62, 63, 64, 65, 66, 67, 68] (by decide +kernel) (by decide +kernel)
set_option maxRecDepth 20000 in
theorem gX5_init_X3_init_n9 : GoodIn wsX5_init (wsX3_init) := ggX5_init_X3_init
set_option maxRecDepth 20000 in
theorem ggX5_init_X4_init : GoodIn wsX5_init wsX4_init := goodIn_r _ [36, 37, 2, 3, 28, 38, 39, 40, 75, 76, 77] (by decide +kernel) (by decide +kernel)
set_option maxRecDepth 20000 in
theorem gX5_init_X4_init_n18 : GoodIn wsX5_init (wsX4_init) := ggX5_init_X4_init
set_option maxRecDepth 20000 in
theorem ggX5_init_X1_init : GoodIn wsX5_init wsX1_init := goodIn_r _ [43, 44, 2, 3, 28, 45, 46, 47, 48, 49, 50, 78, 79] (by decide +kernel) (by decide +kernel)
set_option maxRecDepth 20000 in
theorem gX5_init_X1_init : GoodIn wsX5_init (wsX1_init) := ggX5_init_X1_init
set_option maxRecDepth 20000 in
theorem ggX5_init_X2_init : GoodIn wsX5_init wsX2_init := goodIn_r _ [52, 53, 2, 3, 28, 54, 55, 80, 81, 82, 83, 84, 85] (by decide +kernel) (by decide +kernel)
set_option maxRecDepth 20000 in
theorem gX5_init_X2_init_n32 : GoodIn wsX5_init (wsX2_init) := ggX5_init_X2_init
set_option maxRecDepth 20000 in
theorem ggX5_init_X0_init : GoodIn wsX5_init wsX0_init := goodIn_r _ [57, 58, 2, 3, 28, 59, 60, 86, 87, 88] (by decide +kernel) (by decide +kernel)
set_option maxRecDepth 20000 in
theorem gX5_init_X0_init_n39 : GoodIn wsX5_init (wsX0_init) := ggX5_init_X0_init
theorem dX5_init_0 : decode cX5_init 0 = .ok (.aload_n 0, 1) := by decide +kernel
theorem dX5_init_1 : decode cX5_init 1 = .ok (.invokespecial 1, 3) := by decide +kernel
theorem dX5_init_4 : decode cX5_init 4 = .ok (.aload_n 0, 1) := by decide +kernel
theorem dX5_init_5 : decode cX5_init 5 = .ok (.new 7, 3) := by decide +kernel
theorem dX5_init_8 : decode cX5_init 8 = .ok (.dup, 1) := by decide +kernel
theorem dX5_init_9 : decode cX5_init 9 = .ok (.invokespecial 9, 3) := by decide +kernel
theorem dX5_init_12 : decode cX5_init 12 = .ok (.putfield 10, 3) := by decide +kernel
theorem dX5_init_15 : decode cX5_init 15 = .ok (.aload_n 0, 1) := by decide +kernel
theorem dX5_init_16 : decode cX5_init 16 = .ok (.new 16, 3) := by decide +kernel
theorem dX5_init_19 : decode cX5_init 19 = .ok (.dup, 1) := by decide +kernel
theorem dX5_init_20 : decode cX5_init 20 = .ok (.invokespecial 18, 3) := by decide +kernel
theorem dX5_init_23 : decode cX5_init 23 = .ok (.putfield 19, 3) := by decide +kernel
theorem dX5_init_26 : decode cX5_init 26 = .ok (.aload_n 0, 1) := by decide +kernel
theorem dX5_init_27 : decode cX5_init 27 = .ok (.new 23, 3) := by decide +kernel
theorem dX5_init_30 : decode cX5_init 30 = .ok (.dup, 1) := by decide +kernel
theorem dX5_init_31 : decode cX5_init 31 = .ok (.invokespecial 25, 3) := by decide +kernel
theorem dX5_init_34 : decode cX5_init 34 = .ok (.putfield 26, 3) := by decide +kernel
theorem dX5_init_37 : decode cX5_init 37 = .ok (.aload_n 0, 1) := by decide +kernel
theorem dX5_init_38 : decode cX5_init 38 = .ok (.new 30, 3) := by decide +kernel
theorem dX5_init_41 : decode cX5_init 41 = .ok (.dup, 1) := by decide +kernel
theorem dX5_init_42 : decode cX5_init 42 = .ok (.invokespecial 32, 3) := by decide +kernel
theorem dX5_init_45 : decode cX5_init 45 = .ok (.putfield 33, 3) := by decide +kernel
theorem dX5_init_48 : decode cX5_init 48 = .ok (.aload_n 0, 1) := by decide +kernel
theorem dX5_init_49 : decode cX5_init 49 = .ok (.new 37, 3) := by decide +kernel
theorem dX5_init_52 : decode cX5_init 52 = .ok (.dup, 1) := by decide +kernel
theorem dX5_init_53 : decode cX5_init 53 = .ok (.invokespecial 39, 3) := by decide +kernel
theorem dX5_init_56 : decode cX5_init 56 = .ok (.putfield 40, 3) := by decide +kernel
theorem dX5_init_59 : decode cX5_init 59 = .ok (.aload_n 0, 1) := by decide +kernel
theorem dX5_init_60 : decode cX5_init 60 = .ok (.iconst 0, 1) := by decide +kernel
theorem dX5_init_61 : decode cX5_init 61 = .ok (.putfield 44, 3) := by decide +kernel
theorem dX5_init_64 : decode cX5_init 64 = .ok (.return_, 1) := by decide +kernel
theorem dX5_addPatrol_0 : decode cX5_addPatrol 0 = .ok (.aload_n 0, 1) := by decide +kernel
theorem dX5_addPatrol_1 : decode cX5_addPatrol 1 = .ok (.getfield 10, 3) := by decide +kernel
theorem dX5_addPatrol_4 : decode cX5_addPatrol 4 = .ok (.getfield 48, 3) := by decide +kernel
theorem dX5_addPatrol_7 : decode cX5_addPatrol 7 = .ok (.bipush 6, 2) := by decide +kernel
theorem dX5_addPatrol_9 : decode cX5_addPatrol 9 = .ok (.if_icmp .lt 13, 3) := by decide +kernel
theorem dX5_addPatrol_12 : decode cX5_addPatrol 12 = .ok (.new 51, 3) := by decide +kernel
theorem dX5_addPatrol_15 : decode cX5_addPatrol 15 = .ok (.dup, 1) := by decide +kernel
theorem dX5_addPatrol_16 : decode cX5_addPatrol 16 = .ok (.ldc 53, 2) := by decide +kernel
theorem dX5_addPatrol_18 : decode cX5_addPatrol 18 = .ok (.invokespecial 55, 3) := by decide +kernel
theorem dX5_addPatrol_21 : decode cX5_addPatrol 21 = .ok (.athrow, 1) := by decide +kernel
theorem dX5_addPatrol_22 : decode cX5_addPatrol 22 = .ok (.aload_n 0, 1) := by decide +kernel
theorem dX5_addPatrol_23 : decode cX5_addPatrol 23 = .ok (.getfield 10, 3) := by decide +kernel
theorem dX5_addPatrol_26 : decode cX5_addPatrol 26 = .ok (.dup, 1) := by decide +kernel
theorem dX5_addPatrol_27 : decode cX5_addPatrol 27 = .ok (.getfield 48, 3) := by decide +kernel
theorem dX5_addPatrol_30 : decode cX5_addPatrol 30 = .ok (.iconst 1, 1) := by decide +kernel
theorem dX5_addPatrol_31 : decode cX5_addPatrol 31 = .ok (.iadd, 1) := by decide +kernel
theorem dX5_addPatrol_32 : decode cX5_addPatrol 32 = .ok (.putfield 48, 3) := by decide +kernel
theorem dX5_addPatrol_35 : decode cX5_addPatrol 35 = .ok (.aload_n 0, 1) := by decide +kernel
theorem dX5_addPatrol_36 : decode cX5_addPatrol 36 = .ok (.getfield 10, 3) := by decide +kernel
theorem dX5_addPatrol_39 : decode cX5_addPatrol 39 = .ok (.getfield 48, 3) := by decide +kernel
theorem dX5_addPatrol_42 : decode cX5_addPatrol 42 = .ok (.iconst 1, 1) := by decide +kernel
theorem dX5_addPatrol_43 : decode cX5_addPatrol 43 = .ok (.isub, 1) := by decide +kernel
theorem dX5_addPatrol_44 : decode cX5_addPatrol 44 = .ok (.ireturn, 1) := by decide +kernel
set_option maxRecDepth 20000 in
theorem ggX5_addScout_X5_checkNumber : GoodIn wsX5_addScout wsX5_checkNumber := goodIn_ca (goodIn_r _ [9, 10, 11] (by decide +kernel) (by decide +kernel)) (goodIn_sub (fun _ h => List.mem_cons_of_mem _ (List.mem_append_left _ (List.mem_append_right _ h))) (by decide +kernel))
set_option maxRecDepth 20000 in
theorem gX5_addScout_X5_checkNumber : GoodIn wsX5_addScout (va_wsS RX5 58 yX5_checkNumber wsX5_checkNumber) := goodIn_app (goodIn_of _ (by decide +kernel)) ggX5_addScout_X5_checkNumber
set_option maxRecDepth 20000 in
theorem ggX5_addScout_X5_checkArgument : GoodIn wsX5_addScout wsX5_checkArgument := goodIn_ca (goodIn_r _ [14, 15, 16] (by decide +kernel) (by decide +kernel)) (goodIn_sub (fun _ h => List.mem_cons_of_mem _ (List.mem_append_right _ h)) (by decide +kernel))
set_option maxRecDepth 20000 in
theorem gX5_addScout_X5_checkArgument : GoodIn wsX5_addScout (va_wsS RX5 62 yX5_checkArgument wsX5_checkArgument) := goodIn_app (goodIn_of _ (by decide +kernel)) ggX5_addScout_X5_checkArgument
set_option maxRecDepth 20000 in
theorem ggX5_addScout_X3_enrol : GoodIn wsX5_addScout wsX3_enrol := goodIn_r _ [21, 22, 23, 24, 25, 32, 33, 34, 35, 36, 37, 38, 39] (by decide +kernel) (by decide +kernel)
set_option maxRecDepth 20000 in
theorem gX5_addScout_X3_enrol : GoodIn wsX5_addScout (wsV RX5 71 RX3 yX3_enrol wsX3_enrol) := goodIn_app (goodIn_of _ (by decide +kernel)) ggX5_addScout_X3_enrol
theorem dX5_addScout_0 : decode cX5_addScout 0 = .ok (.iload_n 1, 1) := by decide +kernel
theorem dX5_addScout_1 : decode cX5_addScout 1 = .ok (.aload_n 0, 1) := by decide +kernel
theorem dX5_addScout_2 : decode cX5_addScout 2 = .ok (.getfield 10, 3) := by decide +kernel
theorem dX5_addScout_5 : decode cX5_addScout 5 = .ok (.getfield 48, 3) := by decide +kernel
theorem dX5_addScout_8 : decode cX5_addScout 8 = .ok (.invokestatic 58, 3) := by decide +kernel
theorem dX5_addScout_11 : decode cX5_addScout 11 = .ok (.iload_n 2, 1) := by decide +kernel
theorem dX5_addScout_12 : decode cX5_addScout 12 = .ok (.bipush 6, 2) := by decide +kernel
theorem dX5_addScout_14 : decode cX5_addScout 14 = .ok (.bipush 17, 2) := by decide +kernel
theorem dX5_addScout_16 : decode cX5_addScout 16 = .ok (.invokestatic 62, 3) := by decide +kernel
theorem dX5_addScout_19 : decode cX5_addScout 19 = .ok (.iload_n 3, 1) := by decide +kernel
theorem dX5_addScout_20 : decode cX5_addScout 20 = .ok (.iconst 0, 1) := by decide +kernel
theorem dX5_addScout_21 : decode cX5_addScout 21 = .ok (.sipush 255, 3) := by decide +kernel
theorem dX5_addScout_24 : decode cX5_addScout 24 = .ok (.invokestatic 62, 3) := by decide +kernel
theorem dX5_addScout_27 : decode cX5_addScout 27 = .ok (.aload_n 0, 1) := by decide +kernel
theorem dX5_addScout_28 : decode cX5_addScout 28 = .ok (.getfield 10, 3) := by decide +kernel
theorem dX5_addScout_31 : decode cX5_addScout 31 = .ok (.getfield 66, 3) := by decide +kernel
theorem dX5_addScout_34 : decode cX5_addScout 34 = .ok (.bipush 30, 2) := by decide +kernel
theorem dX5_addScout_36 : decode cX5_addScout 36 = .ok (.if_icmp .lt 13, 3) := by decide +kernel
theorem dX5_addScout_39 : decode cX5_addScout 39 = .ok (.new 51, 3) := by decide +kernel
theorem dX5_addScout_42 : decode cX5_addScout 42 = .ok (.dup, 1) := by decide +kernel
theorem dX5_addScout_43 : decode cX5_addScout 43 = .ok (.ldc 69, 2) := by decide +kernel
theorem dX5_addScout_45 : decode cX5_addScout 45 = .ok (.invokespecial 55, 3) := by decide +kernel
theorem dX5_addScout_48 : decode cX5_addScout 48 = .ok (.athrow, 1) := by decide +kernel
theorem dX5_addScout_49 : decode cX5_addScout 49 = .ok (.aload_n 0, 1) := by decide +kernel
theorem dX5_addScout_50 : decode cX5_addScout 50 = .ok (.getfield 10, 3) := by decide +kernel
theorem dX5_addScout_53 : decode cX5_addScout 53 = .ok (.iload_n 1, 1) := by decide +kernel
theorem dX5_addScout_54 : decode cX5_addScout 54 = .ok (.iload_n 2, 1) := by decide +kernel
theorem dX5_addScout_55 : decode cX5_addScout 55 = .ok (.iload_n 3, 1) := by decide +kernel
theorem dX5_addScout_56 : decode cX5_addScout 56 = .ok (.invokevirtual 71, 3) := by decide +kernel
theorem dX5_addScout_59 : decode cX5_addScout 59 = .ok (.ireturn, 1) := by decide +kernel
set_option maxRecDepth 20000 in
theorem ggX5_scout_X5_checkNumber : GoodIn wsX5_scout wsX5_checkNumber := goodIn_ca (goodIn_r _ [6, 7, 8] (by decide +kernel) (by decide +kernel)) (goodIn_sub (fun _ h => List.mem_cons_of_mem _ (List.mem_append_right _ h)) (by decide +kernel))
set_option maxRecDepth 20000 in
theorem gX5_scout_X5_checkNumber : GoodIn wsX5_scout (va_wsS RX5 58 yX5_checkNumber wsX5_checkNumber) := goodIn_app (goodIn_of _ (by decide +kernel)) ggX5_scout_X5_checkNumber
set_option maxRecDepth 20000 in
theorem ggX5_scout_X5_factOf : GoodIn wsX5_scout wsX5_factOf := goodIn_r _ [12, 1, 13, 14, 15, 16, 17, 18, 19, 20, 21, 22, 23, 24, 25, 26, 27, 28, 29, 30, 31, 32, 33, 34, 35, 36, 37, 38, 39, 40, 41, 42, 43, 44, 45, 46, 47, 48, 49, 50, 51, 52] (by decide +kernel) (by decide +kernel)
set_option maxRecDepth 20000 in
theorem gX5_scout_X5_factOf : GoodIn wsX5_scout (wsV RX5 75 RX5 yX5_factOf wsX5_factOf) := goodIn_app (goodIn_of _ (by decide +kernel)) ggX5_scout_X5_factOf
theorem dX5_scout_0 : decode cX5_scout 0 = .ok (.iload_n 1, 1) := by decide +kernel
theorem dX5_scout_1 : decode cX5_scout 1 = .ok (.aload_n 0, 1) := by decide +kernel
theorem dX5_scout_2 : decode cX5_scout 2 = .ok (.getfield 10, 3) := by decide +kernel
theorem dX5_scout_5 : decode cX5_scout 5 = .ok (.getfield 66, 3) := by decide +kernel
theorem dX5_scout_8 : decode cX5_scout 8 = .ok (.invokestatic 58, 3) := by decide +kernel
theorem dX5_scout_11 : decode cX5_scout 11 = .ok (.iload_n 2, 1) := by decide +kernel
theorem dX5_scout_12 : decode cX5_scout 12 = .ok (.bipush 7, 2) := by decide +kernel
theorem dX5_scout_14 : decode cX5_scout 14 = .ok (.invokestatic 58, 3) := by decide +kernel
theorem dX5_scout_17 : decode cX5_scout 17 = .ok (.aload_n 0, 1) := by decide +kernel
theorem dX5_scout_18 : decode cX5_scout 18 = .ok (.iload_n 1, 1) := by decide +kernel
theorem dX5_scout_19 : decode cX5_scout 19 = .ok (.iload_n 2, 1) := by decide +kernel
theorem dX5_scout_20 : decode cX5_scout 20 = .ok (.invokevirtual 75, 3) := by decide +kernel
theorem dX5_scout_23 : decode cX5_scout 23 = .ok (.ireturn, 1) := by decide +kernel
set_option maxRecDepth 20000 in
theorem ggX5_addTent_X5_checkArgument : GoodIn wsX5_addTent wsX5_checkArgument := goodIn_ca (goodIn_r _ [8, 9, 10] (by decide +kernel) (by decide +kernel)) (goodIn_sub (fun _ h => List.mem_cons_of_mem _ (List.mem_append_right _ h)) (by decide +kernel))
set_option maxRecDepth 20000 in
theorem gX5_addTent_X5_checkArgument : GoodIn wsX5_addTent (va_wsS RX5 62 yX5_checkArgument wsX5_checkArgument) := goodIn_app (goodIn_of _ (by decide +kernel)) ggX5_addTent_X5_checkArgument
set_option maxRecDepth 20000 in
theorem ggX5_addTent_X4_pitch : GoodIn wsX5_addTent wsX4_pitch := goodIn_r _ [15, 16, 17, 24, 25, 26] (by decide +kernel) (by decide +kernel)
set_option maxRecDepth 20000 in
theorem gX5_addTent_X4_pitch : GoodIn wsX5_addTent (wsV RX5 84 RX4 yX4_pitch wsX4_pitch) := goodIn_app (goodIn_of _ (by decide +kernel)) ggX5_addTent_X4_pitch
theorem dX5_addTent_0 : decode cX5_addTent 0 = .ok (.iload_n 1, 1) := by decide +kernel
theorem dX5_addTent_1 : decode cX5_addTent 1 = .ok (.iconst 1, 1) := by decide +kernel
theorem dX5_addTent_2 : decode cX5_addTent 2 = .ok (.bipush 8, 2) := by decide +kernel
theorem dX5_addTent_4 : decode cX5_addTent 4 = .ok (.invokestatic 62, 3) := by decide +kernel
theorem dX5_addTent_7 : decode cX5_addTent 7 = .ok (.aload_n 0, 1) := by decide +kernel
theorem dX5_addTent_8 : decode cX5_addTent 8 = .ok (.getfield 19, 3) := by decide +kernel
theorem dX5_addTent_11 : decode cX5_addTent 11 = .ok (.getfield 79, 3) := by decide +kernel
theorem dX5_addTent_14 : decode cX5_addTent 14 = .ok (.bipush 10, 2) := by decide +kernel
theorem dX5_addTent_16 : decode cX5_addTent 16 = .ok (.if_icmp .lt 13, 3) := by decide +kernel
theorem dX5_addTent_19 : decode cX5_addTent 19 = .ok (.new 51, 3) := by decide +kernel
theorem dX5_addTent_22 : decode cX5_addTent 22 = .ok (.dup, 1) := by decide +kernel
theorem dX5_addTent_23 : decode cX5_addTent 23 = .ok (.ldc 82, 2) := by decide +kernel
theorem dX5_addTent_25 : decode cX5_addTent 25 = .ok (.invokespecial 55, 3) := by decide +kernel
theorem dX5_addTent_28 : decode cX5_addTent 28 = .ok (.athrow, 1) := by decide +kernel
theorem dX5_addTent_29 : decode cX5_addTent 29 = .ok (.aload_n 0, 1) := by decide +kernel
theorem dX5_addTent_30 : decode cX5_addTent 30 = .ok (.getfield 19, 3) := by decide +kernel
theorem dX5_addTent_33 : decode cX5_addTent 33 = .ok (.iload_n 1, 1) := by decide +kernel
theorem dX5_addTent_34 : decode cX5_addTent 34 = .ok (.invokevirtual 84, 3) := by decide +kernel
theorem dX5_addTent_37 : decode cX5_addTent 37 = .ok (.ireturn, 1) := by decide +kernel
set_option maxRecDepth 20000 in
theorem ggX5_sleep_X5_checkNumber : GoodIn wsX5_sleep wsX5_checkNumber := goodIn_ca (goodIn_r _ [10, 11, 12] (by decide +kernel) (by decide +kernel)) (goodIn_sub (fun _ h => List.mem_cons_of_mem _ (List.mem_append_right _ h)) (by decide +kernel))
set_option maxRecDepth 20000 in
theorem gX5_sleep_X5_checkNumber : GoodIn wsX5_sleep (va_wsS RX5 58 yX5_checkNumber wsX5_checkNumber) := goodIn_app (goodIn_of _ (by decide +kernel)) ggX5_sleep_X5_checkNumber
set_option maxRecDepth 20000 in
theorem ggX5_sleep_X5_checkNumberOrNone : GoodIn wsX5_sleep wsX5_checkNumberOrNone := goodIn_ca (goodIn_r _ [15, 7, 8, 9, 10, 11, 12] (by decide +kernel) (by decide +kernel)) (goodIn_sub (fun _ h => List.mem_cons_of_mem _ (List.mem_append_right _ h)) (by decide +kernel))
set_option maxRecDepth 20000 in
theorem gX5_sleep_X5_checkNumberOrNone : GoodIn wsX5_sleep (va_wsS RX5 88 yX5_checkNumberOrNone wsX5_checkNumberOrNone) := goodIn_app (goodIn_of _ (by decide +kernel)) ggX5_sleep_X5_checkNumberOrNone
set_option maxRecDepth 20000 in
theorem ggX5_sleep_X4_tentOf : GoodIn wsX5_sleep wsX4_tentOf := goodIn_r _ [20, 21, 22, 68, 69, 70] (by decide +kernel) (by decide +kernel)
set_option maxRecDepth 20000 in
theorem gX5_sleep_X4_tentOf : GoodIn wsX5_sleep (wsV RX5 91 RX4 yX4_tentOf wsX4_tentOf) := goodIn_app (goodIn_of _ (by decide +kernel)) ggX5_sleep_X4_tentOf
set_option maxRecDepth 20000 in
theorem ggX5_sleep_X4_canTake : GoodIn wsX5_sleep wsX4_canTake := goodIn_r _ [26, 22, 27, 28, 29, 30, 31, 32, 33, 34, 35, 36, 37, 19, 38, 39, 40, 41, 42, 43, 44, 68, 69, 70, 60, 61, 62, 63, 64, 65, 66, 67] (by decide +kernel) (by decide +kernel)
set_option maxRecDepth 20000 in
theorem gX5_sleep_X4_canTake : GoodIn wsX5_sleep (wsV RX5 96 RX4 yX4_canTake wsX4_canTake) := goodIn_app (goodIn_of _ (by decide +kernel)) ggX5_sleep_X4_canTake
set_option maxRecDepth 20000 in
theorem ggX5_sleep_X4_leave : GoodIn wsX5_sleep wsX4_leave := goodIn_r _ [48, 22, 49, 68, 69, 70] (by decide +kernel) (by decide +kernel)
set_option maxRecDepth 20000 in
theorem gX5_sleep_X4_leave : GoodIn wsX5_sleep (wsV RX5 102 RX4 yX4_leave wsX4_leave) := goodIn_app (goodIn_of _ (by decide +kernel)) ggX5_sleep_X4_leave
set_option maxRecDepth 20000 in
theorem ggX5_sleep_X4_enter : GoodIn wsX5_sleep wsX4_enter := goodIn_r _ [53, 22, 68, 69, 70] (by decide +kernel) (by decide +kernel)
set_option maxRecDepth 20000 in
theorem gX5_sleep_X4_enter : GoodIn wsX5_sleep (wsV RX5 105 RX4 yX4_enter wsX4_enter) := goodIn_app (goodIn_of _ (by decide +kernel)) ggX5_sleep_X4_enter
theorem dX5_sleep_0 : decode cX5_sleep 0 = .ok (.iload_n 1, 1) := by decide +kernel
theorem dX5_sleep_1 : decode cX5_sleep 1 = .ok (.aload_n 0, 1) := by decide +kernel
theorem dX5_sleep_2 : decode cX5_sleep 2 = .ok (.getfield 10, 3) := by decide +kernel
theorem dX5_sleep_5 : decode cX5_sleep 5 = .ok (.getfield 66, 3) := by decide +kernel
theorem dX5_sleep_8 : decode cX5_sleep 8 = .ok (.invokestatic 58, 3) := by decide +kernel
theorem dX5_sleep_11 : decode cX5_sleep 11 = .ok (.iload_n 2, 1) := by decide +kernel
theorem dX5_sleep_12 : decode cX5_sleep 12 = .ok (.aload_n 0, 1) := by decide +kernel
theorem dX5_sleep_13 : decode cX5_sleep 13 = .ok (.getfield 19, 3) := by decide +kernel
theorem dX5_sleep_16 : decode cX5_sleep 16 = .ok (.getfield 79, 3) := by decide +kernel
theorem dX5_sleep_19 : decode cX5_sleep 19 = .ok (.invokestatic 88, 3) := by decide +kernel
theorem dX5_sleep_22 : decode cX5_sleep 22 = .ok (.aload_n 0, 1) := by decide +kernel
theorem dX5_sleep_23 : decode cX5_sleep 23 = .ok (.getfield 19, 3) := by decide +kernel
theorem dX5_sleep_26 : decode cX5_sleep 26 = .ok (.iload_n 1, 1) := by decide +kernel
theorem dX5_sleep_27 : decode cX5_sleep 27 = .ok (.invokevirtual 91, 3) := by decide +kernel
theorem dX5_sleep_30 : decode cX5_sleep 30 = .ok (.istore_n 3, 1) := by decide +kernel
theorem dX5_sleep_31 : decode cX5_sleep 31 = .ok (.iload_n 3, 1) := by decide +kernel
theorem dX5_sleep_32 : decode cX5_sleep 32 = .ok (.iload_n 2, 1) := by decide +kernel
theorem dX5_sleep_33 : decode cX5_sleep 33 = .ok (.if_icmp .ne 13, 3) := by decide +kernel
theorem dX5_sleep_36 : decode cX5_sleep 36 = .ok (.new 51, 3) := by decide +kernel
theorem dX5_sleep_39 : decode cX5_sleep 39 = .ok (.dup, 1) := by decide +kernel
theorem dX5_sleep_40 : decode cX5_sleep 40 = .ok (.ldc 94, 2) := by decide +kernel
theorem dX5_sleep_42 : decode cX5_sleep 42 = .ok (.invokespecial 55, 3) := by decide +kernel
theorem dX5_sleep_45 : decode cX5_sleep 45 = .ok (.athrow, 1) := by decide +kernel
theorem dX5_sleep_46 : decode cX5_sleep 46 = .ok (.iload_n 2, 1) := by decide +kernel
theorem dX5_sleep_47 : decode cX5_sleep 47 = .ok (.iconst (-1), 1) := by decide +kernel
theorem dX5_sleep_48 : decode cX5_sleep 48 = .ok (.if_icmp .eq 29, 3) := by decide +kernel
theorem dX5_sleep_51 : decode cX5_sleep 51 = .ok (.aload_n 0, 1) := by decide +kernel
theorem dX5_sleep_52 : decode cX5_sleep 52 = .ok (.getfield 19, 3) := by decide +kernel
theorem dX5_sleep_55 : decode cX5_sleep 55 = .ok (.iload_n 2, 1) := by decide +kernel
theorem dX5_sleep_56 : decode cX5_sleep 56 = .ok (.iload_n 1, 1) := by decide +kernel
theorem dX5_sleep_57 : decode cX5_sleep 57 = .ok (.aload_n 0, 1) := by decide +kernel
theorem dX5_sleep_58 : decode cX5_sleep 58 = .ok (.getfield 10, 3) := by decide +kernel
theorem dX5_sleep_61 : decode cX5_sleep 61 = .ok (.invokevirtual 96, 3) := by decide +kernel
theorem dX5_sleep_64 : decode cX5_sleep 64 = .ok (.ifCond .ne 13, 3) := by decide +kernel
theorem dX5_sleep_67 : decode cX5_sleep 67 = .ok (.new 51, 3) := by decide +kernel
theorem dX5_sleep_70 : decode cX5_sleep 70 = .ok (.dup, 1) := by decide +kernel
theorem dX5_sleep_71 : decode cX5_sleep 71 = .ok (.ldc 100, 2) := by decide +kernel
theorem dX5_sleep_73 : decode cX5_sleep 73 = .ok (.invokespecial 55, 3) := by decide +kernel
theorem dX5_sleep_76 : decode cX5_sleep 76 = .ok (.athrow, 1) := by decide +kernel
theorem dX5_sleep_77 : decode cX5_sleep 77 = .ok (.aload_n 0, 1) := by decide +kernel
theorem dX5_sleep_78 : decode cX5_sleep 78 = .ok (.getfield 19, 3) := by decide +kernel
theorem dX5_sleep_81 : decode cX5_sleep 81 = .ok (.iload_n 3, 1) := by decide +kernel
theorem dX5_sleep_82 : decode cX5_sleep 82 = .ok (.iload_n 1, 1) := by decide +kernel
theorem dX5_sleep_83 : decode cX5_sleep 83 = .ok (.invokevirtual 102, 3) := by decide +kernel
theorem dX5_sleep_86 : decode cX5_sleep 86 = .ok (.aload_n 0, 1) := by decide +kernel
theorem dX5_sleep_87 : decode cX5_sleep 87 = .ok (.getfield 19, 3) := by decide +kernel
theorem dX5_sleep_90 : decode cX5_sleep 90 = .ok (.iload_n 2, 1) := by decide +kernel
theorem dX5_sleep_91 : decode cX5_sleep 91 = .ok (.iload_n 1, 1) := by decide +kernel
theorem dX5_sleep_92 : decode cX5_sleep 92 = .ok (.invokevirtual 105, 3) := by decide +kernel
theorem dX5_sleep_95 : decode cX5_sleep 95 = .ok (.iload_n 3, 1) := by decide +kernel
theorem dX5_sleep_96 : decode cX5_sleep 96 = .ok (.ireturn, 1) := by decide +kernel
set_option maxRecDepth 20000 in
theorem ggX5_inTent_X5_checkNumber : GoodIn wsX5_inTent wsX5_checkNumber := goodIn_ca (goodIn_r _ [7, 8, 9] (by decide +kernel) (by decide +kernel)) (goodIn_sub (fun _ h => List.mem_cons_of_mem _ (List.mem_append_right _ h)) (by decide +kernel))
set_option maxRecDepth 20000 in
theorem gX5_inTent_X5_checkNumber : GoodIn wsX5_inTent (va_wsS RX5 58 yX5_checkNumber wsX5_checkNumber) := goodIn_app (goodIn_of _ (by decide +kernel)) ggX5_inTent_X5_checkNumber
theorem dX5_inTent_0 : decode cX5_inTent 0 = .ok (.iload_n 1, 1) := by decide +kernel
theorem dX5_inTent_1 : decode cX5_inTent 1 = .ok (.aload_n 0, 1) := by decide +kernel
theorem dX5_inTent_2 : decode cX5_inTent 2 = .ok (.getfield 19, 3) := by decide +kernel
theorem dX5_inTent_5 : decode cX5_inTent 5 = .ok (.getfield 79, 3) := by decide +kernel
theorem dX5_inTent_8 : decode cX5_inTent 8 = .ok (.invokestatic 58, 3) := by decide +kernel
theorem dX5_inTent_11 : decode cX5_inTent 11 = .ok (.aload_n 0, 1) := by decide +kernel
theorem dX5_inTent_12 : decode cX5_inTent 12 = .ok (.getfield 19, 3) := by decide +kernel
theorem dX5_inTent_15 : decode cX5_inTent 15 = .ok (.getfield 108, 3) := by decide +kernel
theorem dX5_inTent_18 : decode cX5_inTent 18 = .ok (.iload_n 1, 1) := by decide +kernel
theorem dX5_inTent_19 : decode cX5_inTent 19 = .ok (.laload, 1) := by decide +kernel
theorem dX5_inTent_20 : decode cX5_inTent 20 = .ok (.lreturn, 1) := by decide +kernel
set_option maxRecDepth 20000 in
theorem ggX5_findTents_X4_tentOf : GoodIn wsX5_findTents wsX4_tentOf := goodIn_r _ [9, 10, 11, 77, 78, 79] (by decide +kernel) (by decide +kernel)
set_option maxRecDepth 20000 in
theorem gX5_findTents_X4_tentOf : GoodIn wsX5_findTents (wsV RX5 91 RX4 yX4_tentOf wsX4_tentOf) := goodIn_app (goodIn_of _ (by decide +kernel)) ggX5_findTents_X4_tentOf
set_option maxRecDepth 20000 in
theorem ggX5_findTents_X4_bestFor : GoodIn wsX5_findTents wsX4_bestFor := goodIn_r _ [15, 16, 10, 17, 18, 19, 20, 21, 22, 23, 24, 25, 26, 8, 27, 11, 28, 29, 30, 31, 32, 33, 34, 35, 36, 37, 38, 39, 40, 41, 42, 43, 44, 45, 46, 47, 48, 49, 69, 70, 71, 72, 73, 74, 75, 76, 77, 78, 79] (by decide +kernel) (by decide +kernel)
set_option maxRecDepth 20000 in
theorem gX5_findTents_X4_bestFor : GoodIn wsX5_findTents (wsV RX5 116 RX4 yX4_bestFor wsX4_bestFor) := goodIn_app (goodIn_of _ (by decide +kernel)) ggX5_findTents_X4_bestFor
set_option maxRecDepth 20000 in
theorem ggX5_findTents_X4_enter : GoodIn wsX5_findTents wsX4_enter := goodIn_r _ [53, 11, 77, 78, 79] (by decide +kernel) (by decide +kernel)
set_option maxRecDepth 20000 in
theorem gX5_findTents_X4_enter : GoodIn wsX5_findTents (wsV RX5 105 RX4 yX4_enter wsX4_enter) := goodIn_app (goodIn_of _ (by decide +kernel)) ggX5_findTents_X4_enter
set_option maxRecDepth 20000 in
theorem ggX5_findTents_X5_scoutsWithoutTent : GoodIn wsX5_findTents wsX5_scoutsWithoutTent := goodIn_r _ [58, 1, 2, 4, 59, 60, 61, 8, 62, 10, 11, 28, 29, 30, 31, 32, 33, 34, 63, 64, 65, 66, 67, 68, 69, 70, 71, 72, 73, 74, 75, 76, 77, 78, 79] (by decide +kernel) (by decide +kernel)
set_option maxRecDepth 20000 in
theorem gX5_findTents_X5_scoutsWithoutTent : GoodIn wsX5_findTents (wsV RX5 120 RX5 yX5_scoutsWithoutTent wsX5_scoutsWithoutTent) := goodIn_app (goodIn_of _ (by decide +kernel)) ggX5_findTents_X5_scoutsWithoutTent
theorem dX5_findTents_0 : decode cX5_findTents 0 = .ok (.bipush 17, 2) := by decide +kernel
theorem dX5_findTents_2 : decode cX5_findTents 2 = .ok (.istore_n 1, 1) := by decide +kernel
theorem dX5_findTents_3 : decode cX5_findTents 3 = .ok (.iload_n 1, 1) := by decide +kernel
theorem dX5_findTents_4 : decode cX5_findTents 4 = .ok (.bipush 6, 2) := by decide +kernel
theorem dX5_findTents_6 : decode cX5_findTents 6 = .ok (.if_icmp .lt 73, 3) := by decide +kernel
theorem dX5_findTents_9 : decode cX5_findTents 9 = .ok (.iconst 0, 1) := by decide +kernel
theorem dX5_findTents_10 : decode cX5_findTents 10 = .ok (.istore_n 2, 1) := by decide +kernel
theorem dX5_findTents_11 : decode cX5_findTents 11 = .ok (.iload_n 2, 1) := by decide +kernel
theorem dX5_findTents_12 : decode cX5_findTents 12 = .ok (.aload_n 0, 1) := by decide +kernel
theorem dX5_findTents_13 : decode cX5_findTents 13 = .ok (.getfield 10, 3) := by decide +kernel
theorem dX5_findTents_16 : decode cX5_findTents 16 = .ok (.getfield 66, 3) := by decide +kernel
theorem dX5_findTents_19 : decode cX5_findTents 19 = .ok (.if_icmp .ge 54, 3) := by decide +kernel
theorem dX5_findTents_22 : decode cX5_findTents 22 = .ok (.aload_n 0, 1) := by decide +kernel
theorem dX5_findTents_23 : decode cX5_findTents 23 = .ok (.getfield 10, 3) := by decide +kernel
theorem dX5_findTents_26 : decode cX5_findTents 26 = .ok (.getfield 112, 3) := by decide +kernel
theorem dX5_findTents_29 : decode cX5_findTents 29 = .ok (.iload_n 2, 1) := by decide +kernel
theorem dX5_findTents_30 : decode cX5_findTents 30 = .ok (.iaload, 1) := by decide +kernel
theorem dX5_findTents_31 : decode cX5_findTents 31 = .ok (.iload_n 1, 1) := by decide +kernel
theorem dX5_findTents_32 : decode cX5_findTents 32 = .ok (.if_icmp .ne 35, 3) := by decide +kernel
theorem dX5_findTents_35 : decode cX5_findTents 35 = .ok (.aload_n 0, 1) := by decide +kernel
theorem dX5_findTents_36 : decode cX5_findTents 36 = .ok (.getfield 19, 3) := by decide +kernel
theorem dX5_findTents_39 : decode cX5_findTents 39 = .ok (.iload_n 2, 1) := by decide +kernel
theorem dX5_findTents_40 : decode cX5_findTents 40 = .ok (.invokevirtual 91, 3) := by decide +kernel
theorem dX5_findTents_43 : decode cX5_findTents 43 = .ok (.iconst (-1), 1) := by decide +kernel
theorem dX5_findTents_44 : decode cX5_findTents 44 = .ok (.if_icmp .ne 23, 3) := by decide +kernel
theorem dX5_findTents_47 : decode cX5_findTents 47 = .ok (.aload_n 0, 1) := by decide +kernel
theorem dX5_findTents_48 : decode cX5_findTents 48 = .ok (.getfield 19, 3) := by decide +kernel
theorem dX5_findTents_51 : decode cX5_findTents 51 = .ok (.aload_n 0, 1) := by decide +kernel
theorem dX5_findTents_52 : decode cX5_findTents 52 = .ok (.getfield 19, 3) := by decide +kernel
theorem dX5_findTents_55 : decode cX5_findTents 55 = .ok (.iload_n 2, 1) := by decide +kernel
theorem dX5_findTents_56 : decode cX5_findTents 56 = .ok (.aload_n 0, 1) := by decide +kernel
theorem dX5_findTents_57 : decode cX5_findTents 57 = .ok (.getfield 10, 3) := by decide +kernel
theorem dX5_findTents_60 : decode cX5_findTents 60 = .ok (.invokevirtual 116, 3) := by decide +kernel
theorem dX5_findTents_63 : decode cX5_findTents 63 = .ok (.iload_n 2, 1) := by decide +kernel
theorem dX5_findTents_64 : decode cX5_findTents 64 = .ok (.invokevirtual 105, 3) := by decide +kernel
theorem dX5_findTents_67 : decode cX5_findTents 67 = .ok (.iinc 2 1, 3) := by decide +kernel
theorem dX5_findTents_70 : decode cX5_findTents 70 = .ok (.goto (-59), 3) := by decide +kernel
theorem dX5_findTents_73 : decode cX5_findTents 73 = .ok (.iinc 1 (-1), 3) := by decide +kernel
theorem dX5_findTents_76 : decode cX5_findTents 76 = .ok (.goto (-73), 3) := by decide +kernel
theorem dX5_findTents_79 : decode cX5_findTents 79 = .ok (.aload_n 0, 1) := by decide +kernel
theorem dX5_findTents_80 : decode cX5_findTents 80 = .ok (.invokevirtual 120, 3) := by decide +kernel
theorem dX5_findTents_83 : decode cX5_findTents 83 = .ok (.ireturn, 1) := by decide +kernel
set_option maxRecDepth 20000 in
theorem ggX5_count_X5_checkNumber : GoodIn wsX5_count wsX5_checkNumber := goodIn_ca (goodIn_r _ [4, 5, 6] (by decide +kernel) (by decide +kernel)) (goodIn_sub (fun _ h => List.mem_cons_of_mem _ (List.mem_append_right _ h)) (by decide +kernel))
set_option maxRecDepth 20000 in
theorem gX5_count_X5_checkNumber : GoodIn wsX5_count (va_wsS RX5 58 yX5_checkNumber wsX5_checkNumber) := goodIn_app (goodIn_of _ (by decide +kernel)) ggX5_count_X5_checkNumber
set_option maxRecDepth 20000 in
theorem ggX5_count_X5_countOf : GoodIn wsX5_count wsX5_countOf := goodIn_r _ [10, 11, 12, 13, 14, 15, 16, 17, 18, 19, 20, 21, 22, 23, 3, 24, 25, 26, 27, 28, 29, 30, 31, 32, 33, 34, 35, 36, 37, 38, 39, 40, 41, 42, 43, 44, 45, 46, 47, 48, 49, 50, 51, 52, 53, 54, 55, 56, 57, 58, 59, 60, 61, 62, 63, 64] (by decide +kernel) (by decide +kernel)
set_option maxRecDepth 20000 in
theorem gX5_count_X5_countOf : GoodIn wsX5_count (wsV RX5 124 RX5 yX5_countOf wsX5_countOf) := goodIn_app (goodIn_of _ (by decide +kernel)) ggX5_count_X5_countOf
theorem dX5_count_0 : decode cX5_count 0 = .ok (.iload_n 1, 1) := by decide +kernel
theorem dX5_count_1 : decode cX5_count 1 = .ok (.bipush 7, 2) := by decide +kernel
theorem dX5_count_3 : decode cX5_count 3 = .ok (.invokestatic 58, 3) := by decide +kernel
theorem dX5_count_6 : decode cX5_count 6 = .ok (.aload_n 0, 1) := by decide +kernel
theorem dX5_count_7 : decode cX5_count 7 = .ok (.iload_n 1, 1) := by decide +kernel
theorem dX5_count_8 : decode cX5_count 8 = .ok (.invokevirtual 124, 3) := by decide +kernel
theorem dX5_count_11 : decode cX5_count 11 = .ok (.ireturn, 1) := by decide +kernel
set_option maxRecDepth 20000 in
theorem ggX5_giveDuty_X5_checkNumber : GoodIn wsX5_giveDuty wsX5_checkNumber := goodIn_ca (goodIn_r _ [10, 11, 12] (by decide +kernel) (by decide +kernel)) (goodIn_sub (fun _ h => List.mem_cons_of_mem _ (List.mem_append_left _ (List.mem_append_right _ h))) (by decide +kernel))
set_option maxRecDepth 20000 in
theorem gX5_giveDuty_X5_checkNumber : GoodIn wsX5_giveDuty (va_wsS RX5 58 yX5_checkNumber wsX5_checkNumber) := goodIn_app (goodIn_of _ (by decide +kernel)) ggX5_giveDuty_X5_checkNumber
set_option maxRecDepth 20000 in
theorem ggX5_giveDuty_X5_checkNumberOrNone : GoodIn wsX5_giveDuty wsX5_checkNumberOrNone := goodIn_ca (goodIn_r _ [15, 7, 8, 9, 10, 11, 12] (by decide +kernel) (by decide +kernel)) (goodIn_sub (fun _ h => List.mem_cons_of_mem _ (List.mem_append_left _ (List.mem_append_right _ h))) (by decide +kernel))
set_option maxRecDepth 20000 in
theorem gX5_giveDuty_X5_checkNumberOrNone : GoodIn wsX5_giveDuty (va_wsS RX5 88 yX5_checkNumberOrNone wsX5_checkNumberOrNone) := goodIn_app (goodIn_of _ (by decide +kernel)) ggX5_giveDuty_X5_checkNumberOrNone
set_option maxRecDepth 20000 in
theorem ggX5_giveDuty_X5_checkArgument : GoodIn wsX5_giveDuty wsX5_checkArgument := goodIn_ca (goodIn_r _ [18, 19, 20] (by decide +kernel) (by decide +kernel)) (goodIn_sub (fun _ h => List.mem_cons_of_mem _ (List.mem_append_right _ h)) (by decide +kernel))
set_option maxRecDepth 20000 in
theorem gX5_giveDuty_X5_checkArgument : GoodIn wsX5_giveDuty (va_wsS RX5 62 yX5_checkArgument wsX5_checkArgument) := goodIn_app (goodIn_of _ (by decide +kernel)) ggX5_giveDuty_X5_checkArgument
set_option maxRecDepth 20000 in
theorem ggX5_giveDuty_X1_canBeGiven : GoodIn wsX5_giveDuty wsX1_canBeGiven := goodIn_r _ [25, 26, 27, 28, 24, 29, 30, 31, 32, 33, 34, 35, 36, 37, 38, 39, 40, 41, 42, 43, 44, 45, 46, 47, 48, 49, 50, 64, 65, 66, 67, 68, 69, 70, 71, 72, 73] (by decide +kernel) (by decide +kernel)
set_option maxRecDepth 20000 in
theorem gX5_giveDuty_X1_canBeGiven : GoodIn wsX5_giveDuty (wsV RX5 127 RX1 yX1_canBeGiven wsX1_canBeGiven) := goodIn_app (goodIn_of _ (by decide +kernel)) ggX5_giveDuty_X1_canBeGiven
set_option maxRecDepth 20000 in
theorem ggX5_giveDuty_X1_holderOn : GoodIn wsX5_giveDuty wsX1_holderOn := goodIn_r _ [49, 50, 72, 73] (by decide +kernel) (by decide +kernel)
set_option maxRecDepth 20000 in
theorem gX5_giveDuty_X1_holderOn : GoodIn wsX5_giveDuty (wsV RX5 133 RX1 yX1_holderOn wsX1_holderOn) := goodIn_app (goodIn_of _ (by decide +kernel)) ggX5_giveDuty_X1_holderOn
set_option maxRecDepth 20000 in
theorem ggX5_giveDuty_X1_assign : GoodIn wsX5_giveDuty wsX1_assign := goodIn_r _ [55, 56, 57, 50, 46, 47, 48, 24, 49, 72, 73] (by decide +kernel) (by decide +kernel)
set_option maxRecDepth 20000 in
theorem gX5_giveDuty_X1_assign : GoodIn wsX5_giveDuty (wsV RX5 136 RX1 yX1_assign wsX1_assign) := goodIn_app (goodIn_of _ (by decide +kernel)) ggX5_giveDuty_X1_assign
theorem dX5_giveDuty_0 : decode cX5_giveDuty 0 = .ok (.iload_n 2, 1) := by decide +kernel
theorem dX5_giveDuty_1 : decode cX5_giveDuty 1 = .ok (.iconst 5, 1) := by decide +kernel
theorem dX5_giveDuty_2 : decode cX5_giveDuty 2 = .ok (.invokestatic 58, 3) := by decide +kernel
theorem dX5_giveDuty_5 : decode cX5_giveDuty 5 = .ok (.iload_n 3, 1) := by decide +kernel
theorem dX5_giveDuty_6 : decode cX5_giveDuty 6 = .ok (.aload_n 0, 1) := by decide +kernel
theorem dX5_giveDuty_7 : decode cX5_giveDuty 7 = .ok (.getfield 10, 3) := by decide +kernel
theorem dX5_giveDuty_10 : decode cX5_giveDuty 10 = .ok (.getfield 48, 3) := by decide +kernel
theorem dX5_giveDuty_13 : decode cX5_giveDuty 13 = .ok (.invokestatic 88, 3) := by decide +kernel
theorem dX5_giveDuty_16 : decode cX5_giveDuty 16 = .ok (.iload_n 1, 1) := by decide +kernel
theorem dX5_giveDuty_17 : decode cX5_giveDuty 17 = .ok (.aload_n 0, 1) := by decide +kernel
theorem dX5_giveDuty_18 : decode cX5_giveDuty 18 = .ok (.getfield 44, 3) := by decide +kernel
theorem dX5_giveDuty_21 : decode cX5_giveDuty 21 = .ok (.bipush 60, 2) := by decide +kernel
theorem dX5_giveDuty_23 : decode cX5_giveDuty 23 = .ok (.invokestatic 62, 3) := by decide +kernel
theorem dX5_giveDuty_26 : decode cX5_giveDuty 26 = .ok (.iload_n 3, 1) := by decide +kernel
theorem dX5_giveDuty_27 : decode cX5_giveDuty 27 = .ok (.iconst (-1), 1) := by decide +kernel
theorem dX5_giveDuty_28 : decode cX5_giveDuty 28 = .ok (.if_icmp .eq 30, 3) := by decide +kernel
theorem dX5_giveDuty_31 : decode cX5_giveDuty 31 = .ok (.aload_n 0, 1) := by decide +kernel
theorem dX5_giveDuty_32 : decode cX5_giveDuty 32 = .ok (.getfield 26, 3) := by decide +kernel
theorem dX5_giveDuty_35 : decode cX5_giveDuty 35 = .ok (.iload_n 1, 1) := by decide +kernel
theorem dX5_giveDuty_36 : decode cX5_giveDuty 36 = .ok (.iload_n 2, 1) := by decide +kernel
theorem dX5_giveDuty_37 : decode cX5_giveDuty 37 = .ok (.iload_n 3, 1) := by decide +kernel
theorem dX5_giveDuty_38 : decode cX5_giveDuty 38 = .ok (.aload_n 0, 1) := by decide +kernel
theorem dX5_giveDuty_39 : decode cX5_giveDuty 39 = .ok (.getfield 10, 3) := by decide +kernel
theorem dX5_giveDuty_42 : decode cX5_giveDuty 42 = .ok (.invokevirtual 127, 3) := by decide +kernel
theorem dX5_giveDuty_45 : decode cX5_giveDuty 45 = .ok (.ifCond .ne 13, 3) := by decide +kernel
theorem dX5_giveDuty_48 : decode cX5_giveDuty 48 = .ok (.new 51, 3) := by decide +kernel
theorem dX5_giveDuty_51 : decode cX5_giveDuty 51 = .ok (.dup, 1) := by decide +kernel
theorem dX5_giveDuty_52 : decode cX5_giveDuty 52 = .ok (.ldc 131, 2) := by decide +kernel
theorem dX5_giveDuty_54 : decode cX5_giveDuty 54 = .ok (.invokespecial 55, 3) := by decide +kernel
theorem dX5_giveDuty_57 : decode cX5_giveDuty 57 = .ok (.athrow, 1) := by decide +kernel
theorem dX5_giveDuty_58 : decode cX5_giveDuty 58 = .ok (.aload_n 0, 1) := by decide +kernel
theorem dX5_giveDuty_59 : decode cX5_giveDuty 59 = .ok (.getfield 26, 3) := by decide +kernel
theorem dX5_giveDuty_62 : decode cX5_giveDuty 62 = .ok (.iload_n 1, 1) := by decide +kernel
theorem dX5_giveDuty_63 : decode cX5_giveDuty 63 = .ok (.iload_n 2, 1) := by decide +kernel
theorem dX5_giveDuty_64 : decode cX5_giveDuty 64 = .ok (.invokevirtual 133, 3) := by decide +kernel
theorem dX5_giveDuty_67 : decode cX5_giveDuty 67 = .ok (.istore 4, 2) := by decide +kernel
theorem dX5_giveDuty_69 : decode cX5_giveDuty 69 = .ok (.aload_n 0, 1) := by decide +kernel
theorem dX5_giveDuty_70 : decode cX5_giveDuty 70 = .ok (.getfield 26, 3) := by decide +kernel
theorem dX5_giveDuty_73 : decode cX5_giveDuty 73 = .ok (.iload_n 1, 1) := by decide +kernel
theorem dX5_giveDuty_74 : decode cX5_giveDuty 74 = .ok (.iload_n 2, 1) := by decide +kernel
theorem dX5_giveDuty_75 : decode cX5_giveDuty 75 = .ok (.iload_n 3, 1) := by decide +kernel
theorem dX5_giveDuty_76 : decode cX5_giveDuty 76 = .ok (.invokevirtual 136, 3) := by decide +kernel
theorem dX5_giveDuty_79 : decode cX5_giveDuty 79 = .ok (.iload 4, 2) := by decide +kernel
theorem dX5_giveDuty_81 : decode cX5_giveDuty 81 = .ok (.ireturn, 1) := by decide +kernel
set_option maxRecDepth 20000 in
theorem ggX5_duty_X5_checkNumber : GoodIn wsX5_duty wsX5_checkNumber := goodIn_ca (goodIn_r _ [5, 6, 7] (by decide +kernel) (by decide +kernel)) (goodIn_sub (fun _ h => List.mem_cons_of_mem _ (List.mem_append_right _ h)) (by decide +kernel))
set_option maxRecDepth 20000 in
theorem gX5_duty_X5_checkNumber : GoodIn wsX5_duty (va_wsS RX5 58 yX5_checkNumber wsX5_checkNumber) := goodIn_app (goodIn_of _ (by decide +kernel)) ggX5_duty_X5_checkNumber
set_option maxRecDepth 20000 in
theorem ggX5_duty_X1_holderOn : GoodIn wsX5_duty wsX1_holderOn := goodIn_r _ [12, 13, 20, 21] (by decide +kernel) (by decide +kernel)
set_option maxRecDepth 20000 in
theorem gX5_duty_X1_holderOn : GoodIn wsX5_duty (wsV RX5 133 RX1 yX1_holderOn wsX1_holderOn) := goodIn_app (goodIn_of _ (by decide +kernel)) ggX5_duty_X1_holderOn
theorem dX5_duty_0 : decode cX5_duty 0 = .ok (.iload_n 2, 1) := by decide +kernel
theorem dX5_duty_1 : decode cX5_duty 1 = .ok (.iconst 5, 1) := by decide +kernel
theorem dX5_duty_2 : decode cX5_duty 2 = .ok (.invokestatic 58, 3) := by decide +kernel
theorem dX5_duty_5 : decode cX5_duty 5 = .ok (.iload_n 1, 1) := by decide +kernel
theorem dX5_duty_6 : decode cX5_duty 6 = .ok (.bipush 61, 2) := by decide +kernel
theorem dX5_duty_8 : decode cX5_duty 8 = .ok (.invokestatic 58, 3) := by decide +kernel
theorem dX5_duty_11 : decode cX5_duty 11 = .ok (.aload_n 0, 1) := by decide +kernel
theorem dX5_duty_12 : decode cX5_duty 12 = .ok (.getfield 26, 3) := by decide +kernel
theorem dX5_duty_15 : decode cX5_duty 15 = .ok (.iload_n 1, 1) := by decide +kernel
theorem dX5_duty_16 : decode cX5_duty 16 = .ok (.iload_n 2, 1) := by decide +kernel
theorem dX5_duty_17 : decode cX5_duty 17 = .ok (.invokevirtual 133, 3) := by decide +kernel
theorem dX5_duty_20 : decode cX5_duty 20 = .ok (.ireturn, 1) := by decide +kernel
set_option maxRecDepth 20000 in
theorem ggX5_points_X5_checkNumber : GoodIn wsX5_points wsX5_checkNumber := goodIn_ca (goodIn_r _ [8, 9, 10] (by decide +kernel) (by decide +kernel)) (goodIn_sub (fun _ h => List.mem_cons_of_mem _ (List.mem_append_right _ h)) (by decide +kernel))
set_option maxRecDepth 20000 in
theorem gX5_points_X5_checkNumber : GoodIn wsX5_points (va_wsS RX5 58 yX5_checkNumber wsX5_checkNumber) := goodIn_app (goodIn_of _ (by decide +kernel)) ggX5_points_X5_checkNumber
theorem dX5_points_0 : decode cX5_points 0 = .ok (.iload_n 1, 1) := by decide +kernel
theorem dX5_points_1 : decode cX5_points 1 = .ok (.aload_n 0, 1) := by decide +kernel
theorem dX5_points_2 : decode cX5_points 2 = .ok (.getfield 10, 3) := by decide +kernel
theorem dX5_points_5 : decode cX5_points 5 = .ok (.getfield 48, 3) := by decide +kernel
theorem dX5_points_8 : decode cX5_points 8 = .ok (.invokestatic 58, 3) := by decide +kernel
theorem dX5_points_11 : decode cX5_points 11 = .ok (.aload_n 0, 1) := by decide +kernel
theorem dX5_points_12 : decode cX5_points 12 = .ok (.getfield 26, 3) := by decide +kernel
theorem dX5_points_15 : decode cX5_points 15 = .ok (.getfield 139, 3) := by decide +kernel
theorem dX5_points_18 : decode cX5_points 18 = .ok (.iload_n 1, 1) := by decide +kernel
theorem dX5_points_19 : decode cX5_points 19 = .ok (.iaload, 1) := by decide +kernel
theorem dX5_points_20 : decode cX5_points 20 = .ok (.ireturn, 1) := by decide +kernel
set_option maxRecDepth 20000 in
theorem ggX5_findDuties_X1_holderOn : GoodIn wsX5_findDuties wsX1_holderOn := goodIn_r _ [8, 9, 56, 57] (by decide +kernel) (by decide +kernel)
set_option maxRecDepth 20000 in
theorem gX5_findDuties_X1_holderOn : GoodIn wsX5_findDuties (wsV RX5 133 RX1 yX1_holderOn wsX1_holderOn) := goodIn_app (goodIn_of _ (by decide +kernel)) ggX5_findDuties_X1_holderOn
set_option maxRecDepth 20000 in
theorem ggX5_findDuties_X1_bestFor : GoodIn wsX5_findDuties wsX1_bestFor := goodIn_r _ [13, 14, 15, 16, 17, 18, 7, 19, 20, 21, 22, 23, 24, 25, 26, 27, 28, 29, 30, 31, 32, 33, 34, 35, 36, 37, 38, 39, 40, 5, 6, 8, 9, 58, 59, 60, 61, 62, 63, 64, 65, 56, 57] (by decide +kernel) (by decide +kernel)
set_option maxRecDepth 20000 in
theorem gX5_findDuties_X1_bestFor : GoodIn wsX5_findDuties (wsV RX5 145 RX1 yX1_bestFor wsX1_bestFor) := goodIn_app (goodIn_of _ (by decide +kernel)) ggX5_findDuties_X1_bestFor
set_option maxRecDepth 20000 in
theorem ggX5_findDuties_X1_assign : GoodIn wsX5_findDuties wsX1_assign := goodIn_r _ [44, 15, 45, 9, 40, 5, 6, 7, 8, 56, 57] (by decide +kernel) (by decide +kernel)
set_option maxRecDepth 20000 in
theorem gX5_findDuties_X1_assign : GoodIn wsX5_findDuties (wsV RX5 136 RX1 yX1_assign wsX1_assign) := goodIn_app (goodIn_of _ (by decide +kernel)) ggX5_findDuties_X1_assign
set_option maxRecDepth 20000 in
theorem ggX5_findDuties_X1_openOn : GoodIn wsX5_findDuties wsX1_openOn := goodIn_r _ [49, 40, 5, 6, 7, 8, 9, 56, 57] (by decide +kernel) (by decide +kernel)
set_option maxRecDepth 20000 in
theorem gX5_findDuties_X1_openOn : GoodIn wsX5_findDuties (wsV RX5 148 RX1 yX1_openOn wsX1_openOn) := goodIn_app (goodIn_of _ (by decide +kernel)) ggX5_findDuties_X1_openOn
theorem dX5_findDuties_0 : decode cX5_findDuties 0 = .ok (.iconst 0, 1) := by decide +kernel
theorem dX5_findDuties_1 : decode cX5_findDuties 1 = .ok (.istore_n 1, 1) := by decide +kernel
theorem dX5_findDuties_2 : decode cX5_findDuties 2 = .ok (.iload_n 1, 1) := by decide +kernel
theorem dX5_findDuties_3 : decode cX5_findDuties 3 = .ok (.getstatic 142, 3) := by decide +kernel
theorem dX5_findDuties_6 : decode cX5_findDuties 6 = .ok (.arraylength, 1) := by decide +kernel
theorem dX5_findDuties_7 : decode cX5_findDuties 7 = .ok (.if_icmp .ge 59, 3) := by decide +kernel
theorem dX5_findDuties_10 : decode cX5_findDuties 10 = .ok (.getstatic 142, 3) := by decide +kernel
theorem dX5_findDuties_13 : decode cX5_findDuties 13 = .ok (.iload_n 1, 1) := by decide +kernel
theorem dX5_findDuties_14 : decode cX5_findDuties 14 = .ok (.iaload, 1) := by decide +kernel
theorem dX5_findDuties_15 : decode cX5_findDuties 15 = .ok (.istore_n 2, 1) := by decide +kernel
theorem dX5_findDuties_16 : decode cX5_findDuties 16 = .ok (.aload_n 0, 1) := by decide +kernel
theorem dX5_findDuties_17 : decode cX5_findDuties 17 = .ok (.getfield 26, 3) := by decide +kernel
theorem dX5_findDuties_20 : decode cX5_findDuties 20 = .ok (.aload_n 0, 1) := by decide +kernel
theorem dX5_findDuties_21 : decode cX5_findDuties 21 = .ok (.getfield 44, 3) := by decide +kernel
theorem dX5_findDuties_24 : decode cX5_findDuties 24 = .ok (.iload_n 2, 1) := by decide +kernel
theorem dX5_findDuties_25 : decode cX5_findDuties 25 = .ok (.invokevirtual 133, 3) := by decide +kernel
theorem dX5_findDuties_28 : decode cX5_findDuties 28 = .ok (.iconst (-1), 1) := by decide +kernel
theorem dX5_findDuties_29 : decode cX5_findDuties 29 = .ok (.if_icmp .ne 31, 3) := by decide +kernel
theorem dX5_findDuties_32 : decode cX5_findDuties 32 = .ok (.aload_n 0, 1) := by decide +kernel
theorem dX5_findDuties_33 : decode cX5_findDuties 33 = .ok (.getfield 26, 3) := by decide +kernel
theorem dX5_findDuties_36 : decode cX5_findDuties 36 = .ok (.aload_n 0, 1) := by decide +kernel
theorem dX5_findDuties_37 : decode cX5_findDuties 37 = .ok (.getfield 44, 3) := by decide +kernel
theorem dX5_findDuties_40 : decode cX5_findDuties 40 = .ok (.iload_n 2, 1) := by decide +kernel
theorem dX5_findDuties_41 : decode cX5_findDuties 41 = .ok (.aload_n 0, 1) := by decide +kernel
theorem dX5_findDuties_42 : decode cX5_findDuties 42 = .ok (.getfield 26, 3) := by decide +kernel
theorem dX5_findDuties_45 : decode cX5_findDuties 45 = .ok (.aload_n 0, 1) := by decide +kernel
theorem dX5_findDuties_46 : decode cX5_findDuties 46 = .ok (.getfield 44, 3) := by decide +kernel
theorem dX5_findDuties_49 : decode cX5_findDuties 49 = .ok (.iload_n 2, 1) := by decide +kernel
theorem dX5_findDuties_50 : decode cX5_findDuties 50 = .ok (.aload_n 0, 1) := by decide +kernel
theorem dX5_findDuties_51 : decode cX5_findDuties 51 = .ok (.getfield 10, 3) := by decide +kernel
theorem dX5_findDuties_54 : decode cX5_findDuties 54 = .ok (.invokevirtual 145, 3) := by decide +kernel
theorem dX5_findDuties_57 : decode cX5_findDuties 57 = .ok (.invokevirtual 136, 3) := by decide +kernel
theorem dX5_findDuties_60 : decode cX5_findDuties 60 = .ok (.iinc 1 1, 3) := by decide +kernel
theorem dX5_findDuties_63 : decode cX5_findDuties 63 = .ok (.goto (-61), 3) := by decide +kernel
theorem dX5_findDuties_66 : decode cX5_findDuties 66 = .ok (.aload_n 0, 1) := by decide +kernel
theorem dX5_findDuties_67 : decode cX5_findDuties 67 = .ok (.getfield 26, 3) := by decide +kernel
theorem dX5_findDuties_70 : decode cX5_findDuties 70 = .ok (.aload_n 0, 1) := by decide +kernel
theorem dX5_findDuties_71 : decode cX5_findDuties 71 = .ok (.getfield 44, 3) := by decide +kernel
theorem dX5_findDuties_74 : decode cX5_findDuties 74 = .ok (.invokevirtual 148, 3) := by decide +kernel
theorem dX5_findDuties_77 : decode cX5_findDuties 77 = .ok (.ireturn, 1) := by decide +kernel
set_option maxRecDepth 20000 in
theorem ggX5_addFood_X5_checkArgument : GoodIn wsX5_addFood wsX5_checkArgument := goodIn_ca (goodIn_r _ [9, 10, 11] (by decide +kernel) (by decide +kernel)) (goodIn_sub (fun _ h => List.mem_cons_of_mem _ (List.mem_append_right _ h)) (by decide +kernel))
set_option maxRecDepth 20000 in
theorem gX5_addFood_X5_checkArgument : GoodIn wsX5_addFood (va_wsS RX5 62 yX5_checkArgument wsX5_checkArgument) := goodIn_app (goodIn_of _ (by decide +kernel)) ggX5_addFood_X5_checkArgument
theorem dX5_addFood_0 : decode cX5_addFood 0 = .ok (.iload_n 1, 1) := by decide +kernel
theorem dX5_addFood_1 : decode cX5_addFood 1 = .ok (.iconst 0, 1) := by decide +kernel
theorem dX5_addFood_2 : decode cX5_addFood 2 = .ok (.sipush 10000, 3) := by decide +kernel
theorem dX5_addFood_5 : decode cX5_addFood 5 = .ok (.invokestatic 62, 3) := by decide +kernel
theorem dX5_addFood_8 : decode cX5_addFood 8 = .ok (.aload_n 0, 1) := by decide +kernel
theorem dX5_addFood_9 : decode cX5_addFood 9 = .ok (.getfield 33, 3) := by decide +kernel
theorem dX5_addFood_12 : decode cX5_addFood 12 = .ok (.getfield 151, 3) := by decide +kernel
theorem dX5_addFood_15 : decode cX5_addFood 15 = .ok (.bipush 12, 2) := by decide +kernel
theorem dX5_addFood_17 : decode cX5_addFood 17 = .ok (.if_icmp .lt 13, 3) := by decide +kernel
theorem dX5_addFood_20 : decode cX5_addFood 20 = .ok (.new 51, 3) := by decide +kernel
theorem dX5_addFood_23 : decode cX5_addFood 23 = .ok (.dup, 1) := by decide +kernel
theorem dX5_addFood_24 : decode cX5_addFood 24 = .ok (.ldc 154, 2) := by decide +kernel
theorem dX5_addFood_26 : decode cX5_addFood 26 = .ok (.invokespecial 55, 3) := by decide +kernel
theorem dX5_addFood_29 : decode cX5_addFood 29 = .ok (.athrow, 1) := by decide +kernel
theorem dX5_addFood_30 : decode cX5_addFood 30 = .ok (.aload_n 0, 1) := by decide +kernel
theorem dX5_addFood_31 : decode cX5_addFood 31 = .ok (.getfield 33, 3) := by decide +kernel
theorem dX5_addFood_34 : decode cX5_addFood 34 = .ok (.getfield 156, 3) := by decide +kernel
theorem dX5_addFood_37 : decode cX5_addFood 37 = .ok (.aload_n 0, 1) := by decide +kernel
theorem dX5_addFood_38 : decode cX5_addFood 38 = .ok (.getfield 33, 3) := by decide +kernel
theorem dX5_addFood_41 : decode cX5_addFood 41 = .ok (.getfield 151, 3) := by decide +kernel
theorem dX5_addFood_44 : decode cX5_addFood 44 = .ok (.iload_n 1, 1) := by decide +kernel
theorem dX5_addFood_45 : decode cX5_addFood 45 = .ok (.iastore, 1) := by decide +kernel
theorem dX5_addFood_46 : decode cX5_addFood 46 = .ok (.aload_n 0, 1) := by decide +kernel
theorem dX5_addFood_47 : decode cX5_addFood 47 = .ok (.getfield 33, 3) := by decide +kernel
theorem dX5_addFood_50 : decode cX5_addFood 50 = .ok (.dup, 1) := by decide +kernel
theorem dX5_addFood_51 : decode cX5_addFood 51 = .ok (.getfield 151, 3) := by decide +kernel
theorem dX5_addFood_54 : decode cX5_addFood 54 = .ok (.iconst 1, 1) := by decide +kernel
theorem dX5_addFood_55 : decode cX5_addFood 55 = .ok (.iadd, 1) := by decide +kernel
theorem dX5_addFood_56 : decode cX5_addFood 56 = .ok (.putfield 151, 3) := by decide +kernel
theorem dX5_addFood_59 : decode cX5_addFood 59 = .ok (.aload_n 0, 1) := by decide +kernel
theorem dX5_addFood_60 : decode cX5_addFood 60 = .ok (.getfield 33, 3) := by decide +kernel
theorem dX5_addFood_63 : decode cX5_addFood 63 = .ok (.getfield 151, 3) := by decide +kernel
theorem dX5_addFood_66 : decode cX5_addFood 66 = .ok (.iconst 1, 1) := by decide +kernel
theorem dX5_addFood_67 : decode cX5_addFood 67 = .ok (.isub, 1) := by decide +kernel
theorem dX5_addFood_68 : decode cX5_addFood 68 = .ok (.ireturn, 1) := by decide +kernel
set_option maxRecDepth 20000 in
theorem ggX5_buy_X5_checkNumber : GoodIn wsX5_buy wsX5_checkNumber := goodIn_ca (goodIn_r _ [9, 10, 11] (by decide +kernel) (by decide +kernel)) (goodIn_sub (fun _ h => List.mem_cons_of_mem _ (List.mem_append_left _ (List.mem_append_right _ h))) (by decide +kernel))
set_option maxRecDepth 20000 in
theorem gX5_buy_X5_checkNumber : GoodIn wsX5_buy (va_wsS RX5 58 yX5_checkNumber wsX5_checkNumber) := goodIn_app (goodIn_of _ (by decide +kernel)) ggX5_buy_X5_checkNumber
set_option maxRecDepth 20000 in
theorem ggX5_buy_X5_checkArgument : GoodIn wsX5_buy wsX5_checkArgument := goodIn_ca (goodIn_r _ [14, 15, 16] (by decide +kernel) (by decide +kernel)) (goodIn_sub (fun _ h => List.mem_cons_of_mem _ (List.mem_append_right _ h)) (by decide +kernel))
set_option maxRecDepth 20000 in
theorem gX5_buy_X5_checkArgument : GoodIn wsX5_buy (va_wsS RX5 62 yX5_checkArgument wsX5_checkArgument) := goodIn_app (goodIn_of _ (by decide +kernel)) ggX5_buy_X5_checkArgument
theorem dX5_buy_0 : decode cX5_buy 0 = .ok (.iload_n 1, 1) := by decide +kernel
theorem dX5_buy_1 : decode cX5_buy 1 = .ok (.aload_n 0, 1) := by decide +kernel
theorem dX5_buy_2 : decode cX5_buy 2 = .ok (.getfield 33, 3) := by decide +kernel
theorem dX5_buy_5 : decode cX5_buy 5 = .ok (.getfield 151, 3) := by decide +kernel
theorem dX5_buy_8 : decode cX5_buy 8 = .ok (.invokestatic 58, 3) := by decide +kernel
theorem dX5_buy_11 : decode cX5_buy 11 = .ok (.iload_n 2, 1) := by decide +kernel
theorem dX5_buy_12 : decode cX5_buy 12 = .ok (.iconst 1, 1) := by decide +kernel
theorem dX5_buy_13 : decode cX5_buy 13 = .ok (.sipush 10000, 3) := by decide +kernel
theorem dX5_buy_16 : decode cX5_buy 16 = .ok (.invokestatic 62, 3) := by decide +kernel
theorem dX5_buy_19 : decode cX5_buy 19 = .ok (.aload_n 0, 1) := by decide +kernel
theorem dX5_buy_20 : decode cX5_buy 20 = .ok (.getfield 33, 3) := by decide +kernel
theorem dX5_buy_23 : decode cX5_buy 23 = .ok (.getfield 156, 3) := by decide +kernel
theorem dX5_buy_26 : decode cX5_buy 26 = .ok (.iload_n 1, 1) := by decide +kernel
theorem dX5_buy_27 : decode cX5_buy 27 = .ok (.iaload, 1) := by decide +kernel
theorem dX5_buy_28 : decode cX5_buy 28 = .ok (.iload_n 2, 1) := by decide +kernel
theorem dX5_buy_29 : decode cX5_buy 29 = .ok (.iadd, 1) := by decide +kernel
theorem dX5_buy_30 : decode cX5_buy 30 = .ok (.istore_n 3, 1) := by decide +kernel
theorem dX5_buy_31 : decode cX5_buy 31 = .ok (.iload_n 3, 1) := by decide +kernel
theorem dX5_buy_32 : decode cX5_buy 32 = .ok (.sipush 10000, 3) := by decide +kernel
theorem dX5_buy_35 : decode cX5_buy 35 = .ok (.if_icmp .le 13, 3) := by decide +kernel
theorem dX5_buy_38 : decode cX5_buy 38 = .ok (.new 51, 3) := by decide +kernel
theorem dX5_buy_41 : decode cX5_buy 41 = .ok (.dup, 1) := by decide +kernel
theorem dX5_buy_42 : decode cX5_buy 42 = .ok (.ldc 159, 2) := by decide +kernel
theorem dX5_buy_44 : decode cX5_buy 44 = .ok (.invokespecial 55, 3) := by decide +kernel
theorem dX5_buy_47 : decode cX5_buy 47 = .ok (.athrow, 1) := by decide +kernel
theorem dX5_buy_48 : decode cX5_buy 48 = .ok (.aload_n 0, 1) := by decide +kernel
theorem dX5_buy_49 : decode cX5_buy 49 = .ok (.getfield 33, 3) := by decide +kernel
theorem dX5_buy_52 : decode cX5_buy 52 = .ok (.getfield 156, 3) := by decide +kernel
theorem dX5_buy_55 : decode cX5_buy 55 = .ok (.iload_n 1, 1) := by decide +kernel
theorem dX5_buy_56 : decode cX5_buy 56 = .ok (.iload_n 3, 1) := by decide +kernel
theorem dX5_buy_57 : decode cX5_buy 57 = .ok (.iastore, 1) := by decide +kernel
theorem dX5_buy_58 : decode cX5_buy 58 = .ok (.iload_n 3, 1) := by decide +kernel
theorem dX5_buy_59 : decode cX5_buy 59 = .ok (.ireturn, 1) := by decide +kernel
set_option maxRecDepth 20000 in
theorem ggX5_store_X5_checkNumber : GoodIn wsX5_store wsX5_checkNumber := goodIn_ca (goodIn_r _ [7, 8, 9] (by decide +kernel) (by decide +kernel)) (goodIn_sub (fun _ h => List.mem_cons_of_mem _ (List.mem_append_right _ h)) (by decide +kernel))
set_option maxRecDepth 20000 in
theorem gX5_store_X5_checkNumber : GoodIn wsX5_store (va_wsS RX5 58 yX5_checkNumber wsX5_checkNumber) := goodIn_app (goodIn_of _ (by decide +kernel)) ggX5_store_X5_checkNumber
theorem dX5_store_0 : decode cX5_store 0 = .ok (.iload_n 1, 1) := by decide +kernel
theorem dX5_store_1 : decode cX5_store 1 = .ok (.aload_n 0, 1) := by decide +kernel
theorem dX5_store_2 : decode cX5_store 2 = .ok (.getfield 33, 3) := by decide +kernel
theorem dX5_store_5 : decode cX5_store 5 = .ok (.getfield 151, 3) := by decide +kernel
theorem dX5_store_8 : decode cX5_store 8 = .ok (.invokestatic 58, 3) := by decide +kernel
theorem dX5_store_11 : decode cX5_store 11 = .ok (.aload_n 0, 1) := by decide +kernel
theorem dX5_store_12 : decode cX5_store 12 = .ok (.getfield 33, 3) := by decide +kernel
theorem dX5_store_15 : decode cX5_store 15 = .ok (.getfield 156, 3) := by decide +kernel
theorem dX5_store_18 : decode cX5_store 18 = .ok (.iload_n 1, 1) := by decide +kernel
theorem dX5_store_19 : decode cX5_store 19 = .ok (.iaload, 1) := by decide +kernel
theorem dX5_store_20 : decode cX5_store 20 = .ok (.ireturn, 1) := by decide +kernel
set_option maxRecDepth 20000 in
theorem ggX5_diet_X5_checkNumber : GoodIn wsX5_diet wsX5_checkNumber := goodIn_ca (goodIn_r _ [9, 10, 11] (by decide +kernel) (by decide +kernel)) (goodIn_sub (fun _ h => List.mem_cons_of_mem _ (List.mem_append_right _ h)) (by decide +kernel))
set_option maxRecDepth 20000 in
theorem gX5_diet_X5_checkNumber : GoodIn wsX5_diet (va_wsS RX5 58 yX5_checkNumber wsX5_checkNumber) := goodIn_app (goodIn_of _ (by decide +kernel)) ggX5_diet_X5_checkNumber
theorem dX5_diet_0 : decode cX5_diet 0 = .ok (.iload_n 1, 1) := by decide +kernel
theorem dX5_diet_1 : decode cX5_diet 1 = .ok (.aload_n 0, 1) := by decide +kernel
theorem dX5_diet_2 : decode cX5_diet 2 = .ok (.getfield 10, 3) := by decide +kernel
theorem dX5_diet_5 : decode cX5_diet 5 = .ok (.getfield 66, 3) := by decide +kernel
theorem dX5_diet_8 : decode cX5_diet 8 = .ok (.invokestatic 58, 3) := by decide +kernel
theorem dX5_diet_11 : decode cX5_diet 11 = .ok (.iload_n 2, 1) := by decide +kernel
theorem dX5_diet_12 : decode cX5_diet 12 = .ok (.aload_n 0, 1) := by decide +kernel
theorem dX5_diet_13 : decode cX5_diet 13 = .ok (.getfield 33, 3) := by decide +kernel
theorem dX5_diet_16 : decode cX5_diet 16 = .ok (.getfield 151, 3) := by decide +kernel
theorem dX5_diet_19 : decode cX5_diet 19 = .ok (.invokestatic 58, 3) := by decide +kernel
theorem dX5_diet_22 : decode cX5_diet 22 = .ok (.aload_n 0, 1) := by decide +kernel
theorem dX5_diet_23 : decode cX5_diet 23 = .ok (.getfield 10, 3) := by decide +kernel
theorem dX5_diet_26 : decode cX5_diet 26 = .ok (.getfield 161, 3) := by decide +kernel
theorem dX5_diet_29 : decode cX5_diet 29 = .ok (.iload_n 1, 1) := by decide +kernel
theorem dX5_diet_30 : decode cX5_diet 30 = .ok (.iaload, 1) := by decide +kernel
theorem dX5_diet_31 : decode cX5_diet 31 = .ok (.istore 4, 2) := by decide +kernel
theorem dX5_diet_33 : decode cX5_diet 33 = .ok (.iconst 1, 1) := by decide +kernel
theorem dX5_diet_34 : decode cX5_diet 34 = .ok (.iload_n 2, 1) := by decide +kernel
theorem dX5_diet_35 : decode cX5_diet 35 = .ok (.ishl, 1) := by decide +kernel
theorem dX5_diet_36 : decode cX5_diet 36 = .ok (.istore 5, 2) := by decide +kernel
theorem dX5_diet_38 : decode cX5_diet 38 = .ok (.aload_n 0, 1) := by decide +kernel
theorem dX5_diet_39 : decode cX5_diet 39 = .ok (.getfield 10, 3) := by decide +kernel
theorem dX5_diet_42 : decode cX5_diet 42 = .ok (.getfield 161, 3) := by decide +kernel
theorem dX5_diet_45 : decode cX5_diet 45 = .ok (.iload_n 1, 1) := by decide +kernel
theorem dX5_diet_46 : decode cX5_diet 46 = .ok (.iload_n 3, 1) := by decide +kernel
theorem dX5_diet_47 : decode cX5_diet 47 = .ok (.ifCond .eq 13, 3) := by decide +kernel
theorem dX5_diet_50 : decode cX5_diet 50 = .ok (.iload 4, 2) := by decide +kernel
theorem dX5_diet_52 : decode cX5_diet 52 = .ok (.iload 5, 2) := by decide +kernel
theorem dX5_diet_54 : decode cX5_diet 54 = .ok (.iconst (-1), 1) := by decide +kernel
theorem dX5_diet_55 : decode cX5_diet 55 = .ok (.ixor, 1) := by decide +kernel
theorem dX5_diet_56 : decode cX5_diet 56 = .ok (.iand, 1) := by decide +kernel
theorem dX5_diet_57 : decode cX5_diet 57 = .ok (.goto 8, 3) := by decide +kernel
theorem dX5_diet_60 : decode cX5_diet 60 = .ok (.iload 4, 2) := by decide +kernel
theorem dX5_diet_62 : decode cX5_diet 62 = .ok (.iload 5, 2) := by decide +kernel
theorem dX5_diet_64 : decode cX5_diet 64 = .ok (.ior, 1) := by decide +kernel
theorem dX5_diet_65 : decode cX5_diet 65 = .ok (.iastore, 1) := by decide +kernel
theorem dX5_diet_66 : decode cX5_diet 66 = .ok (.iload 4, 2) := by decide +kernel
theorem dX5_diet_68 : decode cX5_diet 68 = .ok (.iload 5, 2) := by decide +kernel
theorem dX5_diet_70 : decode cX5_diet 70 = .ok (.iand, 1) := by decide +kernel
theorem dX5_diet_71 : decode cX5_diet 71 = .ok (.ifCond .ne 7, 3) := by decide +kernel
theorem dX5_diet_74 : decode cX5_diet 74 = .ok (.iconst 1, 1) := by decide +kernel
theorem dX5_diet_75 : decode cX5_diet 75 = .ok (.goto 4, 3) := by decide +kernel
theorem dX5_diet_78 : decode cX5_diet 78 = .ok (.iconst 0, 1) := by decide +kernel
theorem dX5_diet_79 : decode cX5_diet 79 = .ok (.ireturn, 1) := by decide +kernel
theorem dX5_addMeal_0 : decode cX5_addMeal 0 = .ok (.aload_n 0, 1) := by decide +kernel
theorem dX5_addMeal_1 : decode cX5_addMeal 1 = .ok (.getfield 33, 3) := by decide +kernel
theorem dX5_addMeal_4 : decode cX5_addMeal 4 = .ok (.getfield 164, 3) := by decide +kernel
theorem dX5_addMeal_7 : decode cX5_addMeal 7 = .ok (.bipush 10, 2) := by decide +kernel
theorem dX5_addMeal_9 : decode cX5_addMeal 9 = .ok (.if_icmp .lt 13, 3) := by decide +kernel
theorem dX5_addMeal_12 : decode cX5_addMeal 12 = .ok (.new 51, 3) := by decide +kernel
theorem dX5_addMeal_15 : decode cX5_addMeal 15 = .ok (.dup, 1) := by decide +kernel
theorem dX5_addMeal_16 : decode cX5_addMeal 16 = .ok (.ldc 167, 2) := by decide +kernel
theorem dX5_addMeal_18 : decode cX5_addMeal 18 = .ok (.invokespecial 55, 3) := by decide +kernel
theorem dX5_addMeal_21 : decode cX5_addMeal 21 = .ok (.athrow, 1) := by decide +kernel
theorem dX5_addMeal_22 : decode cX5_addMeal 22 = .ok (.aload_n 0, 1) := by decide +kernel
theorem dX5_addMeal_23 : decode cX5_addMeal 23 = .ok (.getfield 33, 3) := by decide +kernel
theorem dX5_addMeal_26 : decode cX5_addMeal 26 = .ok (.dup, 1) := by decide +kernel
theorem dX5_addMeal_27 : decode cX5_addMeal 27 = .ok (.getfield 164, 3) := by decide +kernel
theorem dX5_addMeal_30 : decode cX5_addMeal 30 = .ok (.iconst 1, 1) := by decide +kernel
theorem dX5_addMeal_31 : decode cX5_addMeal 31 = .ok (.iadd, 1) := by decide +kernel
theorem dX5_addMeal_32 : decode cX5_addMeal 32 = .ok (.putfield 164, 3) := by decide +kernel
theorem dX5_addMeal_35 : decode cX5_addMeal 35 = .ok (.aload_n 0, 1) := by decide +kernel
theorem dX5_addMeal_36 : decode cX5_addMeal 36 = .ok (.getfield 33, 3) := by decide +kernel
theorem dX5_addMeal_39 : decode cX5_addMeal 39 = .ok (.getfield 164, 3) := by decide +kernel
theorem dX5_addMeal_42 : decode cX5_addMeal 42 = .ok (.iconst 1, 1) := by decide +kernel
theorem dX5_addMeal_43 : decode cX5_addMeal 43 = .ok (.isub, 1) := by decide +kernel
theorem dX5_addMeal_44 : decode cX5_addMeal 44 = .ok (.ireturn, 1) := by decide +kernel
set_option maxRecDepth 20000 in
theorem ggX5_need_X5_checkNumber : GoodIn wsX5_need wsX5_checkNumber := goodIn_ca (goodIn_r _ [8, 9, 10] (by decide +kernel) (by decide +kernel)) (goodIn_sub (fun _ h => List.mem_cons_of_mem _ (List.mem_append_left _ (List.mem_append_right _ h))) (by decide +kernel))
set_option maxRecDepth 20000 in
theorem gX5_need_X5_checkNumber : GoodIn wsX5_need (va_wsS RX5 58 yX5_checkNumber wsX5_checkNumber) := goodIn_app (goodIn_of _ (by decide +kernel)) ggX5_need_X5_checkNumber
set_option maxRecDepth 20000 in
theorem ggX5_need_X5_checkArgument : GoodIn wsX5_need wsX5_checkArgument := goodIn_ca (goodIn_r _ [13, 14, 15] (by decide +kernel) (by decide +kernel)) (goodIn_sub (fun _ h => List.mem_cons_of_mem _ (List.mem_append_right _ h)) (by decide +kernel))
set_option maxRecDepth 20000 in
theorem gX5_need_X5_checkArgument : GoodIn wsX5_need (va_wsS RX5 62 yX5_checkArgument wsX5_checkArgument) := goodIn_app (goodIn_of _ (by decide +kernel)) ggX5_need_X5_checkArgument
set_option maxRecDepth 20000 in
theorem ggX5_need_X2_needOf : GoodIn wsX5_need wsX2_needOf := goodIn_r _ [20, 21, 28, 29, 30, 31, 32, 33] (by decide +kernel) (by decide +kernel)
set_option maxRecDepth 20000 in
theorem gX5_need_X2_needOf : GoodIn wsX5_need (wsV RX5 169 RX2 yX2_needOf wsX2_needOf) := goodIn_app (goodIn_of _ (by decide +kernel)) ggX5_need_X2_needOf
theorem dX5_need_0 : decode cX5_need 0 = .ok (.iload_n 1, 1) := by decide +kernel
theorem dX5_need_1 : decode cX5_need 1 = .ok (.aload_n 0, 1) := by decide +kernel
theorem dX5_need_2 : decode cX5_need 2 = .ok (.getfield 33, 3) := by decide +kernel
theorem dX5_need_5 : decode cX5_need 5 = .ok (.getfield 164, 3) := by decide +kernel
theorem dX5_need_8 : decode cX5_need 8 = .ok (.invokestatic 58, 3) := by decide +kernel
theorem dX5_need_11 : decode cX5_need 11 = .ok (.iload_n 2, 1) := by decide +kernel
theorem dX5_need_12 : decode cX5_need 12 = .ok (.aload_n 0, 1) := by decide +kernel
theorem dX5_need_13 : decode cX5_need 13 = .ok (.getfield 33, 3) := by decide +kernel
theorem dX5_need_16 : decode cX5_need 16 = .ok (.getfield 151, 3) := by decide +kernel
theorem dX5_need_19 : decode cX5_need 19 = .ok (.invokestatic 58, 3) := by decide +kernel
theorem dX5_need_22 : decode cX5_need 22 = .ok (.iload_n 3, 1) := by decide +kernel
theorem dX5_need_23 : decode cX5_need 23 = .ok (.iconst 0, 1) := by decide +kernel
theorem dX5_need_24 : decode cX5_need 24 = .ok (.bipush 50, 2) := by decide +kernel
theorem dX5_need_26 : decode cX5_need 26 = .ok (.invokestatic 62, 3) := by decide +kernel
theorem dX5_need_29 : decode cX5_need 29 = .ok (.aload_n 0, 1) := by decide +kernel
theorem dX5_need_30 : decode cX5_need 30 = .ok (.getfield 33, 3) := by decide +kernel
theorem dX5_need_33 : decode cX5_need 33 = .ok (.iload_n 1, 1) := by decide +kernel
theorem dX5_need_34 : decode cX5_need 34 = .ok (.iload_n 2, 1) := by decide +kernel
theorem dX5_need_35 : decode cX5_need 35 = .ok (.invokevirtual 169, 3) := by decide +kernel
theorem dX5_need_38 : decode cX5_need 38 = .ok (.istore 4, 2) := by decide +kernel
theorem dX5_need_40 : decode cX5_need 40 = .ok (.aload_n 0, 1) := by decide +kernel
theorem dX5_need_41 : decode cX5_need 41 = .ok (.getfield 33, 3) := by decide +kernel
theorem dX5_need_44 : decode cX5_need 44 = .ok (.getfield 172, 3) := by decide +kernel
theorem dX5_need_47 : decode cX5_need 47 = .ok (.iload_n 1, 1) := by decide +kernel
theorem dX5_need_48 : decode cX5_need 48 = .ok (.bipush 12, 2) := by decide +kernel
theorem dX5_need_50 : decode cX5_need 50 = .ok (.imul, 1) := by decide +kernel
theorem dX5_need_51 : decode cX5_need 51 = .ok (.iload_n 2, 1) := by decide +kernel
theorem dX5_need_52 : decode cX5_need 52 = .ok (.iadd, 1) := by decide +kernel
theorem dX5_need_53 : decode cX5_need 53 = .ok (.iload_n 3, 1) := by decide +kernel
theorem dX5_need_54 : decode cX5_need 54 = .ok (.iastore, 1) := by decide +kernel
theorem dX5_need_55 : decode cX5_need 55 = .ok (.iload 4, 2) := by decide +kernel
theorem dX5_need_57 : decode cX5_need 57 = .ok (.ireturn, 1) := by decide +kernel
set_option maxRecDepth 20000 in
theorem ggX5_eaters_X5_checkNumber : GoodIn wsX5_eaters wsX5_checkNumber := goodIn_ca (goodIn_r _ [7, 8, 9] (by decide +kernel) (by decide +kernel)) (goodIn_sub (fun _ h => List.mem_cons_of_mem _ (List.mem_append_right _ h)) (by decide +kernel))
set_option maxRecDepth 20000 in
theorem gX5_eaters_X5_checkNumber : GoodIn wsX5_eaters (va_wsS RX5 58 yX5_checkNumber wsX5_checkNumber) := goodIn_app (goodIn_of _ (by decide +kernel)) ggX5_eaters_X5_checkNumber
set_option maxRecDepth 20000 in
theorem ggX5_eaters_X2_eatersOf : GoodIn wsX5_eaters wsX2_eatersOf := goodIn_r _ [14, 15, 16, 17, 18, 19, 13, 20, 21, 22, 23, 24, 25, 26, 39, 40, 41, 42, 43, 44, 45, 46, 33, 34, 35, 36, 37, 38] (by decide +kernel) (by decide +kernel)
set_option maxRecDepth 20000 in
theorem gX5_eaters_X2_eatersOf : GoodIn wsX5_eaters (wsV RX5 175 RX2 yX2_eatersOf wsX2_eatersOf) := goodIn_app (goodIn_of _ (by decide +kernel)) ggX5_eaters_X2_eatersOf
theorem dX5_eaters_0 : decode cX5_eaters 0 = .ok (.iload_n 1, 1) := by decide +kernel
theorem dX5_eaters_1 : decode cX5_eaters 1 = .ok (.aload_n 0, 1) := by decide +kernel
theorem dX5_eaters_2 : decode cX5_eaters 2 = .ok (.getfield 33, 3) := by decide +kernel
theorem dX5_eaters_5 : decode cX5_eaters 5 = .ok (.getfield 164, 3) := by decide +kernel
theorem dX5_eaters_8 : decode cX5_eaters 8 = .ok (.invokestatic 58, 3) := by decide +kernel
theorem dX5_eaters_11 : decode cX5_eaters 11 = .ok (.aload_n 0, 1) := by decide +kernel
theorem dX5_eaters_12 : decode cX5_eaters 12 = .ok (.getfield 33, 3) := by decide +kernel
theorem dX5_eaters_15 : decode cX5_eaters 15 = .ok (.iload_n 1, 1) := by decide +kernel
theorem dX5_eaters_16 : decode cX5_eaters 16 = .ok (.aload_n 0, 1) := by decide +kernel
theorem dX5_eaters_17 : decode cX5_eaters 17 = .ok (.getfield 10, 3) := by decide +kernel
theorem dX5_eaters_20 : decode cX5_eaters 20 = .ok (.invokevirtual 175, 3) := by decide +kernel
theorem dX5_eaters_23 : decode cX5_eaters 23 = .ok (.lreturn, 1) := by decide +kernel
set_option maxRecDepth 20000 in
theorem ggX5_lacks_X5_checkNumber : GoodIn wsX5_lacks wsX5_checkNumber := goodIn_ca (goodIn_r _ [13, 14, 15] (by decide +kernel) (by decide +kernel)) (goodIn_sub (fun _ h => List.mem_cons_of_mem _ (List.mem_append_left _ (List.mem_append_right _ h))) (by decide +kernel))
set_option maxRecDepth 20000 in
theorem gX5_lacks_X5_checkNumber : GoodIn wsX5_lacks (va_wsS RX5 58 yX5_checkNumber wsX5_checkNumber) := goodIn_app (goodIn_of _ (by decide +kernel)) ggX5_lacks_X5_checkNumber
set_option maxRecDepth 20000 in
theorem ggX5_lacks_X5_checkArgument : GoodIn wsX5_lacks wsX5_checkArgument := goodIn_ca (goodIn_r _ [18, 19, 20] (by decide +kernel) (by decide +kernel)) (goodIn_sub (fun _ h => List.mem_cons_of_mem _ (List.mem_append_right _ h)) (by decide +kernel))
set_option maxRecDepth 20000 in
theorem gX5_lacks_X5_checkArgument : GoodIn wsX5_lacks (va_wsS RX5 62 yX5_checkArgument wsX5_checkArgument) := goodIn_app (goodIn_of _ (by decide +kernel)) ggX5_lacks_X5_checkArgument
set_option maxRecDepth 20000 in
theorem ggX5_lacks_X2_eatersOf : GoodIn wsX5_lacks wsX2_eatersOf := goodIn_r _ [25, 26, 27, 28, 29, 30, 24, 31, 32, 33, 34, 35, 36, 37, 58, 59, 60, 61, 62, 63, 64, 65, 52, 53, 54, 55, 56, 57] (by decide +kernel) (by decide +kernel)
set_option maxRecDepth 20000 in
theorem gX5_lacks_X2_eatersOf : GoodIn wsX5_lacks (wsV RX5 175 RX2 yX2_eatersOf wsX2_eatersOf) := goodIn_app (goodIn_of _ (by decide +kernel)) ggX5_lacks_X2_eatersOf
set_option maxRecDepth 20000 in
theorem ggX5_lacks_J13_bitCount_95d88 : GoodIn wsX5_lacks wsJ13_bitCount_95d88 := goodIn_r _ [41, 42, 43, 44] (by decide +kernel) (by decide +kernel)
set_option maxRecDepth 20000 in
theorem gX5_lacks_J13_bitCount_95d88 : GoodIn wsX5_lacks (va_wsS RX5 179 yJ13_bitCount_95d88 wsJ13_bitCount_95d88) := goodIn_app (goodIn_of _ (by decide +kernel)) ggX5_lacks_J13_bitCount_95d88
set_option maxRecDepth 20000 in
theorem ggX5_lacks_X2_needOf : GoodIn wsX5_lacks wsX2_needOf := goodIn_r _ [36, 37, 52, 53, 54, 55, 56, 57] (by decide +kernel) (by decide +kernel)
set_option maxRecDepth 20000 in
theorem gX5_lacks_X2_needOf : GoodIn wsX5_lacks (wsV RX5 169 RX2 yX2_needOf wsX2_needOf) := goodIn_app (goodIn_of _ (by decide +kernel)) ggX5_lacks_X2_needOf
theorem dX5_lacks_0 : decode cX5_lacks 0 = .ok (.iload_n 1, 1) := by decide +kernel
theorem dX5_lacks_1 : decode cX5_lacks 1 = .ok (.aload_n 0, 1) := by decide +kernel
theorem dX5_lacks_2 : decode cX5_lacks 2 = .ok (.getfield 33, 3) := by decide +kernel
theorem dX5_lacks_5 : decode cX5_lacks 5 = .ok (.getfield 164, 3) := by decide +kernel
theorem dX5_lacks_8 : decode cX5_lacks 8 = .ok (.invokestatic 58, 3) := by decide +kernel
theorem dX5_lacks_11 : decode cX5_lacks 11 = .ok (.iload_n 2, 1) := by decide +kernel
theorem dX5_lacks_12 : decode cX5_lacks 12 = .ok (.aload_n 0, 1) := by decide +kernel
theorem dX5_lacks_13 : decode cX5_lacks 13 = .ok (.getfield 33, 3) := by decide +kernel
theorem dX5_lacks_16 : decode cX5_lacks 16 = .ok (.getfield 151, 3) := by decide +kernel
theorem dX5_lacks_19 : decode cX5_lacks 19 = .ok (.invokestatic 58, 3) := by decide +kernel
theorem dX5_lacks_22 : decode cX5_lacks 22 = .ok (.iload_n 3, 1) := by decide +kernel
theorem dX5_lacks_23 : decode cX5_lacks 23 = .ok (.iconst 1, 1) := by decide +kernel
theorem dX5_lacks_24 : decode cX5_lacks 24 = .ok (.bipush 100, 2) := by decide +kernel
theorem dX5_lacks_26 : decode cX5_lacks 26 = .ok (.invokestatic 62, 3) := by decide +kernel
theorem dX5_lacks_29 : decode cX5_lacks 29 = .ok (.aload_n 0, 1) := by decide +kernel
theorem dX5_lacks_30 : decode cX5_lacks 30 = .ok (.getfield 33, 3) := by decide +kernel
theorem dX5_lacks_33 : decode cX5_lacks 33 = .ok (.iload_n 1, 1) := by decide +kernel
theorem dX5_lacks_34 : decode cX5_lacks 34 = .ok (.aload_n 0, 1) := by decide +kernel
theorem dX5_lacks_35 : decode cX5_lacks 35 = .ok (.getfield 10, 3) := by decide +kernel
theorem dX5_lacks_38 : decode cX5_lacks 38 = .ok (.invokevirtual 175, 3) := by decide +kernel
theorem dX5_lacks_41 : decode cX5_lacks 41 = .ok (.invokestatic 179, 3) := by decide +kernel
theorem dX5_lacks_44 : decode cX5_lacks 44 = .ok (.iload_n 3, 1) := by decide +kernel
theorem dX5_lacks_45 : decode cX5_lacks 45 = .ok (.imul, 1) := by decide +kernel
theorem dX5_lacks_46 : decode cX5_lacks 46 = .ok (.istore 4, 2) := by decide +kernel
theorem dX5_lacks_48 : decode cX5_lacks 48 = .ok (.iconst 0, 1) := by decide +kernel
theorem dX5_lacks_49 : decode cX5_lacks 49 = .ok (.aload_n 0, 1) := by decide +kernel
theorem dX5_lacks_50 : decode cX5_lacks 50 = .ok (.getfield 33, 3) := by decide +kernel
theorem dX5_lacks_53 : decode cX5_lacks 53 = .ok (.iload_n 1, 1) := by decide +kernel
theorem dX5_lacks_54 : decode cX5_lacks 54 = .ok (.iload_n 2, 1) := by decide +kernel
theorem dX5_lacks_55 : decode cX5_lacks 55 = .ok (.invokevirtual 169, 3) := by decide +kernel
theorem dX5_lacks_58 : decode cX5_lacks 58 = .ok (.iload 4, 2) := by decide +kernel
theorem dX5_lacks_60 : decode cX5_lacks 60 = .ok (.imul, 1) := by decide +kernel
theorem dX5_lacks_61 : decode cX5_lacks 61 = .ok (.aload_n 0, 1) := by decide +kernel
theorem dX5_lacks_62 : decode cX5_lacks 62 = .ok (.getfield 33, 3) := by decide +kernel
theorem dX5_lacks_65 : decode cX5_lacks 65 = .ok (.getfield 156, 3) := by decide +kernel
theorem dX5_lacks_68 : decode cX5_lacks 68 = .ok (.iload_n 2, 1) := by decide +kernel
theorem dX5_lacks_69 : decode cX5_lacks 69 = .ok (.iaload, 1) := by decide +kernel
theorem dX5_lacks_70 : decode cX5_lacks 70 = .ok (.isub, 1) := by decide +kernel
theorem dX5_lacks_71 : decode cX5_lacks 71 = .ok (.invokestatic 185, 3) := by decide +kernel
theorem dX5_lacks_74 : decode cX5_lacks 74 = .ok (.ireturn, 1) := by decide +kernel
set_option maxRecDepth 20000 in
theorem ggX5_eat_X5_checkNumber : GoodIn wsX5_eat wsX5_checkNumber := goodIn_ca (goodIn_r _ [9, 10, 11] (by decide +kernel) (by decide +kernel)) (goodIn_sub (fun _ h => List.mem_cons_of_mem _ (List.mem_append_right _ h)) (by decide +kernel))
set_option maxRecDepth 20000 in
theorem gX5_eat_X5_checkNumber : GoodIn wsX5_eat (va_wsS RX5 58 yX5_checkNumber wsX5_checkNumber) := goodIn_app (goodIn_of _ (by decide +kernel)) ggX5_eat_X5_checkNumber
set_option maxRecDepth 20000 in
theorem ggX5_eat_X2_canBeEaten : GoodIn wsX5_eat wsX2_canBeEaten := goodIn_r _ [16, 17, 18, 19, 20, 15, 21, 22, 23, 24, 25, 26, 27, 28, 29, 30, 31, 32, 33, 34, 35, 36, 37, 38, 39, 40, 41, 42, 43, 44, 45, 57, 58, 59, 60, 61, 62, 63, 64, 65, 66, 67, 68, 69, 70] (by decide +kernel) (by decide +kernel)
set_option maxRecDepth 20000 in
theorem gX5_eat_X2_canBeEaten : GoodIn wsX5_eat (wsV RX5 190 RX2 yX2_canBeEaten wsX2_canBeEaten) := goodIn_app (goodIn_of _ (by decide +kernel)) ggX5_eat_X2_canBeEaten
set_option maxRecDepth 20000 in
theorem ggX5_eat_X2_serve : GoodIn wsX5_eat wsX2_serve := goodIn_r _ [49, 28, 45, 50, 17, 18, 19, 20, 15, 21, 22, 23, 24, 25, 26, 27, 29, 30, 31, 32, 33, 34, 35, 36, 37, 38, 39, 40, 57, 58, 59, 60, 61, 62, 63, 64, 65, 66, 67, 68, 69, 70] (by decide +kernel) (by decide +kernel)
set_option maxRecDepth 20000 in
theorem gX5_eat_X2_serve : GoodIn wsX5_eat (wsV RX5 196 RX2 yX2_serve wsX2_serve) := goodIn_app (goodIn_of _ (by decide +kernel)) ggX5_eat_X2_serve
theorem dX5_eat_0 : decode cX5_eat 0 = .ok (.iload_n 1, 1) := by decide +kernel
theorem dX5_eat_1 : decode cX5_eat 1 = .ok (.aload_n 0, 1) := by decide +kernel
theorem dX5_eat_2 : decode cX5_eat 2 = .ok (.getfield 33, 3) := by decide +kernel
theorem dX5_eat_5 : decode cX5_eat 5 = .ok (.getfield 164, 3) := by decide +kernel
theorem dX5_eat_8 : decode cX5_eat 8 = .ok (.invokestatic 58, 3) := by decide +kernel
theorem dX5_eat_11 : decode cX5_eat 11 = .ok (.aload_n 0, 1) := by decide +kernel
theorem dX5_eat_12 : decode cX5_eat 12 = .ok (.getfield 33, 3) := by decide +kernel
theorem dX5_eat_15 : decode cX5_eat 15 = .ok (.iload_n 1, 1) := by decide +kernel
theorem dX5_eat_16 : decode cX5_eat 16 = .ok (.aload_n 0, 1) := by decide +kernel
theorem dX5_eat_17 : decode cX5_eat 17 = .ok (.getfield 10, 3) := by decide +kernel
theorem dX5_eat_20 : decode cX5_eat 20 = .ok (.invokevirtual 190, 3) := by decide +kernel
theorem dX5_eat_23 : decode cX5_eat 23 = .ok (.ifCond .ne 13, 3) := by decide +kernel
theorem dX5_eat_26 : decode cX5_eat 26 = .ok (.new 51, 3) := by decide +kernel
theorem dX5_eat_29 : decode cX5_eat 29 = .ok (.dup, 1) := by decide +kernel
theorem dX5_eat_30 : decode cX5_eat 30 = .ok (.ldc 194, 2) := by decide +kernel
theorem dX5_eat_32 : decode cX5_eat 32 = .ok (.invokespecial 55, 3) := by decide +kernel
theorem dX5_eat_35 : decode cX5_eat 35 = .ok (.athrow, 1) := by decide +kernel
theorem dX5_eat_36 : decode cX5_eat 36 = .ok (.aload_n 0, 1) := by decide +kernel
theorem dX5_eat_37 : decode cX5_eat 37 = .ok (.getfield 33, 3) := by decide +kernel
theorem dX5_eat_40 : decode cX5_eat 40 = .ok (.iload_n 1, 1) := by decide +kernel
theorem dX5_eat_41 : decode cX5_eat 41 = .ok (.aload_n 0, 1) := by decide +kernel
theorem dX5_eat_42 : decode cX5_eat 42 = .ok (.getfield 10, 3) := by decide +kernel
theorem dX5_eat_45 : decode cX5_eat 45 = .ok (.invokevirtual 196, 3) := by decide +kernel
theorem dX5_eat_48 : decode cX5_eat 48 = .ok (.ireturn, 1) := by decide +kernel
set_option maxRecDepth 20000 in
theorem ggX5_table_X5_checkNumber : GoodIn wsX5_table wsX5_checkNumber := goodIn_ca (goodIn_r _ [7, 8, 9] (by decide +kernel) (by decide +kernel)) (goodIn_sub (fun _ h => List.mem_cons_of_mem _ (List.mem_append_right _ h)) (by decide +kernel))
set_option maxRecDepth 20000 in
theorem gX5_table_X5_checkNumber : GoodIn wsX5_table (va_wsS RX5 58 yX5_checkNumber wsX5_checkNumber) := goodIn_app (goodIn_of _ (by decide +kernel)) ggX5_table_X5_checkNumber
set_option maxRecDepth 20000 in
theorem ggX5_table_X5_hungryScouts : GoodIn wsX5_table wsX5_hungryScouts := goodIn_r _ [13, 3, 14, 1, 15, 16, 17, 18, 19, 20, 21, 22, 58, 59, 60, 61, 62, 63, 70, 71, 72, 73, 74, 75, 76, 77, 64, 65, 66, 67, 68, 69] (by decide +kernel) (by decide +kernel)
set_option maxRecDepth 20000 in
theorem gX5_table_X5_hungryScouts : GoodIn wsX5_table (wsV RX5 199 RX5 yX5_hungryScouts wsX5_hungryScouts) := goodIn_app (goodIn_of _ (by decide +kernel)) ggX5_table_X5_hungryScouts
set_option maxRecDepth 20000 in
theorem ggX5_table_X2_bestMeal : GoodIn wsX5_table wsX2_bestMeal := goodIn_r _ [27, 28, 29, 30, 31, 32, 33, 26, 34, 35, 36, 37, 38, 39, 40, 41, 42, 43, 44, 45, 46, 47, 17, 18, 19, 20, 21, 22, 48, 49, 50, 51, 52, 53, 54, 55, 56, 57, 64, 65, 66, 67, 68, 69, 70, 71, 72, 73, 74, 75, 76, 77] (by decide +kernel) (by decide +kernel)
set_option maxRecDepth 20000 in
theorem gX5_table_X2_bestMeal : GoodIn wsX5_table (wsV RX5 205 RX2 yX2_bestMeal wsX2_bestMeal) := goodIn_app (goodIn_of _ (by decide +kernel)) ggX5_table_X2_bestMeal
theorem dX5_table_0 : decode cX5_table 0 = .ok (.iload_n 1, 1) := by decide +kernel
theorem dX5_table_1 : decode cX5_table 1 = .ok (.iconst 3, 1) := by decide +kernel
theorem dX5_table_2 : decode cX5_table 2 = .ok (.invokestatic 58, 3) := by decide +kernel
theorem dX5_table_5 : decode cX5_table 5 = .ok (.iload_n 1, 1) := by decide +kernel
theorem dX5_table_6 : decode cX5_table 6 = .ok (.lookupswitch 39 #[(0, 26), (1, 31)], 26) := by decide +kernel
theorem dX5_table_32 : decode cX5_table 32 = .ok (.aload_n 0, 1) := by decide +kernel
theorem dX5_table_33 : decode cX5_table 33 = .ok (.invokevirtual 199, 3) := by decide +kernel
theorem dX5_table_36 : decode cX5_table 36 = .ok (.ireturn, 1) := by decide +kernel
theorem dX5_table_37 : decode cX5_table 37 = .ok (.aload_n 0, 1) := by decide +kernel
theorem dX5_table_38 : decode cX5_table 38 = .ok (.getfield 33, 3) := by decide +kernel
theorem dX5_table_41 : decode cX5_table 41 = .ok (.getfield 202, 3) := by decide +kernel
theorem dX5_table_44 : decode cX5_table 44 = .ok (.ireturn, 1) := by decide +kernel
theorem dX5_table_45 : decode cX5_table 45 = .ok (.aload_n 0, 1) := by decide +kernel
theorem dX5_table_46 : decode cX5_table 46 = .ok (.getfield 33, 3) := by decide +kernel
theorem dX5_table_49 : decode cX5_table 49 = .ok (.aload_n 0, 1) := by decide +kernel
theorem dX5_table_50 : decode cX5_table 50 = .ok (.getfield 10, 3) := by decide +kernel
theorem dX5_table_53 : decode cX5_table 53 = .ok (.invokevirtual 205, 3) := by decide +kernel
theorem dX5_table_56 : decode cX5_table 56 = .ok (.ireturn, 1) := by decide +kernel
set_option maxRecDepth 20000 in
theorem ggX5_addBadge_X5_checkArgument : GoodIn wsX5_addBadge wsX5_checkArgument := goodIn_ca (goodIn_r _ [9, 10, 11] (by decide +kernel) (by decide +kernel)) (goodIn_sub (fun _ h => List.mem_cons_of_mem _ (List.mem_append_right _ h)) (by decide +kernel))
set_option maxRecDepth 20000 in
theorem gX5_addBadge_X5_checkArgument : GoodIn wsX5_addBadge (va_wsS RX5 62 yX5_checkArgument wsX5_checkArgument) := goodIn_app (goodIn_of _ (by decide +kernel)) ggX5_addBadge_X5_checkArgument
theorem dX5_addBadge_0 : decode cX5_addBadge 0 = .ok (.iload_n 1, 1) := by decide +kernel
theorem dX5_addBadge_1 : decode cX5_addBadge 1 = .ok (.bipush 6, 2) := by decide +kernel
theorem dX5_addBadge_3 : decode cX5_addBadge 3 = .ok (.bipush 17, 2) := by decide +kernel
theorem dX5_addBadge_5 : decode cX5_addBadge 5 = .ok (.invokestatic 62, 3) := by decide +kernel
theorem dX5_addBadge_8 : decode cX5_addBadge 8 = .ok (.aload_n 0, 1) := by decide +kernel
theorem dX5_addBadge_9 : decode cX5_addBadge 9 = .ok (.getfield 40, 3) := by decide +kernel
theorem dX5_addBadge_12 : decode cX5_addBadge 12 = .ok (.getfield 209, 3) := by decide +kernel
theorem dX5_addBadge_15 : decode cX5_addBadge 15 = .ok (.bipush 8, 2) := by decide +kernel
theorem dX5_addBadge_17 : decode cX5_addBadge 17 = .ok (.if_icmp .lt 13, 3) := by decide +kernel
theorem dX5_addBadge_20 : decode cX5_addBadge 20 = .ok (.new 51, 3) := by decide +kernel
theorem dX5_addBadge_23 : decode cX5_addBadge 23 = .ok (.dup, 1) := by decide +kernel
theorem dX5_addBadge_24 : decode cX5_addBadge 24 = .ok (.ldc 210, 2) := by decide +kernel
theorem dX5_addBadge_26 : decode cX5_addBadge 26 = .ok (.invokespecial 55, 3) := by decide +kernel
theorem dX5_addBadge_29 : decode cX5_addBadge 29 = .ok (.athrow, 1) := by decide +kernel
theorem dX5_addBadge_30 : decode cX5_addBadge 30 = .ok (.aload_n 0, 1) := by decide +kernel
theorem dX5_addBadge_31 : decode cX5_addBadge 31 = .ok (.getfield 40, 3) := by decide +kernel
theorem dX5_addBadge_34 : decode cX5_addBadge 34 = .ok (.getfield 212, 3) := by decide +kernel
theorem dX5_addBadge_37 : decode cX5_addBadge 37 = .ok (.aload_n 0, 1) := by decide +kernel
theorem dX5_addBadge_38 : decode cX5_addBadge 38 = .ok (.getfield 40, 3) := by decide +kernel
theorem dX5_addBadge_41 : decode cX5_addBadge 41 = .ok (.getfield 209, 3) := by decide +kernel
theorem dX5_addBadge_44 : decode cX5_addBadge 44 = .ok (.iload_n 1, 1) := by decide +kernel
theorem dX5_addBadge_45 : decode cX5_addBadge 45 = .ok (.iastore, 1) := by decide +kernel
theorem dX5_addBadge_46 : decode cX5_addBadge 46 = .ok (.aload_n 0, 1) := by decide +kernel
theorem dX5_addBadge_47 : decode cX5_addBadge 47 = .ok (.getfield 40, 3) := by decide +kernel
theorem dX5_addBadge_50 : decode cX5_addBadge 50 = .ok (.dup, 1) := by decide +kernel
theorem dX5_addBadge_51 : decode cX5_addBadge 51 = .ok (.getfield 209, 3) := by decide +kernel
theorem dX5_addBadge_54 : decode cX5_addBadge 54 = .ok (.iconst 1, 1) := by decide +kernel
theorem dX5_addBadge_55 : decode cX5_addBadge 55 = .ok (.iadd, 1) := by decide +kernel
theorem dX5_addBadge_56 : decode cX5_addBadge 56 = .ok (.putfield 209, 3) := by decide +kernel
theorem dX5_addBadge_59 : decode cX5_addBadge 59 = .ok (.aload_n 0, 1) := by decide +kernel
theorem dX5_addBadge_60 : decode cX5_addBadge 60 = .ok (.getfield 40, 3) := by decide +kernel
theorem dX5_addBadge_63 : decode cX5_addBadge 63 = .ok (.getfield 209, 3) := by decide +kernel
theorem dX5_addBadge_66 : decode cX5_addBadge 66 = .ok (.iconst 1, 1) := by decide +kernel
theorem dX5_addBadge_67 : decode cX5_addBadge 67 = .ok (.isub, 1) := by decide +kernel
theorem dX5_addBadge_68 : decode cX5_addBadge 68 = .ok (.ireturn, 1) := by decide +kernel
set_option maxRecDepth 20000 in
theorem ggX5_want_X5_checkNumber : GoodIn wsX5_want wsX5_checkNumber := goodIn_ca (goodIn_r _ [7, 8, 9] (by decide +kernel) (by decide +kernel)) (goodIn_sub (fun _ h => List.mem_cons_of_mem _ (List.mem_append_left _ (List.mem_append_right _ h))) (by decide +kernel))
set_option maxRecDepth 20000 in
theorem gX5_want_X5_checkNumber : GoodIn wsX5_want (va_wsS RX5 58 yX5_checkNumber wsX5_checkNumber) := goodIn_app (goodIn_of _ (by decide +kernel)) ggX5_want_X5_checkNumber
set_option maxRecDepth 20000 in
theorem ggX5_want_X5_checkArgument : GoodIn wsX5_want wsX5_checkArgument := goodIn_ca (goodIn_r _ [12, 13, 14] (by decide +kernel) (by decide +kernel)) (goodIn_sub (fun _ h => List.mem_cons_of_mem _ (List.mem_append_right _ h)) (by decide +kernel))
set_option maxRecDepth 20000 in
theorem gX5_want_X5_checkArgument : GoodIn wsX5_want (va_wsS RX5 62 yX5_checkArgument wsX5_checkArgument) := goodIn_app (goodIn_of _ (by decide +kernel)) ggX5_want_X5_checkArgument
theorem dX5_want_0 : decode cX5_want 0 = .ok (.iload_n 1, 1) := by decide +kernel
theorem dX5_want_1 : decode cX5_want 1 = .ok (.aload_n 0, 1) := by decide +kernel
theorem dX5_want_2 : decode cX5_want 2 = .ok (.getfield 40, 3) := by decide +kernel
theorem dX5_want_5 : decode cX5_want 5 = .ok (.getfield 209, 3) := by decide +kernel
theorem dX5_want_8 : decode cX5_want 8 = .ok (.invokestatic 58, 3) := by decide +kernel
theorem dX5_want_11 : decode cX5_want 11 = .ok (.iload_n 2, 1) := by decide +kernel
theorem dX5_want_12 : decode cX5_want 12 = .ok (.bipush 10, 2) := by decide +kernel
theorem dX5_want_14 : decode cX5_want 14 = .ok (.invokestatic 58, 3) := by decide +kernel
theorem dX5_want_17 : decode cX5_want 17 = .ok (.iload_n 3, 1) := by decide +kernel
theorem dX5_want_18 : decode cX5_want 18 = .ok (.iconst 0, 1) := by decide +kernel
theorem dX5_want_19 : decode cX5_want 19 = .ok (.bipush 100, 2) := by decide +kernel
theorem dX5_want_21 : decode cX5_want 21 = .ok (.invokestatic 62, 3) := by decide +kernel
theorem dX5_want_24 : decode cX5_want 24 = .ok (.iload_n 1, 1) := by decide +kernel
end
section
theorem dX5_want_25 : decode cX5_want 25 = .ok (.bipush 10, 2) := by decide +kernel
theorem dX5_want_27 : decode cX5_want 27 = .ok (.imul, 1) := by decide +kernel
theorem dX5_want_28 : decode cX5_want 28 = .ok (.iload_n 2, 1) := by decide +kernel
theorem dX5_want_29 : decode cX5_want 29 = .ok (.iadd, 1) := by decide +kernel
theorem dX5_want_30 : decode cX5_want 30 = .ok (.istore 4, 2) := by decide +kernel
theorem dX5_want_32 : decode cX5_want 32 = .ok (.aload_n 0, 1) := by decide +kernel
theorem dX5_want_33 : decode cX5_want 33 = .ok (.getfield 40, 3) := by decide +kernel
theorem dX5_want_36 : decode cX5_want 36 = .ok (.getfield 215, 3) := by decide +kernel
theorem dX5_want_39 : decode cX5_want 39 = .ok (.iload 4, 2) := by decide +kernel
theorem dX5_want_41 : decode cX5_want 41 = .ok (.iaload, 1) := by decide +kernel
theorem dX5_want_42 : decode cX5_want 42 = .ok (.istore 5, 2) := by decide +kernel
theorem dX5_want_44 : decode cX5_want 44 = .ok (.aload_n 0, 1) := by decide +kernel
theorem dX5_want_45 : decode cX5_want 45 = .ok (.getfield 40, 3) := by decide +kernel
theorem dX5_want_48 : decode cX5_want 48 = .ok (.getfield 215, 3) := by decide +kernel
theorem dX5_want_51 : decode cX5_want 51 = .ok (.iload 4, 2) := by decide +kernel
theorem dX5_want_53 : decode cX5_want 53 = .ok (.iload_n 3, 1) := by decide +kernel
theorem dX5_want_54 : decode cX5_want 54 = .ok (.iastore, 1) := by decide +kernel
theorem dX5_want_55 : decode cX5_want 55 = .ok (.iload 5, 2) := by decide +kernel
theorem dX5_want_57 : decode cX5_want 57 = .ok (.ireturn, 1) := by decide +kernel
set_option maxRecDepth 20000 in
theorem ggX5_practise_X5_checkNumber : GoodIn wsX5_practise wsX5_checkNumber := goodIn_ca (goodIn_r _ [6, 7, 8] (by decide +kernel) (by decide +kernel)) (goodIn_sub (fun _ h => List.mem_cons_of_mem _ (List.mem_append_left _ (List.mem_append_right _ h))) (by decide +kernel))
set_option maxRecDepth 20000 in
theorem gX5_practise_X5_checkNumber : GoodIn wsX5_practise (va_wsS RX5 58 yX5_checkNumber wsX5_checkNumber) := goodIn_app (goodIn_of _ (by decide +kernel)) ggX5_practise_X5_checkNumber
set_option maxRecDepth 20000 in
theorem ggX5_practise_X5_checkArgument : GoodIn wsX5_practise wsX5_checkArgument := goodIn_ca (goodIn_r _ [11, 12, 13] (by decide +kernel) (by decide +kernel)) (goodIn_sub (fun _ h => List.mem_cons_of_mem _ (List.mem_append_right _ h)) (by decide +kernel))
set_option maxRecDepth 20000 in
theorem gX5_practise_X5_checkArgument : GoodIn wsX5_practise (va_wsS RX5 62 yX5_checkArgument wsX5_checkArgument) := goodIn_app (goodIn_of _ (by decide +kernel)) ggX5_practise_X5_checkArgument
set_option maxRecDepth 20000 in
theorem ggX5_practise_X3_train : GoodIn wsX5_practise wsX3_train := goodIn_r _ [18, 19, 20, 21, 28, 29, 30, 31, 32, 33, 34, 35] (by decide +kernel) (by decide +kernel)
set_option maxRecDepth 20000 in
theorem gX5_practise_X3_train : GoodIn wsX5_practise (wsV RX5 218 RX3 yX3_train wsX3_train) := goodIn_app (goodIn_of _ (by decide +kernel)) ggX5_practise_X3_train
theorem dX5_practise_0 : decode cX5_practise 0 = .ok (.iload_n 1, 1) := by decide +kernel
theorem dX5_practise_1 : decode cX5_practise 1 = .ok (.aload_n 0, 1) := by decide +kernel
theorem dX5_practise_2 : decode cX5_practise 2 = .ok (.getfield 10, 3) := by decide +kernel
theorem dX5_practise_5 : decode cX5_practise 5 = .ok (.getfield 48, 3) := by decide +kernel
theorem dX5_practise_8 : decode cX5_practise 8 = .ok (.invokestatic 58, 3) := by decide +kernel
theorem dX5_practise_11 : decode cX5_practise 11 = .ok (.iload_n 2, 1) := by decide +kernel
theorem dX5_practise_12 : decode cX5_practise 12 = .ok (.bipush 10, 2) := by decide +kernel
theorem dX5_practise_14 : decode cX5_practise 14 = .ok (.invokestatic 58, 3) := by decide +kernel
theorem dX5_practise_17 : decode cX5_practise 17 = .ok (.iload_n 3, 1) := by decide +kernel
theorem dX5_practise_18 : decode cX5_practise 18 = .ok (.iconst 1, 1) := by decide +kernel
theorem dX5_practise_19 : decode cX5_practise 19 = .ok (.bipush 24, 2) := by decide +kernel
theorem dX5_practise_21 : decode cX5_practise 21 = .ok (.invokestatic 62, 3) := by decide +kernel
theorem dX5_practise_24 : decode cX5_practise 24 = .ok (.aload_n 0, 1) := by decide +kernel
theorem dX5_practise_25 : decode cX5_practise 25 = .ok (.getfield 10, 3) := by decide +kernel
theorem dX5_practise_28 : decode cX5_practise 28 = .ok (.iload_n 1, 1) := by decide +kernel
theorem dX5_practise_29 : decode cX5_practise 29 = .ok (.iload_n 2, 1) := by decide +kernel
theorem dX5_practise_30 : decode cX5_practise 30 = .ok (.iload_n 3, 1) := by decide +kernel
theorem dX5_practise_31 : decode cX5_practise 31 = .ok (.invokevirtual 218, 3) := by decide +kernel
theorem dX5_practise_34 : decode cX5_practise 34 = .ok (.ireturn, 1) := by decide +kernel
set_option maxRecDepth 20000 in
theorem ggX5_away_X5_checkNumber : GoodIn wsX5_away wsX5_checkNumber := goodIn_ca (goodIn_r _ [8, 9, 10] (by decide +kernel) (by decide +kernel)) (goodIn_sub (fun _ h => List.mem_cons_of_mem _ (List.mem_append_right _ h)) (by decide +kernel))
set_option maxRecDepth 20000 in
theorem gX5_away_X5_checkNumber : GoodIn wsX5_away (va_wsS RX5 58 yX5_checkNumber wsX5_checkNumber) := goodIn_app (goodIn_of _ (by decide +kernel)) ggX5_away_X5_checkNumber
set_option maxRecDepth 20000 in
theorem ggX5_away_X0_distance : GoodIn wsX5_away wsX0_distance := goodIn_r _ [15, 16, 17, 18, 19, 20, 21, 14, 22, 23, 24, 25, 26, 27, 28, 29, 30, 31, 32, 33, 40, 41, 42, 43, 44, 45, 46, 47, 48, 49, 50] (by decide +kernel) (by decide +kernel)
set_option maxRecDepth 20000 in
theorem gX5_away_X0_distance : GoodIn wsX5_away (wsV RX5 221 RX0 yX0_distance wsX0_distance) := goodIn_app (goodIn_of _ (by decide +kernel)) ggX5_away_X0_distance
theorem dX5_away_0 : decode cX5_away 0 = .ok (.iload_n 1, 1) := by decide +kernel
theorem dX5_away_1 : decode cX5_away 1 = .ok (.aload_n 0, 1) := by decide +kernel
theorem dX5_away_2 : decode cX5_away 2 = .ok (.getfield 10, 3) := by decide +kernel
theorem dX5_away_5 : decode cX5_away 5 = .ok (.getfield 66, 3) := by decide +kernel
theorem dX5_away_8 : decode cX5_away 8 = .ok (.invokestatic 58, 3) := by decide +kernel
theorem dX5_away_11 : decode cX5_away 11 = .ok (.iload_n 2, 1) := by decide +kernel
theorem dX5_away_12 : decode cX5_away 12 = .ok (.aload_n 0, 1) := by decide +kernel
theorem dX5_away_13 : decode cX5_away 13 = .ok (.getfield 40, 3) := by decide +kernel
theorem dX5_away_16 : decode cX5_away 16 = .ok (.getfield 209, 3) := by decide +kernel
theorem dX5_away_19 : decode cX5_away 19 = .ok (.invokestatic 58, 3) := by decide +kernel
theorem dX5_away_22 : decode cX5_away 22 = .ok (.aload_n 0, 1) := by decide +kernel
theorem dX5_away_23 : decode cX5_away 23 = .ok (.getfield 40, 3) := by decide +kernel
theorem dX5_away_26 : decode cX5_away 26 = .ok (.iload_n 1, 1) := by decide +kernel
theorem dX5_away_27 : decode cX5_away 27 = .ok (.iload_n 2, 1) := by decide +kernel
theorem dX5_away_28 : decode cX5_away 28 = .ok (.aload_n 0, 1) := by decide +kernel
theorem dX5_away_29 : decode cX5_away 29 = .ok (.getfield 10, 3) := by decide +kernel
theorem dX5_away_32 : decode cX5_away 32 = .ok (.invokevirtual 221, 3) := by decide +kernel
theorem dX5_away_35 : decode cX5_away 35 = .ok (.ireturn, 1) := by decide +kernel
set_option maxRecDepth 20000 in
theorem ggX5_earn_X5_checkNumber : GoodIn wsX5_earn wsX5_checkNumber := goodIn_ca (goodIn_r _ [11, 12, 13] (by decide +kernel) (by decide +kernel)) (goodIn_sub (fun _ h => List.mem_cons_of_mem _ (List.mem_append_right _ h)) (by decide +kernel))
set_option maxRecDepth 20000 in
theorem gX5_earn_X5_checkNumber : GoodIn wsX5_earn (va_wsS RX5 58 yX5_checkNumber wsX5_checkNumber) := goodIn_app (goodIn_of _ (by decide +kernel)) ggX5_earn_X5_checkNumber
set_option maxRecDepth 20000 in
theorem ggX5_earn_X0_distance : GoodIn wsX5_earn wsX0_distance := goodIn_r _ [18, 19, 20, 21, 22, 23, 24, 17, 25, 26, 27, 28, 29, 30, 31, 32, 33, 34, 35, 36, 50, 51, 52, 53, 54, 55, 56, 57, 58, 59, 60] (by decide +kernel) (by decide +kernel)
set_option maxRecDepth 20000 in
theorem gX5_earn_X0_distance : GoodIn wsX5_earn (wsV RX5 221 RX0 yX0_distance wsX0_distance) := goodIn_app (goodIn_of _ (by decide +kernel)) ggX5_earn_X0_distance
set_option maxRecDepth 20000 in
theorem ggX5_earn_J6_bitCount_0f7a4 : GoodIn wsX5_earn wsJ6_bitCount_0f7a4 := goodIn_r _ [40, 41, 42, 43] (by decide +kernel) (by decide +kernel)
set_option maxRecDepth 20000 in
theorem gX5_earn_J6_bitCount_0f7a4 : GoodIn wsX5_earn (va_wsS RX5 228 yJ6_bitCount_0f7a4 wsJ6_bitCount_0f7a4) := goodIn_app (goodIn_of _ (by decide +kernel)) ggX5_earn_J6_bitCount_0f7a4
theorem dX5_earn_0 : decode cX5_earn 0 = .ok (.iload_n 1, 1) := by decide +kernel
theorem dX5_earn_1 : decode cX5_earn 1 = .ok (.aload_n 0, 1) := by decide +kernel
theorem dX5_earn_2 : decode cX5_earn 2 = .ok (.getfield 10, 3) := by decide +kernel
theorem dX5_earn_5 : decode cX5_earn 5 = .ok (.getfield 66, 3) := by decide +kernel
theorem dX5_earn_8 : decode cX5_earn 8 = .ok (.invokestatic 58, 3) := by decide +kernel
theorem dX5_earn_11 : decode cX5_earn 11 = .ok (.iload_n 2, 1) := by decide +kernel
theorem dX5_earn_12 : decode cX5_earn 12 = .ok (.aload_n 0, 1) := by decide +kernel
theorem dX5_earn_13 : decode cX5_earn 13 = .ok (.getfield 40, 3) := by decide +kernel
theorem dX5_earn_16 : decode cX5_earn 16 = .ok (.getfield 209, 3) := by decide +kernel
theorem dX5_earn_19 : decode cX5_earn 19 = .ok (.invokestatic 58, 3) := by decide +kernel
theorem dX5_earn_22 : decode cX5_earn 22 = .ok (.aload_n 0, 1) := by decide +kernel
theorem dX5_earn_23 : decode cX5_earn 23 = .ok (.getfield 40, 3) := by decide +kernel
theorem dX5_earn_26 : decode cX5_earn 26 = .ok (.iload_n 1, 1) := by decide +kernel
theorem dX5_earn_27 : decode cX5_earn 27 = .ok (.iload_n 2, 1) := by decide +kernel
theorem dX5_earn_28 : decode cX5_earn 28 = .ok (.aload_n 0, 1) := by decide +kernel
theorem dX5_earn_29 : decode cX5_earn 29 = .ok (.getfield 10, 3) := by decide +kernel
theorem dX5_earn_32 : decode cX5_earn 32 = .ok (.invokevirtual 221, 3) := by decide +kernel
theorem dX5_earn_35 : decode cX5_earn 35 = .ok (.ifCond .eq 13, 3) := by decide +kernel
theorem dX5_earn_38 : decode cX5_earn 38 = .ok (.new 51, 3) := by decide +kernel
theorem dX5_earn_41 : decode cX5_earn 41 = .ok (.dup, 1) := by decide +kernel
theorem dX5_earn_42 : decode cX5_earn 42 = .ok (.ldc 224, 2) := by decide +kernel
theorem dX5_earn_44 : decode cX5_earn 44 = .ok (.invokespecial 55, 3) := by decide +kernel
theorem dX5_earn_47 : decode cX5_earn 47 = .ok (.athrow, 1) := by decide +kernel
theorem dX5_earn_48 : decode cX5_earn 48 = .ok (.aload_n 0, 1) := by decide +kernel
theorem dX5_earn_49 : decode cX5_earn 49 = .ok (.getfield 10, 3) := by decide +kernel
theorem dX5_earn_52 : decode cX5_earn 52 = .ok (.getfield 226, 3) := by decide +kernel
theorem dX5_earn_55 : decode cX5_earn 55 = .ok (.iload_n 1, 1) := by decide +kernel
theorem dX5_earn_56 : decode cX5_earn 56 = .ok (.dup2, 1) := by decide +kernel
theorem dX5_earn_57 : decode cX5_earn 57 = .ok (.iaload, 1) := by decide +kernel
theorem dX5_earn_58 : decode cX5_earn 58 = .ok (.iconst 1, 1) := by decide +kernel
theorem dX5_earn_59 : decode cX5_earn 59 = .ok (.iload_n 2, 1) := by decide +kernel
theorem dX5_earn_60 : decode cX5_earn 60 = .ok (.ishl, 1) := by decide +kernel
theorem dX5_earn_61 : decode cX5_earn 61 = .ok (.ior, 1) := by decide +kernel
theorem dX5_earn_62 : decode cX5_earn 62 = .ok (.iastore, 1) := by decide +kernel
theorem dX5_earn_63 : decode cX5_earn 63 = .ok (.aload_n 0, 1) := by decide +kernel
theorem dX5_earn_64 : decode cX5_earn 64 = .ok (.getfield 10, 3) := by decide +kernel
theorem dX5_earn_67 : decode cX5_earn 67 = .ok (.getfield 226, 3) := by decide +kernel
theorem dX5_earn_70 : decode cX5_earn 70 = .ok (.iload_n 1, 1) := by decide +kernel
theorem dX5_earn_71 : decode cX5_earn 71 = .ok (.iaload, 1) := by decide +kernel
theorem dX5_earn_72 : decode cX5_earn 72 = .ok (.invokestatic 228, 3) := by decide +kernel
theorem dX5_earn_75 : decode cX5_earn 75 = .ok (.ireturn, 1) := by decide +kernel
set_option maxRecDepth 20000 in
theorem ggX5_hike_X3_everyone : GoodIn wsX5_hike wsX3_everyone := goodIn_r _ [11, 12, 45, 46, 47, 48, 49, 50, 51, 52] (by decide +kernel) (by decide +kernel)
set_option maxRecDepth 20000 in
theorem gX5_hike_X3_everyone : GoodIn wsX5_hike (wsV RX5 232 RX3 yX3_everyone wsX3_everyone) := goodIn_app (goodIn_of _ (by decide +kernel)) ggX5_hike_X3_everyone
set_option maxRecDepth 20000 in
theorem ggX5_hike_X5_checkArgument : GoodIn wsX5_hike wsX5_checkArgument := goodIn_ca (goodIn_r _ [16, 1, 2] (by decide +kernel) (by decide +kernel)) (goodIn_sub (fun _ h => List.mem_cons_of_mem _ (List.mem_append_left _ (List.mem_append_right _ h))) (by decide +kernel))
set_option maxRecDepth 20000 in
theorem gX5_hike_X5_checkArgument : GoodIn wsX5_hike (va_wsS RX5 62 yX5_checkArgument wsX5_checkArgument) := goodIn_app (goodIn_of _ (by decide +kernel)) ggX5_hike_X5_checkArgument
set_option maxRecDepth 20000 in
theorem ggX5_hike_X3_agedAtLeast : GoodIn wsX5_hike wsX3_agedAtLeast := goodIn_r _ [20, 12, 21, 45, 46, 47, 48, 49, 50, 51, 52] (by decide +kernel) (by decide +kernel)
set_option maxRecDepth 20000 in
theorem gX5_hike_X3_agedAtLeast : GoodIn wsX5_hike (wsV RX5 243 RX3 yX3_agedAtLeast wsX3_agedAtLeast) := goodIn_app (goodIn_of _ (by decide +kernel)) ggX5_hike_X3_agedAtLeast
set_option maxRecDepth 20000 in
theorem ggX5_hike_X3_skilledIn : GoodIn wsX5_hike wsX3_skilledIn := goodIn_r _ [25, 12, 26, 45, 46, 47, 48, 49, 50, 51, 52] (by decide +kernel) (by decide +kernel)
set_option maxRecDepth 20000 in
theorem gX5_hike_X3_skilledIn : GoodIn wsX5_hike (wsV RX5 247 RX3 yX3_skilledIn wsX3_skilledIn) := goodIn_app (goodIn_of _ (by decide +kernel)) ggX5_hike_X3_skilledIn
set_option maxRecDepth 20000 in
theorem ggX5_hike_X3_slowestPace : GoodIn wsX5_hike wsX3_slowestPace := goodIn_r _ [30, 12, 31, 32, 33, 34, 35, 36, 37, 10, 38, 21, 26, 45, 46, 47, 48, 49, 50, 51, 52] (by decide +kernel) (by decide +kernel)
set_option maxRecDepth 20000 in
theorem gX5_hike_X3_slowestPace : GoodIn wsX5_hike (wsV RX5 252 RX3 yX3_slowestPace wsX3_slowestPace) := goodIn_app (goodIn_of _ (by decide +kernel)) ggX5_hike_X3_slowestPace
theorem dX5_hike_0 : decode cX5_hike 0 = .ok (.lload_n 1, 1) := by decide +kernel
theorem dX5_hike_1 : decode cX5_hike 1 = .ok (.lconst 0, 1) := by decide +kernel
theorem dX5_hike_2 : decode cX5_hike 2 = .ok (.lcmp, 1) := by decide +kernel
theorem dX5_hike_3 : decode cX5_hike 3 = .ok (.ifCond .eq 21, 3) := by decide +kernel
theorem dX5_hike_6 : decode cX5_hike 6 = .ok (.lload_n 1, 1) := by decide +kernel
theorem dX5_hike_7 : decode cX5_hike 7 = .ok (.aload_n 0, 1) := by decide +kernel
theorem dX5_hike_8 : decode cX5_hike 8 = .ok (.getfield 10, 3) := by decide +kernel
theorem dX5_hike_11 : decode cX5_hike 11 = .ok (.invokevirtual 232, 3) := by decide +kernel
theorem dX5_hike_14 : decode cX5_hike 14 = .ok (.ldc2_w 236, 3) := by decide +kernel
theorem dX5_hike_17 : decode cX5_hike 17 = .ok (.lxor, 1) := by decide +kernel
theorem dX5_hike_18 : decode cX5_hike 18 = .ok (.land, 1) := by decide +kernel
theorem dX5_hike_19 : decode cX5_hike 19 = .ok (.lconst 0, 1) := by decide +kernel
theorem dX5_hike_20 : decode cX5_hike 20 = .ok (.lcmp, 1) := by decide +kernel
theorem dX5_hike_21 : decode cX5_hike 21 = .ok (.ifCond .eq 13, 3) := by decide +kernel
theorem dX5_hike_24 : decode cX5_hike 24 = .ok (.new 238, 3) := by decide +kernel
theorem dX5_hike_27 : decode cX5_hike 27 = .ok (.dup, 1) := by decide +kernel
theorem dX5_hike_28 : decode cX5_hike 28 = .ok (.ldc 240, 2) := by decide +kernel
theorem dX5_hike_30 : decode cX5_hike 30 = .ok (.invokespecial 242, 3) := by decide +kernel
theorem dX5_hike_33 : decode cX5_hike 33 = .ok (.athrow, 1) := by decide +kernel
theorem dX5_hike_34 : decode cX5_hike 34 = .ok (.iload_n 3, 1) := by decide +kernel
theorem dX5_hike_35 : decode cX5_hike 35 = .ok (.iconst 1, 1) := by decide +kernel
theorem dX5_hike_36 : decode cX5_hike 36 = .ok (.bipush 50, 2) := by decide +kernel
theorem dX5_hike_38 : decode cX5_hike 38 = .ok (.invokestatic 62, 3) := by decide +kernel
theorem dX5_hike_41 : decode cX5_hike 41 = .ok (.iload 4, 2) := by decide +kernel
theorem dX5_hike_43 : decode cX5_hike 43 = .ok (.iconst 0, 1) := by decide +kernel
theorem dX5_hike_44 : decode cX5_hike 44 = .ok (.sipush 3000, 3) := by decide +kernel
theorem dX5_hike_47 : decode cX5_hike 47 = .ok (.invokestatic 62, 3) := by decide +kernel
theorem dX5_hike_50 : decode cX5_hike 50 = .ok (.lload_n 1, 1) := by decide +kernel
theorem dX5_hike_51 : decode cX5_hike 51 = .ok (.aload_n 0, 1) := by decide +kernel
theorem dX5_hike_52 : decode cX5_hike 52 = .ok (.getfield 10, 3) := by decide +kernel
theorem dX5_hike_55 : decode cX5_hike 55 = .ok (.bipush 14, 2) := by decide +kernel
theorem dX5_hike_57 : decode cX5_hike 57 = .ok (.invokevirtual 243, 3) := by decide +kernel
theorem dX5_hike_60 : decode cX5_hike 60 = .ok (.land, 1) := by decide +kernel
theorem dX5_hike_61 : decode cX5_hike 61 = .ok (.lconst 0, 1) := by decide +kernel
theorem dX5_hike_62 : decode cX5_hike 62 = .ok (.lcmp, 1) := by decide +kernel
theorem dX5_hike_63 : decode cX5_hike 63 = .ok (.ifCond .eq 18, 3) := by decide +kernel
theorem dX5_hike_66 : decode cX5_hike 66 = .ok (.lload_n 1, 1) := by decide +kernel
theorem dX5_hike_67 : decode cX5_hike 67 = .ok (.aload_n 0, 1) := by decide +kernel
theorem dX5_hike_68 : decode cX5_hike 68 = .ok (.getfield 10, 3) := by decide +kernel
theorem dX5_hike_71 : decode cX5_hike 71 = .ok (.iconst 1, 1) := by decide +kernel
theorem dX5_hike_72 : decode cX5_hike 72 = .ok (.invokevirtual 247, 3) := by decide +kernel
theorem dX5_hike_75 : decode cX5_hike 75 = .ok (.land, 1) := by decide +kernel
theorem dX5_hike_76 : decode cX5_hike 76 = .ok (.lconst 0, 1) := by decide +kernel
theorem dX5_hike_77 : decode cX5_hike 77 = .ok (.lcmp, 1) := by decide +kernel
theorem dX5_hike_78 : decode cX5_hike 78 = .ok (.ifCond .ne 13, 3) := by decide +kernel
theorem dX5_hike_81 : decode cX5_hike 81 = .ok (.new 51, 3) := by decide +kernel
theorem dX5_hike_84 : decode cX5_hike 84 = .ok (.dup, 1) := by decide +kernel
theorem dX5_hike_85 : decode cX5_hike 85 = .ok (.ldc 250, 2) := by decide +kernel
theorem dX5_hike_87 : decode cX5_hike 87 = .ok (.invokespecial 55, 3) := by decide +kernel
theorem dX5_hike_90 : decode cX5_hike 90 = .ok (.athrow, 1) := by decide +kernel
theorem dX5_hike_91 : decode cX5_hike 91 = .ok (.aload_n 0, 1) := by decide +kernel
theorem dX5_hike_92 : decode cX5_hike 92 = .ok (.getfield 10, 3) := by decide +kernel
theorem dX5_hike_95 : decode cX5_hike 95 = .ok (.lload_n 1, 1) := by decide +kernel
theorem dX5_hike_96 : decode cX5_hike 96 = .ok (.invokevirtual 252, 3) := by decide +kernel
theorem dX5_hike_99 : decode cX5_hike 99 = .ok (.iload_n 3, 1) := by decide +kernel
theorem dX5_hike_100 : decode cX5_hike 100 = .ok (.imul, 1) := by decide +kernel
theorem dX5_hike_101 : decode cX5_hike 101 = .ok (.iload 4, 2) := by decide +kernel
theorem dX5_hike_103 : decode cX5_hike 103 = .ok (.bipush 100, 2) := by decide +kernel
theorem dX5_hike_105 : decode cX5_hike 105 = .ok (.idiv, 1) := by decide +kernel
theorem dX5_hike_106 : decode cX5_hike 106 = .ok (.bipush 10, 2) := by decide +kernel
theorem dX5_hike_108 : decode cX5_hike 108 = .ok (.imul, 1) := by decide +kernel
theorem dX5_hike_109 : decode cX5_hike 109 = .ok (.iadd, 1) := by decide +kernel
theorem dX5_hike_110 : decode cX5_hike 110 = .ok (.istore 5, 2) := by decide +kernel
theorem dX5_hike_112 : decode cX5_hike 112 = .ok (.iload 5, 2) := by decide +kernel
theorem dX5_hike_114 : decode cX5_hike 114 = .ok (.iload 5, 2) := by decide +kernel
theorem dX5_hike_116 : decode cX5_hike 116 = .ok (.bipush 60, 2) := by decide +kernel
theorem dX5_hike_118 : decode cX5_hike 118 = .ok (.idiv, 1) := by decide +kernel
theorem dX5_hike_119 : decode cX5_hike 119 = .ok (.iconst 5, 1) := by decide +kernel
theorem dX5_hike_120 : decode cX5_hike 120 = .ok (.imul, 1) := by decide +kernel
theorem dX5_hike_121 : decode cX5_hike 121 = .ok (.iadd, 1) := by decide +kernel
theorem dX5_hike_122 : decode cX5_hike 122 = .ok (.ireturn, 1) := by decide +kernel
set_option maxRecDepth 20000 in
theorem ggX5_end_X2_clearTable : GoodIn wsX5_end wsX2_clearTable := goodIn_r _ [9, 10, 11, 18, 19, 20, 21, 22, 23] (by decide +kernel) (by decide +kernel)
set_option maxRecDepth 20000 in
theorem gX5_end_X2_clearTable : GoodIn wsX5_end (wsV RX5 257 RX2 yX2_clearTable wsX2_clearTable) := goodIn_app (goodIn_of _ (by decide +kernel)) ggX5_end_X2_clearTable
theorem dX5_end_0 : decode cX5_end 0 = .ok (.aload_n 0, 1) := by decide +kernel
theorem dX5_end_1 : decode cX5_end 1 = .ok (.getfield 44, 3) := by decide +kernel
theorem dX5_end_4 : decode cX5_end 4 = .ok (.bipush 60, 2) := by decide +kernel
theorem dX5_end_6 : decode cX5_end 6 = .ok (.if_icmp .lt 13, 3) := by decide +kernel
theorem dX5_end_9 : decode cX5_end 9 = .ok (.new 51, 3) := by decide +kernel
theorem dX5_end_12 : decode cX5_end 12 = .ok (.dup, 1) := by decide +kernel
theorem dX5_end_13 : decode cX5_end 13 = .ok (.ldc 255, 2) := by decide +kernel
theorem dX5_end_15 : decode cX5_end 15 = .ok (.invokespecial 55, 3) := by decide +kernel
theorem dX5_end_18 : decode cX5_end 18 = .ok (.athrow, 1) := by decide +kernel
theorem dX5_end_19 : decode cX5_end 19 = .ok (.aload_n 0, 1) := by decide +kernel
theorem dX5_end_20 : decode cX5_end 20 = .ok (.getfield 33, 3) := by decide +kernel
theorem dX5_end_23 : decode cX5_end 23 = .ok (.invokevirtual 257, 3) := by decide +kernel
theorem dX5_end_26 : decode cX5_end 26 = .ok (.aload_n 0, 1) := by decide +kernel
theorem dX5_end_27 : decode cX5_end 27 = .ok (.dup, 1) := by decide +kernel
theorem dX5_end_28 : decode cX5_end 28 = .ok (.getfield 44, 3) := by decide +kernel
theorem dX5_end_31 : decode cX5_end 31 = .ok (.iconst 1, 1) := by decide +kernel
theorem dX5_end_32 : decode cX5_end 32 = .ok (.iadd, 1) := by decide +kernel
theorem dX5_end_33 : decode cX5_end 33 = .ok (.putfield 44, 3) := by decide +kernel
theorem dX5_end_36 : decode cX5_end 36 = .ok (.aload_n 0, 1) := by decide +kernel
theorem dX5_end_37 : decode cX5_end 37 = .ok (.getfield 44, 3) := by decide +kernel
theorem dX5_end_40 : decode cX5_end 40 = .ok (.ireturn, 1) := by decide +kernel
theorem dX5_day_0 : decode cX5_day 0 = .ok (.aload_n 0, 1) := by decide +kernel
theorem dX5_day_1 : decode cX5_day 1 = .ok (.getfield 44, 3) := by decide +kernel
theorem dX5_day_4 : decode cX5_day 4 = .ok (.ireturn, 1) := by decide +kernel
theorem dX5_meanAge_0 : decode cX5_meanAge 0 = .ok (.aload_n 0, 1) := by decide +kernel
theorem dX5_meanAge_1 : decode cX5_meanAge 1 = .ok (.getfield 10, 3) := by decide +kernel
theorem dX5_meanAge_4 : decode cX5_meanAge 4 = .ok (.getfield 66, 3) := by decide +kernel
theorem dX5_meanAge_7 : decode cX5_meanAge 7 = .ok (.ifCond .ne 5, 3) := by decide +kernel
theorem dX5_meanAge_10 : decode cX5_meanAge 10 = .ok (.dconst 0, 1) := by decide +kernel
theorem dX5_meanAge_11 : decode cX5_meanAge 11 = .ok (.dreturn, 1) := by decide +kernel
theorem dX5_meanAge_12 : decode cX5_meanAge 12 = .ok (.iconst 0, 1) := by decide +kernel
theorem dX5_meanAge_13 : decode cX5_meanAge 13 = .ok (.istore_n 1, 1) := by decide +kernel
theorem dX5_meanAge_14 : decode cX5_meanAge 14 = .ok (.iconst 0, 1) := by decide +kernel
theorem dX5_meanAge_15 : decode cX5_meanAge 15 = .ok (.istore_n 2, 1) := by decide +kernel
theorem dX5_meanAge_16 : decode cX5_meanAge 16 = .ok (.iload_n 2, 1) := by decide +kernel
theorem dX5_meanAge_17 : decode cX5_meanAge 17 = .ok (.aload_n 0, 1) := by decide +kernel
theorem dX5_meanAge_18 : decode cX5_meanAge 18 = .ok (.getfield 10, 3) := by decide +kernel
theorem dX5_meanAge_21 : decode cX5_meanAge 21 = .ok (.getfield 66, 3) := by decide +kernel
theorem dX5_meanAge_24 : decode cX5_meanAge 24 = .ok (.if_icmp .ge 21, 3) := by decide +kernel
theorem dX5_meanAge_27 : decode cX5_meanAge 27 = .ok (.iload_n 1, 1) := by decide +kernel
theorem dX5_meanAge_28 : decode cX5_meanAge 28 = .ok (.aload_n 0, 1) := by decide +kernel
theorem dX5_meanAge_29 : decode cX5_meanAge 29 = .ok (.getfield 10, 3) := by decide +kernel
theorem dX5_meanAge_32 : decode cX5_meanAge 32 = .ok (.getfield 112, 3) := by decide +kernel
theorem dX5_meanAge_35 : decode cX5_meanAge 35 = .ok (.iload_n 2, 1) := by decide +kernel
theorem dX5_meanAge_36 : decode cX5_meanAge 36 = .ok (.iaload, 1) := by decide +kernel
theorem dX5_meanAge_37 : decode cX5_meanAge 37 = .ok (.iadd, 1) := by decide +kernel
theorem dX5_meanAge_38 : decode cX5_meanAge 38 = .ok (.istore_n 1, 1) := by decide +kernel
theorem dX5_meanAge_39 : decode cX5_meanAge 39 = .ok (.iinc 2 1, 3) := by decide +kernel
theorem dX5_meanAge_42 : decode cX5_meanAge 42 = .ok (.goto (-26), 3) := by decide +kernel
theorem dX5_meanAge_45 : decode cX5_meanAge 45 = .ok (.iload_n 1, 1) := by decide +kernel
theorem dX5_meanAge_46 : decode cX5_meanAge 46 = .ok (.i2d, 1) := by decide +kernel
theorem dX5_meanAge_47 : decode cX5_meanAge 47 = .ok (.aload_n 0, 1) := by decide +kernel
theorem dX5_meanAge_48 : decode cX5_meanAge 48 = .ok (.getfield 10, 3) := by decide +kernel
theorem dX5_meanAge_51 : decode cX5_meanAge 51 = .ok (.getfield 66, 3) := by decide +kernel
theorem dX5_meanAge_54 : decode cX5_meanAge 54 = .ok (.i2d, 1) := by decide +kernel
theorem dX5_meanAge_55 : decode cX5_meanAge 55 = .ok (.ddiv, 1) := by decide +kernel
theorem dX5_meanAge_56 : decode cX5_meanAge 56 = .ok (.dreturn, 1) := by decide +kernel
set_option maxRecDepth 20000 in
theorem ggX5_digest_X5_mixed : GoodIn wsX5_digest wsX5_mixed := goodIn_r _ [12, 13] (by decide +kernel) (by decide +kernel)
set_option maxRecDepth 20000 in
theorem gX5_digest_X5_mixed : GoodIn wsX5_digest (va_wsS RX5 262 yX5_mixed wsX5_mixed) := goodIn_app (goodIn_of _ (by decide +kernel)) ggX5_digest_X5_mixed
set_option maxRecDepth 20000 in
theorem ggX5_digest_X5_countOf : GoodIn wsX5_digest wsX5_countOf := goodIn_r _ [17, 18, 19, 20, 3, 4, 7, 21, 22, 23, 24, 25, 26, 27, 11, 28, 29, 30, 31, 32, 33, 34, 35, 36, 37, 38, 39, 40, 41, 42, 105, 106, 107, 108, 109, 110, 120, 121, 122, 123, 124, 125, 126, 127, 111, 112, 113, 114, 115, 116, 117, 118, 119, 128, 129, 130] (by decide +kernel) (by decide +kernel)
set_option maxRecDepth 20000 in
theorem gX5_digest_X5_countOf : GoodIn wsX5_digest (wsV RX5 124 RX5 yX5_countOf wsX5_countOf) := goodIn_app (goodIn_of _ (by decide +kernel)) ggX5_digest_X5_countOf
set_option maxRecDepth 20000 in
theorem ggX5_digest_X5_withPeople : GoodIn wsX5_digest wsX5_withPeople := goodIn_r _ [46, 18, 19, 6, 47, 20, 9, 10, 11, 12, 13, 48, 49, 50, 51, 52, 53, 54, 55, 3, 56, 57, 58, 59, 32, 60, 34, 35, 61, 62, 63, 64, 65, 66, 67, 68, 69, 70, 105, 106, 107, 108, 109, 110, 120, 121, 122, 123, 124, 125, 126, 127, 131, 132, 111, 112, 113] (by decide +kernel) (by decide +kernel)
set_option maxRecDepth 20000 in
theorem gX5_digest_X5_withPeople : GoodIn wsX5_digest (wsV RX5 266 RX5 yX5_withPeople wsX5_withPeople) := goodIn_app (goodIn_of _ (by decide +kernel)) ggX5_digest_X5_withPeople
set_option maxRecDepth 20000 in
theorem ggX5_digest_X1_holderOn : GoodIn wsX5_digest wsX1_holderOn := goodIn_r _ [75, 76, 131, 132] (by decide +kernel) (by decide +kernel)
set_option maxRecDepth 20000 in
theorem gX5_digest_X1_holderOn : GoodIn wsX5_digest (wsV RX5 133 RX1 yX1_holderOn wsX1_holderOn) := goodIn_app (goodIn_of _ (by decide +kernel)) ggX5_digest_X1_holderOn
set_option maxRecDepth 20000 in
theorem ggX5_digest_X5_withKitchen : GoodIn wsX5_digest wsX5_withKitchen := goodIn_r _ [80, 7, 21, 81, 22, 18, 9, 10, 11, 12, 13, 82, 83, 84, 85, 86, 87, 88, 89, 90, 91, 92, 93, 94, 95, 96, 97, 98, 105, 106, 107, 108, 109, 110, 114, 115, 116, 117, 118, 119, 120, 121, 122, 123, 124, 125, 126, 127] (by decide +kernel) (by decide +kernel)
set_option maxRecDepth 20000 in
theorem gX5_digest_X5_withKitchen : GoodIn wsX5_digest (wsV RX5 270 RX5 yX5_withKitchen wsX5_withKitchen) := goodIn_app (goodIn_of _ (by decide +kernel)) ggX5_digest_X5_withKitchen
set_option maxRecDepth 20000 in
theorem ggX5_digest_X5_hungryScouts : GoodIn wsX5_digest wsX5_hungryScouts := goodIn_r _ [102, 18, 20, 7, 103, 104, 37, 38, 39, 40, 41, 42, 105, 106, 107, 108, 109, 110, 120, 121, 122, 123, 124, 125, 126, 127, 114, 115, 116, 117, 118, 119] (by decide +kernel) (by decide +kernel)
set_option maxRecDepth 20000 in
theorem gX5_digest_X5_hungryScouts : GoodIn wsX5_digest (wsV RX5 199 RX5 yX5_hungryScouts wsX5_hungryScouts) := goodIn_app (goodIn_of _ (by decide +kernel)) ggX5_digest_X5_hungryScouts
theorem dX5_digest_0 : decode cX5_digest 0 = .ok (.ldc2_w 260, 3) := by decide +kernel
theorem dX5_digest_3 : decode cX5_digest 3 = .ok (.aload_n 0, 1) := by decide +kernel
theorem dX5_digest_4 : decode cX5_digest 4 = .ok (.getfield 44, 3) := by decide +kernel
theorem dX5_digest_7 : decode cX5_digest 7 = .ok (.i2l, 1) := by decide +kernel
theorem dX5_digest_8 : decode cX5_digest 8 = .ok (.invokestatic 262, 3) := by decide +kernel
theorem dX5_digest_11 : decode cX5_digest 11 = .ok (.lstore_n 1, 1) := by decide +kernel
theorem dX5_digest_12 : decode cX5_digest 12 = .ok (.iconst 0, 1) := by decide +kernel
theorem dX5_digest_13 : decode cX5_digest 13 = .ok (.istore_n 3, 1) := by decide +kernel
theorem dX5_digest_14 : decode cX5_digest 14 = .ok (.iload_n 3, 1) := by decide +kernel
theorem dX5_digest_15 : decode cX5_digest 15 = .ok (.bipush 7, 2) := by decide +kernel
theorem dX5_digest_17 : decode cX5_digest 17 = .ok (.if_icmp .ge 20, 3) := by decide +kernel
theorem dX5_digest_20 : decode cX5_digest 20 = .ok (.lload_n 1, 1) := by decide +kernel
theorem dX5_digest_21 : decode cX5_digest 21 = .ok (.aload_n 0, 1) := by decide +kernel
theorem dX5_digest_22 : decode cX5_digest 22 = .ok (.iload_n 3, 1) := by decide +kernel
theorem dX5_digest_23 : decode cX5_digest 23 = .ok (.invokevirtual 124, 3) := by decide +kernel
theorem dX5_digest_26 : decode cX5_digest 26 = .ok (.i2l, 1) := by decide +kernel
theorem dX5_digest_27 : decode cX5_digest 27 = .ok (.invokestatic 262, 3) := by decide +kernel
theorem dX5_digest_30 : decode cX5_digest 30 = .ok (.lstore_n 1, 1) := by decide +kernel
theorem dX5_digest_31 : decode cX5_digest 31 = .ok (.iinc 3 1, 3) := by decide +kernel
theorem dX5_digest_34 : decode cX5_digest 34 = .ok (.goto (-20), 3) := by decide +kernel
theorem dX5_digest_37 : decode cX5_digest 37 = .ok (.aload_n 0, 1) := by decide +kernel
theorem dX5_digest_38 : decode cX5_digest 38 = .ok (.lload_n 1, 1) := by decide +kernel
theorem dX5_digest_39 : decode cX5_digest 39 = .ok (.invokevirtual 266, 3) := by decide +kernel
theorem dX5_digest_42 : decode cX5_digest 42 = .ok (.lstore_n 1, 1) := by decide +kernel
theorem dX5_digest_43 : decode cX5_digest 43 = .ok (.iconst 0, 1) := by decide +kernel
theorem dX5_digest_44 : decode cX5_digest 44 = .ok (.istore_n 3, 1) := by decide +kernel
theorem dX5_digest_45 : decode cX5_digest 45 = .ok (.iload_n 3, 1) := by decide +kernel
theorem dX5_digest_46 : decode cX5_digest 46 = .ok (.aload_n 0, 1) := by decide +kernel
theorem dX5_digest_47 : decode cX5_digest 47 = .ok (.getfield 19, 3) := by decide +kernel
theorem dX5_digest_50 : decode cX5_digest 50 = .ok (.getfield 79, 3) := by decide +kernel
theorem dX5_digest_53 : decode cX5_digest 53 = .ok (.if_icmp .ge 23, 3) := by decide +kernel
theorem dX5_digest_56 : decode cX5_digest 56 = .ok (.lload_n 1, 1) := by decide +kernel
theorem dX5_digest_57 : decode cX5_digest 57 = .ok (.aload_n 0, 1) := by decide +kernel
theorem dX5_digest_58 : decode cX5_digest 58 = .ok (.getfield 19, 3) := by decide +kernel
theorem dX5_digest_61 : decode cX5_digest 61 = .ok (.getfield 108, 3) := by decide +kernel
theorem dX5_digest_64 : decode cX5_digest 64 = .ok (.iload_n 3, 1) := by decide +kernel
theorem dX5_digest_65 : decode cX5_digest 65 = .ok (.laload, 1) := by decide +kernel
theorem dX5_digest_66 : decode cX5_digest 66 = .ok (.invokestatic 262, 3) := by decide +kernel
theorem dX5_digest_69 : decode cX5_digest 69 = .ok (.lstore_n 1, 1) := by decide +kernel
theorem dX5_digest_70 : decode cX5_digest 70 = .ok (.iinc 3 1, 3) := by decide +kernel
theorem dX5_digest_73 : decode cX5_digest 73 = .ok (.goto (-28), 3) := by decide +kernel
theorem dX5_digest_76 : decode cX5_digest 76 = .ok (.iconst 0, 1) := by decide +kernel
theorem dX5_digest_77 : decode cX5_digest 77 = .ok (.istore_n 3, 1) := by decide +kernel
theorem dX5_digest_78 : decode cX5_digest 78 = .ok (.iload_n 3, 1) := by decide +kernel
theorem dX5_digest_79 : decode cX5_digest 79 = .ok (.iconst 5, 1) := by decide +kernel
theorem dX5_digest_80 : decode cX5_digest 80 = .ok (.if_icmp .ge 27, 3) := by decide +kernel
theorem dX5_digest_83 : decode cX5_digest 83 = .ok (.lload_n 1, 1) := by decide +kernel
theorem dX5_digest_84 : decode cX5_digest 84 = .ok (.aload_n 0, 1) := by decide +kernel
theorem dX5_digest_85 : decode cX5_digest 85 = .ok (.getfield 26, 3) := by decide +kernel
theorem dX5_digest_88 : decode cX5_digest 88 = .ok (.aload_n 0, 1) := by decide +kernel
theorem dX5_digest_89 : decode cX5_digest 89 = .ok (.getfield 44, 3) := by decide +kernel
theorem dX5_digest_92 : decode cX5_digest 92 = .ok (.iload_n 3, 1) := by decide +kernel
theorem dX5_digest_93 : decode cX5_digest 93 = .ok (.invokevirtual 133, 3) := by decide +kernel
theorem dX5_digest_96 : decode cX5_digest 96 = .ok (.i2l, 1) := by decide +kernel
theorem dX5_digest_97 : decode cX5_digest 97 = .ok (.invokestatic 262, 3) := by decide +kernel
theorem dX5_digest_100 : decode cX5_digest 100 = .ok (.lstore_n 1, 1) := by decide +kernel
theorem dX5_digest_101 : decode cX5_digest 101 = .ok (.iinc 3 1, 3) := by decide +kernel
theorem dX5_digest_104 : decode cX5_digest 104 = .ok (.goto (-26), 3) := by decide +kernel
theorem dX5_digest_107 : decode cX5_digest 107 = .ok (.aload_n 0, 1) := by decide +kernel
theorem dX5_digest_108 : decode cX5_digest 108 = .ok (.lload_n 1, 1) := by decide +kernel
theorem dX5_digest_109 : decode cX5_digest 109 = .ok (.invokevirtual 270, 3) := by decide +kernel
theorem dX5_digest_112 : decode cX5_digest 112 = .ok (.lstore_n 1, 1) := by decide +kernel
theorem dX5_digest_113 : decode cX5_digest 113 = .ok (.lload_n 1, 1) := by decide +kernel
theorem dX5_digest_114 : decode cX5_digest 114 = .ok (.aload_n 0, 1) := by decide +kernel
theorem dX5_digest_115 : decode cX5_digest 115 = .ok (.invokevirtual 199, 3) := by decide +kernel
theorem dX5_digest_118 : decode cX5_digest 118 = .ok (.i2l, 1) := by decide +kernel
theorem dX5_digest_119 : decode cX5_digest 119 = .ok (.invokestatic 262, 3) := by decide +kernel
theorem dX5_digest_122 : decode cX5_digest 122 = .ok (.aload_n 0, 1) := by decide +kernel
theorem dX5_digest_123 : decode cX5_digest 123 = .ok (.getfield 33, 3) := by decide +kernel
theorem dX5_digest_126 : decode cX5_digest 126 = .ok (.getfield 202, 3) := by decide +kernel
theorem dX5_digest_129 : decode cX5_digest 129 = .ok (.i2l, 1) := by decide +kernel
theorem dX5_digest_130 : decode cX5_digest 130 = .ok (.invokestatic 262, 3) := by decide +kernel
theorem dX5_digest_133 : decode cX5_digest 133 = .ok (.lreturn, 1) := by decide +kernel
theorem dX5_checkNumber_0 : decode cX5_checkNumber 0 = .ok (.iload_n 0, 1) := by decide +kernel
theorem dX5_checkNumber_1 : decode cX5_checkNumber 1 = .ok (.ifCond .lt 8, 3) := by decide +kernel
theorem dX5_checkNumber_4 : decode cX5_checkNumber 4 = .ok (.iload_n 0, 1) := by decide +kernel
theorem dX5_checkNumber_5 : decode cX5_checkNumber 5 = .ok (.iload_n 1, 1) := by decide +kernel
theorem dX5_checkNumber_6 : decode cX5_checkNumber 6 = .ok (.if_icmp .lt 14, 3) := by decide +kernel
theorem dX5_checkNumber_9 : decode cX5_checkNumber 9 = .ok (.new 273, 3) := by decide +kernel
theorem dX5_checkNumber_12 : decode cX5_checkNumber 12 = .ok (.dup, 1) := by decide +kernel
theorem dX5_checkNumber_13 : decode cX5_checkNumber 13 = .ok (.ldc_w 275, 3) := by decide +kernel
theorem dX5_checkNumber_16 : decode cX5_checkNumber 16 = .ok (.invokespecial 277, 3) := by decide +kernel
theorem dX5_checkNumber_19 : decode cX5_checkNumber 19 = .ok (.athrow, 1) := by decide +kernel
theorem dX5_checkNumber_20 : decode cX5_checkNumber 20 = .ok (.return_, 1) := by decide +kernel
set_option maxRecDepth 20000 in
theorem ggX5_checkNumberOrNone_X5_checkNumber : GoodIn wsX5_checkNumberOrNone wsX5_checkNumber := goodIn_ca (goodIn_r _ [4, 5, 6] (by decide +kernel) (by decide +kernel)) (goodIn_sub (fun _ h => List.mem_cons_of_mem _ (List.mem_append_right _ h)) (by decide +kernel))
set_option maxRecDepth 20000 in
theorem gX5_checkNumberOrNone_X5_checkNumber : GoodIn wsX5_checkNumberOrNone (va_wsS RX5 58 yX5_checkNumber wsX5_checkNumber) := goodIn_app (goodIn_of _ (by decide +kernel)) ggX5_checkNumberOrNone_X5_checkNumber
theorem dX5_checkNumberOrNone_0 : decode cX5_checkNumberOrNone 0 = .ok (.iload_n 0, 1) := by decide +kernel
theorem dX5_checkNumberOrNone_1 : decode cX5_checkNumberOrNone 1 = .ok (.iconst (-1), 1) := by decide +kernel
theorem dX5_checkNumberOrNone_2 : decode cX5_checkNumberOrNone 2 = .ok (.if_icmp .eq 8, 3) := by decide +kernel
theorem dX5_checkNumberOrNone_5 : decode cX5_checkNumberOrNone 5 = .ok (.iload_n 0, 1) := by decide +kernel
theorem dX5_checkNumberOrNone_6 : decode cX5_checkNumberOrNone 6 = .ok (.iload_n 1, 1) := by decide +kernel
theorem dX5_checkNumberOrNone_7 : decode cX5_checkNumberOrNone 7 = .ok (.invokestatic 58, 3) := by decide +kernel
theorem dX5_checkNumberOrNone_10 : decode cX5_checkNumberOrNone 10 = .ok (.return_, 1) := by decide +kernel
theorem dX5_checkArgument_0 : decode cX5_checkArgument 0 = .ok (.iload_n 0, 1) := by decide +kernel
theorem dX5_checkArgument_1 : decode cX5_checkArgument 1 = .ok (.iload_n 1, 1) := by decide +kernel
theorem dX5_checkArgument_2 : decode cX5_checkArgument 2 = .ok (.if_icmp .lt 8, 3) := by decide +kernel
theorem dX5_checkArgument_5 : decode cX5_checkArgument 5 = .ok (.iload_n 0, 1) := by decide +kernel
theorem dX5_checkArgument_6 : decode cX5_checkArgument 6 = .ok (.iload_n 2, 1) := by decide +kernel
theorem dX5_checkArgument_7 : decode cX5_checkArgument 7 = .ok (.if_icmp .le 14, 3) := by decide +kernel
theorem dX5_checkArgument_10 : decode cX5_checkArgument 10 = .ok (.new 238, 3) := by decide +kernel
theorem dX5_checkArgument_13 : decode cX5_checkArgument 13 = .ok (.dup, 1) := by decide +kernel
theorem dX5_checkArgument_14 : decode cX5_checkArgument 14 = .ok (.ldc_w 278, 3) := by decide +kernel
theorem dX5_checkArgument_17 : decode cX5_checkArgument 17 = .ok (.invokespecial 242, 3) := by decide +kernel
theorem dX5_checkArgument_20 : decode cX5_checkArgument 20 = .ok (.athrow, 1) := by decide +kernel
theorem dX5_checkArgument_21 : decode cX5_checkArgument 21 = .ok (.return_, 1) := by decide +kernel
set_option maxRecDepth 20000 in
theorem ggX5_factOf_X4_tentOf : GoodIn wsX5_factOf wsX4_tentOf := goodIn_r _ [12, 13, 14, 39, 40, 41] (by decide +kernel) (by decide +kernel)
set_option maxRecDepth 20000 in
theorem gX5_factOf_X4_tentOf : GoodIn wsX5_factOf (wsV RX5 91 RX4 yX4_tentOf wsX4_tentOf) := goodIn_app (goodIn_of _ (by decide +kernel)) ggX5_factOf_X4_tentOf
set_option maxRecDepth 20000 in
theorem ggX5_factOf_X3_allHours : GoodIn wsX5_factOf wsX3_allHours := goodIn_r _ [19, 20, 21, 22, 18, 23, 24, 31, 32, 33, 34, 35, 36, 37, 38] (by decide +kernel) (by decide +kernel)
set_option maxRecDepth 20000 in
theorem gX5_factOf_X3_allHours : GoodIn wsX5_factOf (wsV RX5 286 RX3 yX3_allHours wsX3_allHours) := goodIn_app (goodIn_of _ (by decide +kernel)) ggX5_factOf_X3_allHours
theorem dX5_factOf_0 : decode cX5_factOf 0 = .ok (.iload_n 2, 1) := by decide +kernel
theorem dX5_factOf_1 : decode cX5_factOf 1 = .ok (.tableswitch 98 0 5 #[39, 49, 59, 69, 79, 88], 39) := by decide +kernel
theorem dX5_factOf_40 : decode cX5_factOf 40 = .ok (.aload_n 0, 1) := by decide +kernel
theorem dX5_factOf_41 : decode cX5_factOf 41 = .ok (.getfield 10, 3) := by decide +kernel
theorem dX5_factOf_44 : decode cX5_factOf 44 = .ok (.getfield 280, 3) := by decide +kernel
theorem dX5_factOf_47 : decode cX5_factOf 47 = .ok (.iload_n 1, 1) := by decide +kernel
theorem dX5_factOf_48 : decode cX5_factOf 48 = .ok (.iaload, 1) := by decide +kernel
theorem dX5_factOf_49 : decode cX5_factOf 49 = .ok (.ireturn, 1) := by decide +kernel
theorem dX5_factOf_50 : decode cX5_factOf 50 = .ok (.aload_n 0, 1) := by decide +kernel
theorem dX5_factOf_51 : decode cX5_factOf 51 = .ok (.getfield 10, 3) := by decide +kernel
theorem dX5_factOf_54 : decode cX5_factOf 54 = .ok (.getfield 112, 3) := by decide +kernel
theorem dX5_factOf_57 : decode cX5_factOf 57 = .ok (.iload_n 1, 1) := by decide +kernel
theorem dX5_factOf_58 : decode cX5_factOf 58 = .ok (.iaload, 1) := by decide +kernel
theorem dX5_factOf_59 : decode cX5_factOf 59 = .ok (.ireturn, 1) := by decide +kernel
theorem dX5_factOf_60 : decode cX5_factOf 60 = .ok (.aload_n 0, 1) := by decide +kernel
theorem dX5_factOf_61 : decode cX5_factOf 61 = .ok (.getfield 10, 3) := by decide +kernel
theorem dX5_factOf_64 : decode cX5_factOf 64 = .ok (.getfield 283, 3) := by decide +kernel
theorem dX5_factOf_67 : decode cX5_factOf 67 = .ok (.iload_n 1, 1) := by decide +kernel
theorem dX5_factOf_68 : decode cX5_factOf 68 = .ok (.iaload, 1) := by decide +kernel
theorem dX5_factOf_69 : decode cX5_factOf 69 = .ok (.ireturn, 1) := by decide +kernel
theorem dX5_factOf_70 : decode cX5_factOf 70 = .ok (.aload_n 0, 1) := by decide +kernel
theorem dX5_factOf_71 : decode cX5_factOf 71 = .ok (.getfield 10, 3) := by decide +kernel
theorem dX5_factOf_74 : decode cX5_factOf 74 = .ok (.getfield 161, 3) := by decide +kernel
theorem dX5_factOf_77 : decode cX5_factOf 77 = .ok (.iload_n 1, 1) := by decide +kernel
theorem dX5_factOf_78 : decode cX5_factOf 78 = .ok (.iaload, 1) := by decide +kernel
theorem dX5_factOf_79 : decode cX5_factOf 79 = .ok (.ireturn, 1) := by decide +kernel
theorem dX5_factOf_80 : decode cX5_factOf 80 = .ok (.aload_n 0, 1) := by decide +kernel
theorem dX5_factOf_81 : decode cX5_factOf 81 = .ok (.getfield 19, 3) := by decide +kernel
theorem dX5_factOf_84 : decode cX5_factOf 84 = .ok (.iload_n 1, 1) := by decide +kernel
theorem dX5_factOf_85 : decode cX5_factOf 85 = .ok (.invokevirtual 91, 3) := by decide +kernel
theorem dX5_factOf_88 : decode cX5_factOf 88 = .ok (.ireturn, 1) := by decide +kernel
theorem dX5_factOf_89 : decode cX5_factOf 89 = .ok (.aload_n 0, 1) := by decide +kernel
theorem dX5_factOf_90 : decode cX5_factOf 90 = .ok (.getfield 10, 3) := by decide +kernel
theorem dX5_factOf_93 : decode cX5_factOf 93 = .ok (.getfield 226, 3) := by decide +kernel
theorem dX5_factOf_96 : decode cX5_factOf 96 = .ok (.iload_n 1, 1) := by decide +kernel
theorem dX5_factOf_97 : decode cX5_factOf 97 = .ok (.iaload, 1) := by decide +kernel
theorem dX5_factOf_98 : decode cX5_factOf 98 = .ok (.ireturn, 1) := by decide +kernel
theorem dX5_factOf_99 : decode cX5_factOf 99 = .ok (.aload_n 0, 1) := by decide +kernel
theorem dX5_factOf_100 : decode cX5_factOf 100 = .ok (.getfield 10, 3) := by decide +kernel
theorem dX5_factOf_103 : decode cX5_factOf 103 = .ok (.iload_n 1, 1) := by decide +kernel
theorem dX5_factOf_104 : decode cX5_factOf 104 = .ok (.invokevirtual 286, 3) := by decide +kernel
theorem dX5_factOf_107 : decode cX5_factOf 107 = .ok (.ireturn, 1) := by decide +kernel
set_option maxRecDepth 20000 in
theorem ggX5_countOf_X5_scoutsWithoutTent : GoodIn wsX5_countOf wsX5_scoutsWithoutTent := goodIn_r _ [15, 1, 3, 4, 16, 17, 18, 19, 20, 21, 22, 23, 24, 25, 26, 27, 28, 29, 30, 31, 32, 33, 34, 35, 36, 37, 38, 39, 40, 41, 42, 43, 44, 45, 46] (by decide +kernel) (by decide +kernel)
set_option maxRecDepth 20000 in
theorem gX5_countOf_X5_scoutsWithoutTent : GoodIn wsX5_countOf (wsV RX5 120 RX5 yX5_scoutsWithoutTent wsX5_scoutsWithoutTent) := goodIn_app (goodIn_of _ (by decide +kernel)) ggX5_countOf_X5_scoutsWithoutTent
theorem dX5_countOf_0 : decode cX5_countOf 0 = .ok (.iload_n 1, 1) := by decide +kernel
theorem dX5_countOf_1 : decode cX5_countOf 1 = .ok (.tableswitch 84 0 5 #[39, 47, 55, 63, 68, 76], 39) := by decide +kernel
theorem dX5_countOf_40 : decode cX5_countOf 40 = .ok (.aload_n 0, 1) := by decide +kernel
theorem dX5_countOf_41 : decode cX5_countOf 41 = .ok (.getfield 10, 3) := by decide +kernel
theorem dX5_countOf_44 : decode cX5_countOf 44 = .ok (.getfield 48, 3) := by decide +kernel
theorem dX5_countOf_47 : decode cX5_countOf 47 = .ok (.ireturn, 1) := by decide +kernel
theorem dX5_countOf_48 : decode cX5_countOf 48 = .ok (.aload_n 0, 1) := by decide +kernel
theorem dX5_countOf_49 : decode cX5_countOf 49 = .ok (.getfield 10, 3) := by decide +kernel
theorem dX5_countOf_52 : decode cX5_countOf 52 = .ok (.getfield 66, 3) := by decide +kernel
theorem dX5_countOf_55 : decode cX5_countOf 55 = .ok (.ireturn, 1) := by decide +kernel
theorem dX5_countOf_56 : decode cX5_countOf 56 = .ok (.aload_n 0, 1) := by decide +kernel
theorem dX5_countOf_57 : decode cX5_countOf 57 = .ok (.getfield 19, 3) := by decide +kernel
theorem dX5_countOf_60 : decode cX5_countOf 60 = .ok (.getfield 79, 3) := by decide +kernel
theorem dX5_countOf_63 : decode cX5_countOf 63 = .ok (.ireturn, 1) := by decide +kernel
theorem dX5_countOf_64 : decode cX5_countOf 64 = .ok (.aload_n 0, 1) := by decide +kernel
theorem dX5_countOf_65 : decode cX5_countOf 65 = .ok (.invokevirtual 120, 3) := by decide +kernel
theorem dX5_countOf_68 : decode cX5_countOf 68 = .ok (.ireturn, 1) := by decide +kernel
theorem dX5_countOf_69 : decode cX5_countOf 69 = .ok (.aload_n 0, 1) := by decide +kernel
theorem dX5_countOf_70 : decode cX5_countOf 70 = .ok (.getfield 33, 3) := by decide +kernel
theorem dX5_countOf_73 : decode cX5_countOf 73 = .ok (.getfield 151, 3) := by decide +kernel
theorem dX5_countOf_76 : decode cX5_countOf 76 = .ok (.ireturn, 1) := by decide +kernel
theorem dX5_countOf_77 : decode cX5_countOf 77 = .ok (.aload_n 0, 1) := by decide +kernel
theorem dX5_countOf_78 : decode cX5_countOf 78 = .ok (.getfield 33, 3) := by decide +kernel
theorem dX5_countOf_81 : decode cX5_countOf 81 = .ok (.getfield 164, 3) := by decide +kernel
theorem dX5_countOf_84 : decode cX5_countOf 84 = .ok (.ireturn, 1) := by decide +kernel
theorem dX5_countOf_85 : decode cX5_countOf 85 = .ok (.aload_n 0, 1) := by decide +kernel
theorem dX5_countOf_86 : decode cX5_countOf 86 = .ok (.getfield 40, 3) := by decide +kernel
theorem dX5_countOf_89 : decode cX5_countOf 89 = .ok (.getfield 209, 3) := by decide +kernel
theorem dX5_countOf_92 : decode cX5_countOf 92 = .ok (.ireturn, 1) := by decide +kernel
set_option maxRecDepth 20000 in
theorem ggX5_scoutsWithoutTent_X4_allSleepers : GoodIn wsX5_scoutsWithoutTent wsX4_allSleepers := goodIn_r _ [8, 9, 10, 11, 12, 13, 14, 15, 16, 17, 32, 33, 34] (by decide +kernel) (by decide +kernel)
set_option maxRecDepth 20000 in
theorem gX5_scoutsWithoutTent_X4_allSleepers : GoodIn wsX5_scoutsWithoutTent (wsV RX5 289 RX4 yX4_allSleepers wsX4_allSleepers) := goodIn_app (goodIn_of _ (by decide +kernel)) ggX5_scoutsWithoutTent_X4_allSleepers
theorem dX5_scoutsWithoutTent_0 : decode cX5_scoutsWithoutTent 0 = .ok (.aload_n 0, 1) := by decide +kernel
theorem dX5_scoutsWithoutTent_1 : decode cX5_scoutsWithoutTent 1 = .ok (.getfield 10, 3) := by decide +kernel
theorem dX5_scoutsWithoutTent_4 : decode cX5_scoutsWithoutTent 4 = .ok (.getfield 66, 3) := by decide +kernel
theorem dX5_scoutsWithoutTent_7 : decode cX5_scoutsWithoutTent 7 = .ok (.aload_n 0, 1) := by decide +kernel
theorem dX5_scoutsWithoutTent_8 : decode cX5_scoutsWithoutTent 8 = .ok (.getfield 19, 3) := by decide +kernel
theorem dX5_scoutsWithoutTent_11 : decode cX5_scoutsWithoutTent 11 = .ok (.invokevirtual 289, 3) := by decide +kernel
theorem dX5_scoutsWithoutTent_14 : decode cX5_scoutsWithoutTent 14 = .ok (.isub, 1) := by decide +kernel
theorem dX5_scoutsWithoutTent_15 : decode cX5_scoutsWithoutTent 15 = .ok (.ireturn, 1) := by decide +kernel
set_option maxRecDepth 20000 in
theorem ggX5_hungryScouts_J13_bitCount_95d88 : GoodIn wsX5_hungryScouts wsJ13_bitCount_95d88 := goodIn_r _ [8, 9, 10, 11] (by decide +kernel) (by decide +kernel)
set_option maxRecDepth 20000 in
theorem gX5_hungryScouts_J13_bitCount_95d88 : GoodIn wsX5_hungryScouts (va_wsS RX5 179 yJ13_bitCount_95d88 wsJ13_bitCount_95d88) := goodIn_app (goodIn_of _ (by decide +kernel)) ggX5_hungryScouts_J13_bitCount_95d88
theorem dX5_hungryScouts_0 : decode cX5_hungryScouts 0 = .ok (.aload_n 0, 1) := by decide +kernel
theorem dX5_hungryScouts_1 : decode cX5_hungryScouts 1 = .ok (.getfield 10, 3) := by decide +kernel
theorem dX5_hungryScouts_4 : decode cX5_hungryScouts 4 = .ok (.getfield 66, 3) := by decide +kernel
theorem dX5_hungryScouts_7 : decode cX5_hungryScouts 7 = .ok (.aload_n 0, 1) := by decide +kernel
theorem dX5_hungryScouts_8 : decode cX5_hungryScouts 8 = .ok (.getfield 33, 3) := by decide +kernel
theorem dX5_hungryScouts_11 : decode cX5_hungryScouts 11 = .ok (.getfield 292, 3) := by decide +kernel
theorem dX5_hungryScouts_14 : decode cX5_hungryScouts 14 = .ok (.invokestatic 179, 3) := by decide +kernel
theorem dX5_hungryScouts_17 : decode cX5_hungryScouts 17 = .ok (.isub, 1) := by decide +kernel
theorem dX5_hungryScouts_18 : decode cX5_hungryScouts 18 = .ok (.ireturn, 1) := by decide +kernel
set_option maxRecDepth 20000 in
theorem ggX5_withPeople_X5_mixed : GoodIn wsX5_withPeople wsX5_mixed := goodIn_r _ [9, 10] (by decide +kernel) (by decide +kernel)
set_option maxRecDepth 20000 in
theorem gX5_withPeople_X5_mixed : GoodIn wsX5_withPeople (va_wsS RX5 262 yX5_mixed wsX5_mixed) := goodIn_app (goodIn_of _ (by decide +kernel)) ggX5_withPeople_X5_mixed
set_option maxRecDepth 20000 in
theorem ggX5_withPeople_X5_factOf : GoodIn wsX5_withPeople wsX5_factOf := goodIn_r _ [14, 1, 15, 16, 17, 18, 19, 20, 21, 22, 23, 24, 25, 26, 27, 28, 29, 30, 31, 32, 33, 34, 35, 36, 37, 38, 39, 40, 41, 42, 43, 44, 45, 46, 47, 48, 49, 50, 51, 54, 55, 56] (by decide +kernel) (by decide +kernel)
set_option maxRecDepth 20000 in
theorem gX5_withPeople_X5_factOf : GoodIn wsX5_withPeople (wsV RX5 75 RX5 yX5_factOf wsX5_factOf) := goodIn_app (goodIn_of _ (by decide +kernel)) ggX5_withPeople_X5_factOf
theorem dX5_withPeople_0 : decode cX5_withPeople 0 = .ok (.lload_n 1, 1) := by decide +kernel
theorem dX5_withPeople_1 : decode cX5_withPeople 1 = .ok (.lstore_n 3, 1) := by decide +kernel
theorem dX5_withPeople_2 : decode cX5_withPeople 2 = .ok (.iconst 0, 1) := by decide +kernel
theorem dX5_withPeople_3 : decode cX5_withPeople 3 = .ok (.istore 5, 2) := by decide +kernel
theorem dX5_withPeople_5 : decode cX5_withPeople 5 = .ok (.iload 5, 2) := by decide +kernel
theorem dX5_withPeople_7 : decode cX5_withPeople 7 = .ok (.aload_n 0, 1) := by decide +kernel
theorem dX5_withPeople_8 : decode cX5_withPeople 8 = .ok (.getfield 10, 3) := by decide +kernel
theorem dX5_withPeople_11 : decode cX5_withPeople 11 = .ok (.getfield 48, 3) := by decide +kernel
theorem dX5_withPeople_14 : decode cX5_withPeople 14 = .ok (.if_icmp .ge 25, 3) := by decide +kernel
theorem dX5_withPeople_17 : decode cX5_withPeople 17 = .ok (.lload_n 3, 1) := by decide +kernel
theorem dX5_withPeople_18 : decode cX5_withPeople 18 = .ok (.aload_n 0, 1) := by decide +kernel
theorem dX5_withPeople_19 : decode cX5_withPeople 19 = .ok (.getfield 26, 3) := by decide +kernel
theorem dX5_withPeople_22 : decode cX5_withPeople 22 = .ok (.getfield 139, 3) := by decide +kernel
theorem dX5_withPeople_25 : decode cX5_withPeople 25 = .ok (.iload 5, 2) := by decide +kernel
theorem dX5_withPeople_27 : decode cX5_withPeople 27 = .ok (.iaload, 1) := by decide +kernel
theorem dX5_withPeople_28 : decode cX5_withPeople 28 = .ok (.i2l, 1) := by decide +kernel
theorem dX5_withPeople_29 : decode cX5_withPeople 29 = .ok (.invokestatic 262, 3) := by decide +kernel
theorem dX5_withPeople_32 : decode cX5_withPeople 32 = .ok (.lstore_n 3, 1) := by decide +kernel
theorem dX5_withPeople_33 : decode cX5_withPeople 33 = .ok (.iinc 5 1, 3) := by decide +kernel
theorem dX5_withPeople_36 : decode cX5_withPeople 36 = .ok (.goto (-31), 3) := by decide +kernel
theorem dX5_withPeople_39 : decode cX5_withPeople 39 = .ok (.iconst 0, 1) := by decide +kernel
theorem dX5_withPeople_40 : decode cX5_withPeople 40 = .ok (.istore 5, 2) := by decide +kernel
theorem dX5_withPeople_42 : decode cX5_withPeople 42 = .ok (.iload 5, 2) := by decide +kernel
theorem dX5_withPeople_44 : decode cX5_withPeople 44 = .ok (.aload_n 0, 1) := by decide +kernel
theorem dX5_withPeople_45 : decode cX5_withPeople 45 = .ok (.getfield 10, 3) := by decide +kernel
theorem dX5_withPeople_48 : decode cX5_withPeople 48 = .ok (.getfield 66, 3) := by decide +kernel
theorem dX5_withPeople_51 : decode cX5_withPeople 51 = .ok (.if_icmp .ge 39, 3) := by decide +kernel
theorem dX5_withPeople_54 : decode cX5_withPeople 54 = .ok (.iconst 0, 1) := by decide +kernel
theorem dX5_withPeople_55 : decode cX5_withPeople 55 = .ok (.istore 6, 2) := by decide +kernel
theorem dX5_withPeople_57 : decode cX5_withPeople 57 = .ok (.iload 6, 2) := by decide +kernel
theorem dX5_withPeople_59 : decode cX5_withPeople 59 = .ok (.bipush 7, 2) := by decide +kernel
theorem dX5_withPeople_61 : decode cX5_withPeople 61 = .ok (.if_icmp .ge 23, 3) := by decide +kernel
theorem dX5_withPeople_64 : decode cX5_withPeople 64 = .ok (.lload_n 3, 1) := by decide +kernel
theorem dX5_withPeople_65 : decode cX5_withPeople 65 = .ok (.aload_n 0, 1) := by decide +kernel
theorem dX5_withPeople_66 : decode cX5_withPeople 66 = .ok (.iload 5, 2) := by decide +kernel
theorem dX5_withPeople_68 : decode cX5_withPeople 68 = .ok (.iload 6, 2) := by decide +kernel
theorem dX5_withPeople_70 : decode cX5_withPeople 70 = .ok (.invokevirtual 75, 3) := by decide +kernel
theorem dX5_withPeople_73 : decode cX5_withPeople 73 = .ok (.i2l, 1) := by decide +kernel
theorem dX5_withPeople_74 : decode cX5_withPeople 74 = .ok (.invokestatic 262, 3) := by decide +kernel
theorem dX5_withPeople_77 : decode cX5_withPeople 77 = .ok (.lstore_n 3, 1) := by decide +kernel
theorem dX5_withPeople_78 : decode cX5_withPeople 78 = .ok (.iinc 6 1, 3) := by decide +kernel
theorem dX5_withPeople_81 : decode cX5_withPeople 81 = .ok (.goto (-24), 3) := by decide +kernel
theorem dX5_withPeople_84 : decode cX5_withPeople 84 = .ok (.iinc 5 1, 3) := by decide +kernel
theorem dX5_withPeople_87 : decode cX5_withPeople 87 = .ok (.goto (-45), 3) := by decide +kernel
theorem dX5_withPeople_90 : decode cX5_withPeople 90 = .ok (.lload_n 3, 1) := by decide +kernel
theorem dX5_withPeople_91 : decode cX5_withPeople 91 = .ok (.lreturn, 1) := by decide +kernel
set_option maxRecDepth 20000 in
theorem ggX5_withKitchen_X5_mixed : GoodIn wsX5_withKitchen wsX5_mixed := goodIn_r _ [9, 10] (by decide +kernel) (by decide +kernel)
set_option maxRecDepth 20000 in
theorem gX5_withKitchen_X5_mixed : GoodIn wsX5_withKitchen (va_wsS RX5 262 yX5_mixed wsX5_mixed) := goodIn_app (goodIn_of _ (by decide +kernel)) ggX5_withKitchen_X5_mixed
set_option maxRecDepth 20000 in
theorem ggX5_withKitchen_X2_eatersOf : GoodIn wsX5_withKitchen wsX2_eatersOf := goodIn_r _ [15, 16, 17, 18, 19, 20, 14, 21, 22, 23, 24, 25, 26, 27, 40, 41, 42, 43, 44, 45, 46, 47, 34, 35, 36, 37, 38, 39] (by decide +kernel) (by decide +kernel)
set_option maxRecDepth 20000 in
theorem gX5_withKitchen_X2_eatersOf : GoodIn wsX5_withKitchen (wsV RX5 175 RX2 yX2_eatersOf wsX2_eatersOf) := goodIn_app (goodIn_of _ (by decide +kernel)) ggX5_withKitchen_X2_eatersOf
theorem dX5_withKitchen_0 : decode cX5_withKitchen 0 = .ok (.lload_n 1, 1) := by decide +kernel
theorem dX5_withKitchen_1 : decode cX5_withKitchen 1 = .ok (.lstore_n 3, 1) := by decide +kernel
theorem dX5_withKitchen_2 : decode cX5_withKitchen 2 = .ok (.iconst 0, 1) := by decide +kernel
theorem dX5_withKitchen_3 : decode cX5_withKitchen 3 = .ok (.istore 5, 2) := by decide +kernel
theorem dX5_withKitchen_5 : decode cX5_withKitchen 5 = .ok (.iload 5, 2) := by decide +kernel
theorem dX5_withKitchen_7 : decode cX5_withKitchen 7 = .ok (.aload_n 0, 1) := by decide +kernel
theorem dX5_withKitchen_8 : decode cX5_withKitchen 8 = .ok (.getfield 33, 3) := by decide +kernel
theorem dX5_withKitchen_11 : decode cX5_withKitchen 11 = .ok (.getfield 151, 3) := by decide +kernel
theorem dX5_withKitchen_14 : decode cX5_withKitchen 14 = .ok (.if_icmp .ge 25, 3) := by decide +kernel
theorem dX5_withKitchen_17 : decode cX5_withKitchen 17 = .ok (.lload_n 3, 1) := by decide +kernel
theorem dX5_withKitchen_18 : decode cX5_withKitchen 18 = .ok (.aload_n 0, 1) := by decide +kernel
theorem dX5_withKitchen_19 : decode cX5_withKitchen 19 = .ok (.getfield 33, 3) := by decide +kernel
theorem dX5_withKitchen_22 : decode cX5_withKitchen 22 = .ok (.getfield 156, 3) := by decide +kernel
theorem dX5_withKitchen_25 : decode cX5_withKitchen 25 = .ok (.iload 5, 2) := by decide +kernel
theorem dX5_withKitchen_27 : decode cX5_withKitchen 27 = .ok (.iaload, 1) := by decide +kernel
theorem dX5_withKitchen_28 : decode cX5_withKitchen 28 = .ok (.i2l, 1) := by decide +kernel
theorem dX5_withKitchen_29 : decode cX5_withKitchen 29 = .ok (.invokestatic 262, 3) := by decide +kernel
theorem dX5_withKitchen_32 : decode cX5_withKitchen 32 = .ok (.lstore_n 3, 1) := by decide +kernel
theorem dX5_withKitchen_33 : decode cX5_withKitchen 33 = .ok (.iinc 5 1, 3) := by decide +kernel
theorem dX5_withKitchen_36 : decode cX5_withKitchen 36 = .ok (.goto (-31), 3) := by decide +kernel
theorem dX5_withKitchen_39 : decode cX5_withKitchen 39 = .ok (.iconst 0, 1) := by decide +kernel
theorem dX5_withKitchen_40 : decode cX5_withKitchen 40 = .ok (.istore 5, 2) := by decide +kernel
theorem dX5_withKitchen_42 : decode cX5_withKitchen 42 = .ok (.iload 5, 2) := by decide +kernel
theorem dX5_withKitchen_44 : decode cX5_withKitchen 44 = .ok (.aload_n 0, 1) := by decide +kernel
theorem dX5_withKitchen_45 : decode cX5_withKitchen 45 = .ok (.getfield 33, 3) := by decide +kernel
theorem dX5_withKitchen_48 : decode cX5_withKitchen 48 = .ok (.getfield 164, 3) := by decide +kernel
theorem dX5_withKitchen_51 : decode cX5_withKitchen 51 = .ok (.if_icmp .ge 27, 3) := by decide +kernel
theorem dX5_withKitchen_54 : decode cX5_withKitchen 54 = .ok (.lload_n 3, 1) := by decide +kernel
theorem dX5_withKitchen_55 : decode cX5_withKitchen 55 = .ok (.aload_n 0, 1) := by decide +kernel
theorem dX5_withKitchen_56 : decode cX5_withKitchen 56 = .ok (.getfield 33, 3) := by decide +kernel
theorem dX5_withKitchen_59 : decode cX5_withKitchen 59 = .ok (.iload 5, 2) := by decide +kernel
theorem dX5_withKitchen_61 : decode cX5_withKitchen 61 = .ok (.aload_n 0, 1) := by decide +kernel
theorem dX5_withKitchen_62 : decode cX5_withKitchen 62 = .ok (.getfield 10, 3) := by decide +kernel
theorem dX5_withKitchen_65 : decode cX5_withKitchen 65 = .ok (.invokevirtual 175, 3) := by decide +kernel
theorem dX5_withKitchen_68 : decode cX5_withKitchen 68 = .ok (.invokestatic 262, 3) := by decide +kernel
theorem dX5_withKitchen_71 : decode cX5_withKitchen 71 = .ok (.lstore_n 3, 1) := by decide +kernel
theorem dX5_withKitchen_72 : decode cX5_withKitchen 72 = .ok (.iinc 5 1, 3) := by decide +kernel
theorem dX5_withKitchen_75 : decode cX5_withKitchen 75 = .ok (.goto (-33), 3) := by decide +kernel
theorem dX5_withKitchen_78 : decode cX5_withKitchen 78 = .ok (.lload_n 3, 1) := by decide +kernel
theorem dX5_withKitchen_79 : decode cX5_withKitchen 79 = .ok (.lreturn, 1) := by decide +kernel
theorem dX5_mixed_0 : decode cX5_mixed 0 = .ok (.lload_n 0, 1) := by decide +kernel
theorem dX5_mixed_1 : decode cX5_mixed 1 = .ok (.ldc2_w 296, 3) := by decide +kernel
theorem dX5_mixed_4 : decode cX5_mixed 4 = .ok (.lmul, 1) := by decide +kernel
theorem dX5_mixed_5 : decode cX5_mixed 5 = .ok (.lload_n 2, 1) := by decide +kernel
theorem dX5_mixed_6 : decode cX5_mixed 6 = .ok (.ladd, 1) := by decide +kernel
theorem dX5_mixed_7 : decode cX5_mixed 7 = .ok (.lreturn, 1) := by decide +kernel
theorem dX6_init_0 : decode cX6_init 0 = .ok (.aload_n 0, 1) := by decide +kernel
theorem dX6_init_1 : decode cX6_init 1 = .ok (.invokespecial 1, 3) := by decide +kernel
theorem dX6_init_4 : decode cX6_init 4 = .ok (.aload_n 0, 1) := by decide +kernel
theorem dX6_init_5 : decode cX6_init 5 = .ok (.bipush 30, 2) := by decide +kernel
theorem dX6_init_7 : decode cX6_init 7 = .ok (.newarray .int, 2) := by decide +kernel
theorem dX6_init_9 : decode cX6_init 9 = .ok (.putfield 9, 3) := by decide +kernel
theorem dX6_init_12 : decode cX6_init 12 = .ok (.aload_n 0, 1) := by decide +kernel
theorem dX6_init_13 : decode cX6_init 13 = .ok (.bipush 30, 2) := by decide +kernel
theorem dX6_init_15 : decode cX6_init 15 = .ok (.newarray .int, 2) := by decide +kernel
theorem dX6_init_17 : decode cX6_init 17 = .ok (.putfield 13, 3) := by decide +kernel
theorem dX6_init_20 : decode cX6_init 20 = .ok (.aload_n 0, 1) := by decide +kernel
theorem dX6_init_21 : decode cX6_init 21 = .ok (.bipush 30, 2) := by decide +kernel
theorem dX6_init_23 : decode cX6_init 23 = .ok (.newarray .int, 2) := by decide +kernel
theorem dX6_init_25 : decode cX6_init 25 = .ok (.putfield 16, 3) := by decide +kernel
theorem dX6_init_28 : decode cX6_init 28 = .ok (.aload_n 0, 1) := by decide +kernel
theorem dX6_init_29 : decode cX6_init 29 = .ok (.bipush 30, 2) := by decide +kernel
theorem dX6_init_31 : decode cX6_init 31 = .ok (.newarray .int, 2) := by decide +kernel
theorem dX6_init_33 : decode cX6_init 33 = .ok (.putfield 19, 3) := by decide +kernel
theorem dX6_init_36 : decode cX6_init 36 = .ok (.aload_n 0, 1) := by decide +kernel
theorem dX6_init_37 : decode cX6_init 37 = .ok (.bipush 30, 2) := by decide +kernel
theorem dX6_init_39 : decode cX6_init 39 = .ok (.newarray .int, 2) := by decide +kernel
theorem dX6_init_41 : decode cX6_init 41 = .ok (.putfield 22, 3) := by decide +kernel
theorem dX6_init_44 : decode cX6_init 44 = .ok (.aload_n 0, 1) := by decide +kernel
theorem dX6_init_45 : decode cX6_init 45 = .ok (.bipush 30, 2) := by decide +kernel
theorem dX6_init_47 : decode cX6_init 47 = .ok (.newarray .int, 2) := by decide +kernel
theorem dX6_init_49 : decode cX6_init 49 = .ok (.putfield 25, 3) := by decide +kernel
theorem dX6_init_52 : decode cX6_init 52 = .ok (.aload_n 0, 1) := by decide +kernel
theorem dX6_init_53 : decode cX6_init 53 = .ok (.sipush 300, 3) := by decide +kernel
theorem dX6_init_56 : decode cX6_init 56 = .ok (.newarray .int, 2) := by decide +kernel
theorem dX6_init_58 : decode cX6_init 58 = .ok (.putfield 28, 3) := by decide +kernel
theorem dX6_init_61 : decode cX6_init 61 = .ok (.aload_n 0, 1) := by decide +kernel
theorem dX6_init_62 : decode cX6_init 62 = .ok (.bipush 30, 2) := by decide +kernel
theorem dX6_init_64 : decode cX6_init 64 = .ok (.newarray .boolean, 2) := by decide +kernel
theorem dX6_init_66 : decode cX6_init 66 = .ok (.putfield 31, 3) := by decide +kernel
theorem dX6_init_69 : decode cX6_init 69 = .ok (.aload_n 0, 1) := by decide +kernel
theorem dX6_init_70 : decode cX6_init 70 = .ok (.bipush 10, 2) := by decide +kernel
theorem dX6_init_72 : decode cX6_init 72 = .ok (.newarray .int, 2) := by decide +kernel
theorem dX6_init_74 : decode cX6_init 74 = .ok (.putfield 35, 3) := by decide +kernel
theorem dX6_init_77 : decode cX6_init 77 = .ok (.aload_n 0, 1) := by decide +kernel
theorem dX6_init_78 : decode cX6_init 78 = .ok (.sipush 305, 3) := by decide +kernel
theorem dX6_init_81 : decode cX6_init 81 = .ok (.newarray .int, 2) := by decide +kernel
theorem dX6_init_83 : decode cX6_init 83 = .ok (.putfield 38, 3) := by decide +kernel
theorem dX6_init_86 : decode cX6_init 86 = .ok (.aload_n 0, 1) := by decide +kernel
theorem dX6_init_87 : decode cX6_init 87 = .ok (.bipush 12, 2) := by decide +kernel
theorem dX6_init_89 : decode cX6_init 89 = .ok (.newarray .int, 2) := by decide +kernel
theorem dX6_init_91 : decode cX6_init 91 = .ok (.putfield 41, 3) := by decide +kernel
theorem dX6_init_94 : decode cX6_init 94 = .ok (.aload_n 0, 1) := by decide +kernel
theorem dX6_init_95 : decode cX6_init 95 = .ok (.bipush 120, 2) := by decide +kernel
theorem dX6_init_97 : decode cX6_init 97 = .ok (.newarray .int, 2) := by decide +kernel
theorem dX6_init_99 : decode cX6_init 99 = .ok (.putfield 44, 3) := by decide +kernel
theorem dX6_init_102 : decode cX6_init 102 = .ok (.aload_n 0, 1) := by decide +kernel
theorem dX6_init_103 : decode cX6_init 103 = .ok (.bipush 8, 2) := by decide +kernel
theorem dX6_init_105 : decode cX6_init 105 = .ok (.newarray .int, 2) := by decide +kernel
theorem dX6_init_107 : decode cX6_init 107 = .ok (.putfield 47, 3) := by decide +kernel
theorem dX6_init_110 : decode cX6_init 110 = .ok (.aload_n 0, 1) := by decide +kernel
theorem dX6_init_111 : decode cX6_init 111 = .ok (.bipush 80, 2) := by decide +kernel
theorem dX6_init_113 : decode cX6_init 113 = .ok (.newarray .int, 2) := by decide +kernel
theorem dX6_init_115 : decode cX6_init 115 = .ok (.putfield 50, 3) := by decide +kernel
theorem dX6_init_118 : decode cX6_init 118 = .ok (.iconst 0, 1) := by decide +kernel
theorem dX6_init_119 : decode cX6_init 119 = .ok (.istore_n 1, 1) := by decide +kernel
theorem dX6_init_120 : decode cX6_init 120 = .ok (.iload_n 1, 1) := by decide +kernel
theorem dX6_init_121 : decode cX6_init 121 = .ok (.aload_n 0, 1) := by decide +kernel
theorem dX6_init_122 : decode cX6_init 122 = .ok (.getfield 38, 3) := by decide +kernel
theorem dX6_init_125 : decode cX6_init 125 = .ok (.arraylength, 1) := by decide +kernel
theorem dX6_init_126 : decode cX6_init 126 = .ok (.if_icmp .ge 16, 3) := by decide +kernel
theorem dX6_init_129 : decode cX6_init 129 = .ok (.aload_n 0, 1) := by decide +kernel
theorem dX6_init_130 : decode cX6_init 130 = .ok (.getfield 38, 3) := by decide +kernel
theorem dX6_init_133 : decode cX6_init 133 = .ok (.iload_n 1, 1) := by decide +kernel
theorem dX6_init_134 : decode cX6_init 134 = .ok (.iconst (-1), 1) := by decide +kernel
theorem dX6_init_135 : decode cX6_init 135 = .ok (.iastore, 1) := by decide +kernel
theorem dX6_init_136 : decode cX6_init 136 = .ok (.iinc 1 1, 3) := by decide +kernel
theorem dX6_init_139 : decode cX6_init 139 = .ok (.goto (-19), 3) := by decide +kernel
theorem dX6_init_142 : decode cX6_init 142 = .ok (.return_, 1) := by decide +kernel
theorem dX6_thrown_0 : decode cX6_thrown 0 = .ok (.aload_n 0, 1) := by decide +kernel
theorem dX6_thrown_1 : decode cX6_thrown 1 = .ok (.getfield 53, 3) := by decide +kernel
theorem dX6_thrown_4 : decode cX6_thrown 4 = .ok (.ireturn, 1) := by decide +kernel
theorem dX6_no_0 : decode cX6_no 0 = .ok (.aload_n 0, 1) := by decide +kernel
theorem dX6_no_1 : decode cX6_no 1 = .ok (.iload_n 1, 1) := by decide +kernel
theorem dX6_no_2 : decode cX6_no 2 = .ok (.putfield 53, 3) := by decide +kernel
theorem dX6_no_5 : decode cX6_no 5 = .ok (.iconst 0, 1) := by decide +kernel
theorem dX6_no_6 : decode cX6_no 6 = .ok (.ireturn, 1) := by decide +kernel
theorem dX6_isIn_0 : decode cX6_isIn 0 = .ok (.iload_n 0, 1) := by decide +kernel
theorem dX6_isIn_1 : decode cX6_isIn 1 = .ok (.iload_n 1, 1) := by decide +kernel
theorem dX6_isIn_2 : decode cX6_isIn 2 = .ok (.if_icmp .lt 12, 3) := by decide +kernel
theorem dX6_isIn_5 : decode cX6_isIn 5 = .ok (.iload_n 0, 1) := by decide +kernel
theorem dX6_isIn_6 : decode cX6_isIn 6 = .ok (.iload_n 2, 1) := by decide +kernel
theorem dX6_isIn_7 : decode cX6_isIn 7 = .ok (.if_icmp .gt 7, 3) := by decide +kernel
theorem dX6_isIn_10 : decode cX6_isIn 10 = .ok (.iconst 1, 1) := by decide +kernel
theorem dX6_isIn_11 : decode cX6_isIn 11 = .ok (.goto 4, 3) := by decide +kernel
theorem dX6_isIn_14 : decode cX6_isIn 14 = .ok (.iconst 0, 1) := by decide +kernel
theorem dX6_isIn_15 : decode cX6_isIn 15 = .ok (.ireturn, 1) := by decide +kernel
set_option maxRecDepth 20000 in
theorem ggX6_isPatrol_X6_isIn : GoodIn wsX6_isPatrol wsX6_isIn := goodIn_r _ [5] (by decide +kernel) (by decide +kernel)
set_option maxRecDepth 20000 in
theorem gX6_isPatrol_X6_isIn : GoodIn wsX6_isPatrol (va_wsS RX6 60 yX6_isIn wsX6_isIn) := goodIn_app (goodIn_of _ (by decide +kernel)) ggX6_isPatrol_X6_isIn
theorem dX6_isPatrol_0 : decode cX6_isPatrol 0 = .ok (.iload_n 1, 1) := by decide +kernel
theorem dX6_isPatrol_1 : decode cX6_isPatrol 1 = .ok (.iconst 0, 1) := by decide +kernel
theorem dX6_isPatrol_2 : decode cX6_isPatrol 2 = .ok (.aload_n 0, 1) := by decide +kernel
theorem dX6_isPatrol_3 : decode cX6_isPatrol 3 = .ok (.getfield 57, 3) := by decide +kernel
theorem dX6_isPatrol_6 : decode cX6_isPatrol 6 = .ok (.iconst 1, 1) := by decide +kernel
theorem dX6_isPatrol_7 : decode cX6_isPatrol 7 = .ok (.isub, 1) := by decide +kernel
theorem dX6_isPatrol_8 : decode cX6_isPatrol 8 = .ok (.invokestatic 60, 3) := by decide +kernel
theorem dX6_isPatrol_11 : decode cX6_isPatrol 11 = .ok (.ireturn, 1) := by decide +kernel
set_option maxRecDepth 20000 in
theorem ggX6_isScout_X6_isIn : GoodIn wsX6_isScout wsX6_isIn := goodIn_r _ [5] (by decide +kernel) (by decide +kernel)
set_option maxRecDepth 20000 in
theorem gX6_isScout_X6_isIn : GoodIn wsX6_isScout (va_wsS RX6 60 yX6_isIn wsX6_isIn) := goodIn_app (goodIn_of _ (by decide +kernel)) ggX6_isScout_X6_isIn
theorem dX6_isScout_0 : decode cX6_isScout 0 = .ok (.iload_n 1, 1) := by decide +kernel
theorem dX6_isScout_1 : decode cX6_isScout 1 = .ok (.iconst 0, 1) := by decide +kernel
theorem dX6_isScout_2 : decode cX6_isScout 2 = .ok (.aload_n 0, 1) := by decide +kernel
theorem dX6_isScout_3 : decode cX6_isScout 3 = .ok (.getfield 64, 3) := by decide +kernel
theorem dX6_isScout_6 : decode cX6_isScout 6 = .ok (.iconst 1, 1) := by decide +kernel
theorem dX6_isScout_7 : decode cX6_isScout 7 = .ok (.isub, 1) := by decide +kernel
theorem dX6_isScout_8 : decode cX6_isScout 8 = .ok (.invokestatic 60, 3) := by decide +kernel
theorem dX6_isScout_11 : decode cX6_isScout 11 = .ok (.ireturn, 1) := by decide +kernel
set_option maxRecDepth 20000 in
theorem ggX6_isTent_X6_isIn : GoodIn wsX6_isTent wsX6_isIn := goodIn_r _ [5] (by decide +kernel) (by decide +kernel)
set_option maxRecDepth 20000 in
theorem gX6_isTent_X6_isIn : GoodIn wsX6_isTent (va_wsS RX6 60 yX6_isIn wsX6_isIn) := goodIn_app (goodIn_of _ (by decide +kernel)) ggX6_isTent_X6_isIn
theorem dX6_isTent_0 : decode cX6_isTent 0 = .ok (.iload_n 1, 1) := by decide +kernel
theorem dX6_isTent_1 : decode cX6_isTent 1 = .ok (.iconst 0, 1) := by decide +kernel
theorem dX6_isTent_2 : decode cX6_isTent 2 = .ok (.aload_n 0, 1) := by decide +kernel
theorem dX6_isTent_3 : decode cX6_isTent 3 = .ok (.getfield 67, 3) := by decide +kernel
theorem dX6_isTent_6 : decode cX6_isTent 6 = .ok (.iconst 1, 1) := by decide +kernel
theorem dX6_isTent_7 : decode cX6_isTent 7 = .ok (.isub, 1) := by decide +kernel
theorem dX6_isTent_8 : decode cX6_isTent 8 = .ok (.invokestatic 60, 3) := by decide +kernel
theorem dX6_isTent_11 : decode cX6_isTent 11 = .ok (.ireturn, 1) := by decide +kernel
set_option maxRecDepth 20000 in
theorem ggX6_isFood_X6_isIn : GoodIn wsX6_isFood wsX6_isIn := goodIn_r _ [5] (by decide +kernel) (by decide +kernel)
set_option maxRecDepth 20000 in
theorem gX6_isFood_X6_isIn : GoodIn wsX6_isFood (va_wsS RX6 60 yX6_isIn wsX6_isIn) := goodIn_app (goodIn_of _ (by decide +kernel)) ggX6_isFood_X6_isIn
theorem dX6_isFood_0 : decode cX6_isFood 0 = .ok (.iload_n 1, 1) := by decide +kernel
theorem dX6_isFood_1 : decode cX6_isFood 1 = .ok (.iconst 0, 1) := by decide +kernel
theorem dX6_isFood_2 : decode cX6_isFood 2 = .ok (.aload_n 0, 1) := by decide +kernel
theorem dX6_isFood_3 : decode cX6_isFood 3 = .ok (.getfield 70, 3) := by decide +kernel
theorem dX6_isFood_6 : decode cX6_isFood 6 = .ok (.iconst 1, 1) := by decide +kernel
theorem dX6_isFood_7 : decode cX6_isFood 7 = .ok (.isub, 1) := by decide +kernel
theorem dX6_isFood_8 : decode cX6_isFood 8 = .ok (.invokestatic 60, 3) := by decide +kernel
theorem dX6_isFood_11 : decode cX6_isFood 11 = .ok (.ireturn, 1) := by decide +kernel
set_option maxRecDepth 20000 in
theorem ggX6_isMeal_X6_isIn : GoodIn wsX6_isMeal wsX6_isIn := goodIn_r _ [5] (by decide +kernel) (by decide +kernel)
set_option maxRecDepth 20000 in
theorem gX6_isMeal_X6_isIn : GoodIn wsX6_isMeal (va_wsS RX6 60 yX6_isIn wsX6_isIn) := goodIn_app (goodIn_of _ (by decide +kernel)) ggX6_isMeal_X6_isIn
theorem dX6_isMeal_0 : decode cX6_isMeal 0 = .ok (.iload_n 1, 1) := by decide +kernel
theorem dX6_isMeal_1 : decode cX6_isMeal 1 = .ok (.iconst 0, 1) := by decide +kernel
theorem dX6_isMeal_2 : decode cX6_isMeal 2 = .ok (.aload_n 0, 1) := by decide +kernel
theorem dX6_isMeal_3 : decode cX6_isMeal 3 = .ok (.getfield 73, 3) := by decide +kernel
theorem dX6_isMeal_6 : decode cX6_isMeal 6 = .ok (.iconst 1, 1) := by decide +kernel
theorem dX6_isMeal_7 : decode cX6_isMeal 7 = .ok (.isub, 1) := by decide +kernel
theorem dX6_isMeal_8 : decode cX6_isMeal 8 = .ok (.invokestatic 60, 3) := by decide +kernel
theorem dX6_isMeal_11 : decode cX6_isMeal 11 = .ok (.ireturn, 1) := by decide +kernel
set_option maxRecDepth 20000 in
theorem ggX6_isBadge_X6_isIn : GoodIn wsX6_isBadge wsX6_isIn := goodIn_r _ [5] (by decide +kernel) (by decide +kernel)
set_option maxRecDepth 20000 in
theorem gX6_isBadge_X6_isIn : GoodIn wsX6_isBadge (va_wsS RX6 60 yX6_isIn wsX6_isIn) := goodIn_app (goodIn_of _ (by decide +kernel)) ggX6_isBadge_X6_isIn
theorem dX6_isBadge_0 : decode cX6_isBadge 0 = .ok (.iload_n 1, 1) := by decide +kernel
theorem dX6_isBadge_1 : decode cX6_isBadge 1 = .ok (.iconst 0, 1) := by decide +kernel
theorem dX6_isBadge_2 : decode cX6_isBadge 2 = .ok (.aload_n 0, 1) := by decide +kernel
theorem dX6_isBadge_3 : decode cX6_isBadge 3 = .ok (.getfield 76, 3) := by decide +kernel
theorem dX6_isBadge_6 : decode cX6_isBadge 6 = .ok (.iconst 1, 1) := by decide +kernel
theorem dX6_isBadge_7 : decode cX6_isBadge 7 = .ok (.isub, 1) := by decide +kernel
theorem dX6_isBadge_8 : decode cX6_isBadge 8 = .ok (.invokestatic 60, 3) := by decide +kernel
theorem dX6_isBadge_11 : decode cX6_isBadge 11 = .ok (.ireturn, 1) := by decide +kernel
set_option maxRecDepth 20000 in
theorem ggX6_addPatrol_X6_no : GoodIn wsX6_addPatrol wsX6_no := goodIn_r _ [7, 1, 8, 9, 10, 11, 12, 13, 14, 15, 16, 17, 18, 19, 20, 21, 22, 23, 24, 25, 26, 27, 28, 29, 30] (by decide +kernel) (by decide +kernel)
set_option maxRecDepth 20000 in
theorem gX6_addPatrol_X6_no : GoodIn wsX6_addPatrol (wsV RX6 79 RX6 yX6_no wsX6_no) := goodIn_app (goodIn_of _ (by decide +kernel)) ggX6_addPatrol_X6_no
theorem dX6_addPatrol_0 : decode cX6_addPatrol 0 = .ok (.aload_n 0, 1) := by decide +kernel
theorem dX6_addPatrol_1 : decode cX6_addPatrol 1 = .ok (.iconst 0, 1) := by decide +kernel
theorem dX6_addPatrol_2 : decode cX6_addPatrol 2 = .ok (.putfield 53, 3) := by decide +kernel
theorem dX6_addPatrol_5 : decode cX6_addPatrol 5 = .ok (.aload_n 0, 1) := by decide +kernel
theorem dX6_addPatrol_6 : decode cX6_addPatrol 6 = .ok (.getfield 57, 3) := by decide +kernel
theorem dX6_addPatrol_9 : decode cX6_addPatrol 9 = .ok (.bipush 6, 2) := by decide +kernel
theorem dX6_addPatrol_11 : decode cX6_addPatrol 11 = .ok (.if_icmp .ne 9, 3) := by decide +kernel
theorem dX6_addPatrol_14 : decode cX6_addPatrol 14 = .ok (.aload_n 0, 1) := by decide +kernel
theorem dX6_addPatrol_15 : decode cX6_addPatrol 15 = .ok (.iconst 1, 1) := by decide +kernel
theorem dX6_addPatrol_16 : decode cX6_addPatrol 16 = .ok (.invokevirtual 79, 3) := by decide +kernel
theorem dX6_addPatrol_19 : decode cX6_addPatrol 19 = .ok (.ireturn, 1) := by decide +kernel
theorem dX6_addPatrol_20 : decode cX6_addPatrol 20 = .ok (.aload_n 0, 1) := by decide +kernel
theorem dX6_addPatrol_21 : decode cX6_addPatrol 21 = .ok (.dup, 1) := by decide +kernel
theorem dX6_addPatrol_22 : decode cX6_addPatrol 22 = .ok (.getfield 57, 3) := by decide +kernel
theorem dX6_addPatrol_25 : decode cX6_addPatrol 25 = .ok (.iconst 1, 1) := by decide +kernel
theorem dX6_addPatrol_26 : decode cX6_addPatrol 26 = .ok (.iadd, 1) := by decide +kernel
theorem dX6_addPatrol_27 : decode cX6_addPatrol 27 = .ok (.putfield 57, 3) := by decide +kernel
theorem dX6_addPatrol_30 : decode cX6_addPatrol 30 = .ok (.aload_n 0, 1) := by decide +kernel
theorem dX6_addPatrol_31 : decode cX6_addPatrol 31 = .ok (.getfield 57, 3) := by decide +kernel
theorem dX6_addPatrol_34 : decode cX6_addPatrol 34 = .ok (.iconst 1, 1) := by decide +kernel
theorem dX6_addPatrol_35 : decode cX6_addPatrol 35 = .ok (.isub, 1) := by decide +kernel
theorem dX6_addPatrol_36 : decode cX6_addPatrol 36 = .ok (.ireturn, 1) := by decide +kernel
set_option maxRecDepth 20000 in
theorem ggX6_addScout_X6_isPatrol : GoodIn wsX6_addScout wsX6_isPatrol := goodIn_r _ [11, 12, 13, 14, 10, 15, 20, 21, 22, 23, 24, 25, 26, 27, 28, 29, 30, 31, 32, 33, 34, 35, 36, 37, 38, 39, 40, 41, 42] (by decide +kernel) (by decide +kernel)
set_option maxRecDepth 20000 in
theorem gX6_addScout_X6_isPatrol : GoodIn wsX6_addScout (wsV RX6 83 RX6 yX6_isPatrol wsX6_isPatrol) := goodIn_app (goodIn_of _ (by decide +kernel)) ggX6_addScout_X6_isPatrol
set_option maxRecDepth 20000 in
theorem ggX6_addScout_X6_no : GoodIn wsX6_addScout wsX6_no := goodIn_r _ [19, 1, 20, 21, 22, 23, 24, 25, 26, 27, 28, 29, 30, 31, 32, 33, 34, 35, 36, 37, 38, 39, 40, 41, 42] (by decide +kernel) (by decide +kernel)
set_option maxRecDepth 20000 in
theorem gX6_addScout_X6_no : GoodIn wsX6_addScout (wsV RX6 79 RX6 yX6_no wsX6_no) := goodIn_app (goodIn_of _ (by decide +kernel)) ggX6_addScout_X6_no
set_option maxRecDepth 20000 in
theorem ggX6_addScout_X6_isIn : GoodIn wsX6_addScout wsX6_isIn := goodIn_r _ [15] (by decide +kernel) (by decide +kernel)
set_option maxRecDepth 20000 in
theorem gX6_addScout_X6_isIn : GoodIn wsX6_addScout (va_wsS RX6 60 yX6_isIn wsX6_isIn) := goodIn_app (goodIn_of _ (by decide +kernel)) ggX6_addScout_X6_isIn
theorem dX6_addScout_0 : decode cX6_addScout 0 = .ok (.aload_n 0, 1) := by decide +kernel
theorem dX6_addScout_1 : decode cX6_addScout 1 = .ok (.iconst 0, 1) := by decide +kernel
theorem dX6_addScout_2 : decode cX6_addScout 2 = .ok (.putfield 53, 3) := by decide +kernel
theorem dX6_addScout_5 : decode cX6_addScout 5 = .ok (.aload_n 0, 1) := by decide +kernel
theorem dX6_addScout_6 : decode cX6_addScout 6 = .ok (.iload_n 1, 1) := by decide +kernel
theorem dX6_addScout_7 : decode cX6_addScout 7 = .ok (.invokevirtual 83, 3) := by decide +kernel
theorem dX6_addScout_10 : decode cX6_addScout 10 = .ok (.ifCond .ne 9, 3) := by decide +kernel
theorem dX6_addScout_13 : decode cX6_addScout 13 = .ok (.aload_n 0, 1) := by decide +kernel
theorem dX6_addScout_14 : decode cX6_addScout 14 = .ok (.iconst 1, 1) := by decide +kernel
theorem dX6_addScout_15 : decode cX6_addScout 15 = .ok (.invokevirtual 79, 3) := by decide +kernel
theorem dX6_addScout_18 : decode cX6_addScout 18 = .ok (.ireturn, 1) := by decide +kernel
theorem dX6_addScout_19 : decode cX6_addScout 19 = .ok (.iload_n 2, 1) := by decide +kernel
theorem dX6_addScout_20 : decode cX6_addScout 20 = .ok (.bipush 6, 2) := by decide +kernel
theorem dX6_addScout_22 : decode cX6_addScout 22 = .ok (.bipush 17, 2) := by decide +kernel
theorem dX6_addScout_24 : decode cX6_addScout 24 = .ok (.invokestatic 60, 3) := by decide +kernel
theorem dX6_addScout_27 : decode cX6_addScout 27 = .ok (.ifCond .eq 14, 3) := by decide +kernel
theorem dX6_addScout_30 : decode cX6_addScout 30 = .ok (.iload_n 3, 1) := by decide +kernel
theorem dX6_addScout_31 : decode cX6_addScout 31 = .ok (.iconst 0, 1) := by decide +kernel
theorem dX6_addScout_32 : decode cX6_addScout 32 = .ok (.sipush 255, 3) := by decide +kernel
theorem dX6_addScout_35 : decode cX6_addScout 35 = .ok (.invokestatic 60, 3) := by decide +kernel
theorem dX6_addScout_38 : decode cX6_addScout 38 = .ok (.ifCond .ne 9, 3) := by decide +kernel
theorem dX6_addScout_41 : decode cX6_addScout 41 = .ok (.aload_n 0, 1) := by decide +kernel
theorem dX6_addScout_42 : decode cX6_addScout 42 = .ok (.iconst 2, 1) := by decide +kernel
theorem dX6_addScout_43 : decode cX6_addScout 43 = .ok (.invokevirtual 79, 3) := by decide +kernel
theorem dX6_addScout_46 : decode cX6_addScout 46 = .ok (.ireturn, 1) := by decide +kernel
theorem dX6_addScout_47 : decode cX6_addScout 47 = .ok (.aload_n 0, 1) := by decide +kernel
theorem dX6_addScout_48 : decode cX6_addScout 48 = .ok (.getfield 64, 3) := by decide +kernel
theorem dX6_addScout_51 : decode cX6_addScout 51 = .ok (.bipush 30, 2) := by decide +kernel
theorem dX6_addScout_53 : decode cX6_addScout 53 = .ok (.if_icmp .ne 9, 3) := by decide +kernel
theorem dX6_addScout_56 : decode cX6_addScout 56 = .ok (.aload_n 0, 1) := by decide +kernel
theorem dX6_addScout_57 : decode cX6_addScout 57 = .ok (.iconst 3, 1) := by decide +kernel
theorem dX6_addScout_58 : decode cX6_addScout 58 = .ok (.invokevirtual 79, 3) := by decide +kernel
theorem dX6_addScout_61 : decode cX6_addScout 61 = .ok (.ireturn, 1) := by decide +kernel
theorem dX6_addScout_62 : decode cX6_addScout 62 = .ok (.aload_n 0, 1) := by decide +kernel
theorem dX6_addScout_63 : decode cX6_addScout 63 = .ok (.getfield 9, 3) := by decide +kernel
theorem dX6_addScout_66 : decode cX6_addScout 66 = .ok (.aload_n 0, 1) := by decide +kernel
theorem dX6_addScout_67 : decode cX6_addScout 67 = .ok (.getfield 64, 3) := by decide +kernel
theorem dX6_addScout_70 : decode cX6_addScout 70 = .ok (.iload_n 1, 1) := by decide +kernel
theorem dX6_addScout_71 : decode cX6_addScout 71 = .ok (.iastore, 1) := by decide +kernel
theorem dX6_addScout_72 : decode cX6_addScout 72 = .ok (.aload_n 0, 1) := by decide +kernel
theorem dX6_addScout_73 : decode cX6_addScout 73 = .ok (.getfield 13, 3) := by decide +kernel
theorem dX6_addScout_76 : decode cX6_addScout 76 = .ok (.aload_n 0, 1) := by decide +kernel
theorem dX6_addScout_77 : decode cX6_addScout 77 = .ok (.getfield 64, 3) := by decide +kernel
theorem dX6_addScout_80 : decode cX6_addScout 80 = .ok (.iload_n 2, 1) := by decide +kernel
theorem dX6_addScout_81 : decode cX6_addScout 81 = .ok (.iastore, 1) := by decide +kernel
theorem dX6_addScout_82 : decode cX6_addScout 82 = .ok (.aload_n 0, 1) := by decide +kernel
theorem dX6_addScout_83 : decode cX6_addScout 83 = .ok (.getfield 16, 3) := by decide +kernel
theorem dX6_addScout_86 : decode cX6_addScout 86 = .ok (.aload_n 0, 1) := by decide +kernel
theorem dX6_addScout_87 : decode cX6_addScout 87 = .ok (.getfield 64, 3) := by decide +kernel
theorem dX6_addScout_90 : decode cX6_addScout 90 = .ok (.iload_n 3, 1) := by decide +kernel
theorem dX6_addScout_91 : decode cX6_addScout 91 = .ok (.iastore, 1) := by decide +kernel
theorem dX6_addScout_92 : decode cX6_addScout 92 = .ok (.aload_n 0, 1) := by decide +kernel
theorem dX6_addScout_93 : decode cX6_addScout 93 = .ok (.getfield 22, 3) := by decide +kernel
theorem dX6_addScout_96 : decode cX6_addScout 96 = .ok (.aload_n 0, 1) := by decide +kernel
theorem dX6_addScout_97 : decode cX6_addScout 97 = .ok (.getfield 64, 3) := by decide +kernel
theorem dX6_addScout_100 : decode cX6_addScout 100 = .ok (.iconst (-1), 1) := by decide +kernel
theorem dX6_addScout_101 : decode cX6_addScout 101 = .ok (.iastore, 1) := by decide +kernel
theorem dX6_addScout_102 : decode cX6_addScout 102 = .ok (.aload_n 0, 1) := by decide +kernel
theorem dX6_addScout_103 : decode cX6_addScout 103 = .ok (.dup, 1) := by decide +kernel
theorem dX6_addScout_104 : decode cX6_addScout 104 = .ok (.getfield 64, 3) := by decide +kernel
theorem dX6_addScout_107 : decode cX6_addScout 107 = .ok (.iconst 1, 1) := by decide +kernel
theorem dX6_addScout_108 : decode cX6_addScout 108 = .ok (.iadd, 1) := by decide +kernel
theorem dX6_addScout_109 : decode cX6_addScout 109 = .ok (.putfield 64, 3) := by decide +kernel
theorem dX6_addScout_112 : decode cX6_addScout 112 = .ok (.aload_n 0, 1) := by decide +kernel
theorem dX6_addScout_113 : decode cX6_addScout 113 = .ok (.getfield 64, 3) := by decide +kernel
theorem dX6_addScout_116 : decode cX6_addScout 116 = .ok (.iconst 1, 1) := by decide +kernel
theorem dX6_addScout_117 : decode cX6_addScout 117 = .ok (.isub, 1) := by decide +kernel
theorem dX6_addScout_118 : decode cX6_addScout 118 = .ok (.ireturn, 1) := by decide +kernel
theorem dX6_hoursOf_0 : decode cX6_hoursOf 0 = .ok (.iconst 0, 1) := by decide +kernel
theorem dX6_hoursOf_1 : decode cX6_hoursOf 1 = .ok (.istore_n 2, 1) := by decide +kernel
theorem dX6_hoursOf_2 : decode cX6_hoursOf 2 = .ok (.iconst 0, 1) := by decide +kernel
theorem dX6_hoursOf_3 : decode cX6_hoursOf 3 = .ok (.istore_n 3, 1) := by decide +kernel
theorem dX6_hoursOf_4 : decode cX6_hoursOf 4 = .ok (.iload_n 3, 1) := by decide +kernel
theorem dX6_hoursOf_5 : decode cX6_hoursOf 5 = .ok (.bipush 10, 2) := by decide +kernel
theorem dX6_hoursOf_7 : decode cX6_hoursOf 7 = .ok (.if_icmp .ge 23, 3) := by decide +kernel
theorem dX6_hoursOf_10 : decode cX6_hoursOf 10 = .ok (.iload_n 2, 1) := by decide +kernel
theorem dX6_hoursOf_11 : decode cX6_hoursOf 11 = .ok (.aload_n 0, 1) := by decide +kernel
theorem dX6_hoursOf_12 : decode cX6_hoursOf 12 = .ok (.getfield 28, 3) := by decide +kernel
theorem dX6_hoursOf_15 : decode cX6_hoursOf 15 = .ok (.bipush 10, 2) := by decide +kernel
theorem dX6_hoursOf_17 : decode cX6_hoursOf 17 = .ok (.iload_n 1, 1) := by decide +kernel
theorem dX6_hoursOf_18 : decode cX6_hoursOf 18 = .ok (.imul, 1) := by decide +kernel
theorem dX6_hoursOf_19 : decode cX6_hoursOf 19 = .ok (.iload_n 3, 1) := by decide +kernel
theorem dX6_hoursOf_20 : decode cX6_hoursOf 20 = .ok (.iadd, 1) := by decide +kernel
theorem dX6_hoursOf_21 : decode cX6_hoursOf 21 = .ok (.iaload, 1) := by decide +kernel
theorem dX6_hoursOf_22 : decode cX6_hoursOf 22 = .ok (.iadd, 1) := by decide +kernel
theorem dX6_hoursOf_23 : decode cX6_hoursOf 23 = .ok (.istore_n 2, 1) := by decide +kernel
theorem dX6_hoursOf_24 : decode cX6_hoursOf 24 = .ok (.iinc 3 1, 3) := by decide +kernel
theorem dX6_hoursOf_27 : decode cX6_hoursOf 27 = .ok (.goto (-23), 3) := by decide +kernel
theorem dX6_hoursOf_30 : decode cX6_hoursOf 30 = .ok (.iload_n 2, 1) := by decide +kernel
theorem dX6_hoursOf_31 : decode cX6_hoursOf 31 = .ok (.ireturn, 1) := by decide +kernel
set_option maxRecDepth 20000 in
theorem ggX6_told_X6_hoursOf : GoodIn wsX6_told wsX6_hoursOf := goodIn_r _ [12, 13, 14, 15, 16, 17, 18, 19, 20, 21, 22, 23, 24, 25, 26, 27, 28, 29, 30, 31, 32, 33, 34, 35, 36] (by decide +kernel) (by decide +kernel)
set_option maxRecDepth 20000 in
theorem gX6_told_X6_hoursOf : GoodIn wsX6_told (wsV RX6 87 RX6 yX6_hoursOf wsX6_hoursOf) := goodIn_app (goodIn_of _ (by decide +kernel)) ggX6_told_X6_hoursOf
theorem dX6_told_0 : decode cX6_told 0 = .ok (.bipush 7, 2) := by decide +kernel
theorem dX6_told_2 : decode cX6_told 2 = .ok (.newarray .int, 2) := by decide +kernel
theorem dX6_told_4 : decode cX6_told 4 = .ok (.dup, 1) := by decide +kernel
theorem dX6_told_5 : decode cX6_told 5 = .ok (.iconst 0, 1) := by decide +kernel
theorem dX6_told_6 : decode cX6_told 6 = .ok (.aload_n 0, 1) := by decide +kernel
theorem dX6_told_7 : decode cX6_told 7 = .ok (.getfield 9, 3) := by decide +kernel
theorem dX6_told_10 : decode cX6_told 10 = .ok (.iload_n 1, 1) := by decide +kernel
theorem dX6_told_11 : decode cX6_told 11 = .ok (.iaload, 1) := by decide +kernel
theorem dX6_told_12 : decode cX6_told 12 = .ok (.iastore, 1) := by decide +kernel
theorem dX6_told_13 : decode cX6_told 13 = .ok (.dup, 1) := by decide +kernel
theorem dX6_told_14 : decode cX6_told 14 = .ok (.iconst 1, 1) := by decide +kernel
theorem dX6_told_15 : decode cX6_told 15 = .ok (.aload_n 0, 1) := by decide +kernel
theorem dX6_told_16 : decode cX6_told 16 = .ok (.getfield 13, 3) := by decide +kernel
theorem dX6_told_19 : decode cX6_told 19 = .ok (.iload_n 1, 1) := by decide +kernel
theorem dX6_told_20 : decode cX6_told 20 = .ok (.iaload, 1) := by decide +kernel
theorem dX6_told_21 : decode cX6_told 21 = .ok (.iastore, 1) := by decide +kernel
theorem dX6_told_22 : decode cX6_told 22 = .ok (.dup, 1) := by decide +kernel
theorem dX6_told_23 : decode cX6_told 23 = .ok (.iconst 2, 1) := by decide +kernel
theorem dX6_told_24 : decode cX6_told 24 = .ok (.aload_n 0, 1) := by decide +kernel
theorem dX6_told_25 : decode cX6_told 25 = .ok (.getfield 16, 3) := by decide +kernel
theorem dX6_told_28 : decode cX6_told 28 = .ok (.iload_n 1, 1) := by decide +kernel
theorem dX6_told_29 : decode cX6_told 29 = .ok (.iaload, 1) := by decide +kernel
theorem dX6_told_30 : decode cX6_told 30 = .ok (.iastore, 1) := by decide +kernel
theorem dX6_told_31 : decode cX6_told 31 = .ok (.dup, 1) := by decide +kernel
theorem dX6_told_32 : decode cX6_told 32 = .ok (.iconst 3, 1) := by decide +kernel
theorem dX6_told_33 : decode cX6_told 33 = .ok (.aload_n 0, 1) := by decide +kernel
theorem dX6_told_34 : decode cX6_told 34 = .ok (.getfield 19, 3) := by decide +kernel
theorem dX6_told_37 : decode cX6_told 37 = .ok (.iload_n 1, 1) := by decide +kernel
theorem dX6_told_38 : decode cX6_told 38 = .ok (.iaload, 1) := by decide +kernel
theorem dX6_told_39 : decode cX6_told 39 = .ok (.iastore, 1) := by decide +kernel
theorem dX6_told_40 : decode cX6_told 40 = .ok (.dup, 1) := by decide +kernel
theorem dX6_told_41 : decode cX6_told 41 = .ok (.iconst 4, 1) := by decide +kernel
theorem dX6_told_42 : decode cX6_told 42 = .ok (.aload_n 0, 1) := by decide +kernel
theorem dX6_told_43 : decode cX6_told 43 = .ok (.getfield 22, 3) := by decide +kernel
theorem dX6_told_46 : decode cX6_told 46 = .ok (.iload_n 1, 1) := by decide +kernel
theorem dX6_told_47 : decode cX6_told 47 = .ok (.iaload, 1) := by decide +kernel
theorem dX6_told_48 : decode cX6_told 48 = .ok (.iastore, 1) := by decide +kernel
theorem dX6_told_49 : decode cX6_told 49 = .ok (.dup, 1) := by decide +kernel
theorem dX6_told_50 : decode cX6_told 50 = .ok (.iconst 5, 1) := by decide +kernel
theorem dX6_told_51 : decode cX6_told 51 = .ok (.aload_n 0, 1) := by decide +kernel
theorem dX6_told_52 : decode cX6_told 52 = .ok (.getfield 25, 3) := by decide +kernel
theorem dX6_told_55 : decode cX6_told 55 = .ok (.iload_n 1, 1) := by decide +kernel
theorem dX6_told_56 : decode cX6_told 56 = .ok (.iaload, 1) := by decide +kernel
theorem dX6_told_57 : decode cX6_told 57 = .ok (.iastore, 1) := by decide +kernel
theorem dX6_told_58 : decode cX6_told 58 = .ok (.dup, 1) := by decide +kernel
theorem dX6_told_59 : decode cX6_told 59 = .ok (.bipush 6, 2) := by decide +kernel
theorem dX6_told_61 : decode cX6_told 61 = .ok (.aload_n 0, 1) := by decide +kernel
theorem dX6_told_62 : decode cX6_told 62 = .ok (.iload_n 1, 1) := by decide +kernel
theorem dX6_told_63 : decode cX6_told 63 = .ok (.invokevirtual 87, 3) := by decide +kernel
theorem dX6_told_66 : decode cX6_told 66 = .ok (.iastore, 1) := by decide +kernel
theorem dX6_told_67 : decode cX6_told 67 = .ok (.astore_n 3, 1) := by decide +kernel
theorem dX6_told_68 : decode cX6_told 68 = .ok (.aload_n 3, 1) := by decide +kernel
theorem dX6_told_69 : decode cX6_told 69 = .ok (.iload_n 2, 1) := by decide +kernel
theorem dX6_told_70 : decode cX6_told 70 = .ok (.iaload, 1) := by decide +kernel
theorem dX6_told_71 : decode cX6_told 71 = .ok (.ireturn, 1) := by decide +kernel
set_option maxRecDepth 20000 in
theorem ggX6_scout_X6_isScout : GoodIn wsX6_scout wsX6_isScout := goodIn_r _ [6, 7, 8, 9, 5, 10, 31, 32, 33, 34, 35, 36, 37, 38, 39, 40, 41, 42, 43, 44, 45, 46, 47, 48, 49, 50, 51, 52, 53] (by decide +kernel) (by decide +kernel)
set_option maxRecDepth 20000 in
theorem gX6_scout_X6_isScout : GoodIn wsX6_scout (wsV RX6 90 RX6 yX6_isScout wsX6_isScout) := goodIn_app (goodIn_of _ (by decide +kernel)) ggX6_scout_X6_isScout
set_option maxRecDepth 20000 in
theorem ggX6_scout_X6_isIn : GoodIn wsX6_scout wsX6_isIn := goodIn_r _ [10] (by decide +kernel) (by decide +kernel)
set_option maxRecDepth 20000 in
theorem gX6_scout_X6_isIn : GoodIn wsX6_scout (va_wsS RX6 60 yX6_isIn wsX6_isIn) := goodIn_app (goodIn_of _ (by decide +kernel)) ggX6_scout_X6_isIn
set_option maxRecDepth 20000 in
theorem ggX6_scout_X6_told : GoodIn wsX6_scout wsX6_told := goodIn_r _ [14, 15, 16, 17, 18, 19, 20, 21, 22, 23, 24, 5, 25, 26, 31, 32, 33, 34, 35, 36, 37, 38, 39, 40, 41, 42, 43, 44, 45, 46, 47, 48, 49, 50, 51, 52, 53] (by decide +kernel) (by decide +kernel)
set_option maxRecDepth 20000 in
theorem gX6_scout_X6_told : GoodIn wsX6_scout (wsV RX6 93 RX6 yX6_told wsX6_told) := goodIn_app (goodIn_of _ (by decide +kernel)) ggX6_scout_X6_told
set_option maxRecDepth 20000 in
theorem ggX6_scout_X6_no : GoodIn wsX6_scout wsX6_no := goodIn_r _ [30, 1, 31, 32, 33, 34, 35, 36, 37, 38, 39, 40, 41, 42, 43, 44, 45, 46, 47, 48, 49, 50, 51, 52, 53] (by decide +kernel) (by decide +kernel)
set_option maxRecDepth 20000 in
theorem gX6_scout_X6_no : GoodIn wsX6_scout (wsV RX6 79 RX6 yX6_no wsX6_no) := goodIn_app (goodIn_of _ (by decide +kernel)) ggX6_scout_X6_no
theorem dX6_scout_0 : decode cX6_scout 0 = .ok (.aload_n 0, 1) := by decide +kernel
theorem dX6_scout_1 : decode cX6_scout 1 = .ok (.iconst 0, 1) := by decide +kernel
theorem dX6_scout_2 : decode cX6_scout 2 = .ok (.putfield 53, 3) := by decide +kernel
theorem dX6_scout_5 : decode cX6_scout 5 = .ok (.aload_n 0, 1) := by decide +kernel
theorem dX6_scout_6 : decode cX6_scout 6 = .ok (.iload_n 1, 1) := by decide +kernel
theorem dX6_scout_7 : decode cX6_scout 7 = .ok (.invokevirtual 90, 3) := by decide +kernel
end
section
theorem dX6_scout_10 : decode cX6_scout 10 = .ok (.ifCond .eq 22, 3) := by decide +kernel
theorem dX6_scout_13 : decode cX6_scout 13 = .ok (.iload_n 2, 1) := by decide +kernel
theorem dX6_scout_14 : decode cX6_scout 14 = .ok (.iconst 0, 1) := by decide +kernel
theorem dX6_scout_15 : decode cX6_scout 15 = .ok (.bipush 6, 2) := by decide +kernel
theorem dX6_scout_17 : decode cX6_scout 17 = .ok (.invokestatic 60, 3) := by decide +kernel
theorem dX6_scout_20 : decode cX6_scout 20 = .ok (.ifCond .eq 12, 3) := by decide +kernel
theorem dX6_scout_23 : decode cX6_scout 23 = .ok (.aload_n 0, 1) := by decide +kernel
theorem dX6_scout_24 : decode cX6_scout 24 = .ok (.iload_n 1, 1) := by decide +kernel
theorem dX6_scout_25 : decode cX6_scout 25 = .ok (.iload_n 2, 1) := by decide +kernel
theorem dX6_scout_26 : decode cX6_scout 26 = .ok (.invokevirtual 93, 3) := by decide +kernel
theorem dX6_scout_29 : decode cX6_scout 29 = .ok (.goto 8, 3) := by decide +kernel
theorem dX6_scout_32 : decode cX6_scout 32 = .ok (.aload_n 0, 1) := by decide +kernel
theorem dX6_scout_33 : decode cX6_scout 33 = .ok (.iconst 1, 1) := by decide +kernel
theorem dX6_scout_34 : decode cX6_scout 34 = .ok (.invokevirtual 79, 3) := by decide +kernel
theorem dX6_scout_37 : decode cX6_scout 37 = .ok (.ireturn, 1) := by decide +kernel
set_option maxRecDepth 20000 in
theorem ggX6_addTent_X6_isIn : GoodIn wsX6_addTent wsX6_isIn := goodIn_r _ [7] (by decide +kernel) (by decide +kernel)
set_option maxRecDepth 20000 in
theorem gX6_addTent_X6_isIn : GoodIn wsX6_addTent (va_wsS RX6 60 yX6_isIn wsX6_isIn) := goodIn_app (goodIn_of _ (by decide +kernel)) ggX6_addTent_X6_isIn
set_option maxRecDepth 20000 in
theorem ggX6_addTent_X6_no : GoodIn wsX6_addTent wsX6_no := goodIn_r _ [11, 1, 12, 13, 14, 15, 16, 17, 18, 19, 20, 21, 22, 23, 24, 25, 26, 27, 28, 29, 30, 31, 32, 33, 34] (by decide +kernel) (by decide +kernel)
set_option maxRecDepth 20000 in
theorem gX6_addTent_X6_no : GoodIn wsX6_addTent (wsV RX6 79 RX6 yX6_no wsX6_no) := goodIn_app (goodIn_of _ (by decide +kernel)) ggX6_addTent_X6_no
theorem dX6_addTent_0 : decode cX6_addTent 0 = .ok (.aload_n 0, 1) := by decide +kernel
theorem dX6_addTent_1 : decode cX6_addTent 1 = .ok (.iconst 0, 1) := by decide +kernel
theorem dX6_addTent_2 : decode cX6_addTent 2 = .ok (.putfield 53, 3) := by decide +kernel
theorem dX6_addTent_5 : decode cX6_addTent 5 = .ok (.iload_n 1, 1) := by decide +kernel
theorem dX6_addTent_6 : decode cX6_addTent 6 = .ok (.iconst 1, 1) := by decide +kernel
theorem dX6_addTent_7 : decode cX6_addTent 7 = .ok (.bipush 8, 2) := by decide +kernel
theorem dX6_addTent_9 : decode cX6_addTent 9 = .ok (.invokestatic 60, 3) := by decide +kernel
theorem dX6_addTent_12 : decode cX6_addTent 12 = .ok (.ifCond .ne 9, 3) := by decide +kernel
theorem dX6_addTent_15 : decode cX6_addTent 15 = .ok (.aload_n 0, 1) := by decide +kernel
theorem dX6_addTent_16 : decode cX6_addTent 16 = .ok (.iconst 1, 1) := by decide +kernel
theorem dX6_addTent_17 : decode cX6_addTent 17 = .ok (.invokevirtual 79, 3) := by decide +kernel
theorem dX6_addTent_20 : decode cX6_addTent 20 = .ok (.ireturn, 1) := by decide +kernel
theorem dX6_addTent_21 : decode cX6_addTent 21 = .ok (.aload_n 0, 1) := by decide +kernel
theorem dX6_addTent_22 : decode cX6_addTent 22 = .ok (.getfield 67, 3) := by decide +kernel
theorem dX6_addTent_25 : decode cX6_addTent 25 = .ok (.bipush 10, 2) := by decide +kernel
theorem dX6_addTent_27 : decode cX6_addTent 27 = .ok (.if_icmp .ne 9, 3) := by decide +kernel
theorem dX6_addTent_30 : decode cX6_addTent 30 = .ok (.aload_n 0, 1) := by decide +kernel
theorem dX6_addTent_31 : decode cX6_addTent 31 = .ok (.iconst 2, 1) := by decide +kernel
theorem dX6_addTent_32 : decode cX6_addTent 32 = .ok (.invokevirtual 79, 3) := by decide +kernel
theorem dX6_addTent_35 : decode cX6_addTent 35 = .ok (.ireturn, 1) := by decide +kernel
theorem dX6_addTent_36 : decode cX6_addTent 36 = .ok (.aload_n 0, 1) := by decide +kernel
theorem dX6_addTent_37 : decode cX6_addTent 37 = .ok (.getfield 35, 3) := by decide +kernel
theorem dX6_addTent_40 : decode cX6_addTent 40 = .ok (.aload_n 0, 1) := by decide +kernel
theorem dX6_addTent_41 : decode cX6_addTent 41 = .ok (.getfield 67, 3) := by decide +kernel
theorem dX6_addTent_44 : decode cX6_addTent 44 = .ok (.iload_n 1, 1) := by decide +kernel
theorem dX6_addTent_45 : decode cX6_addTent 45 = .ok (.iastore, 1) := by decide +kernel
theorem dX6_addTent_46 : decode cX6_addTent 46 = .ok (.aload_n 0, 1) := by decide +kernel
theorem dX6_addTent_47 : decode cX6_addTent 47 = .ok (.dup, 1) := by decide +kernel
theorem dX6_addTent_48 : decode cX6_addTent 48 = .ok (.getfield 67, 3) := by decide +kernel
theorem dX6_addTent_51 : decode cX6_addTent 51 = .ok (.iconst 1, 1) := by decide +kernel
theorem dX6_addTent_52 : decode cX6_addTent 52 = .ok (.iadd, 1) := by decide +kernel
theorem dX6_addTent_53 : decode cX6_addTent 53 = .ok (.putfield 67, 3) := by decide +kernel
theorem dX6_addTent_56 : decode cX6_addTent 56 = .ok (.aload_n 0, 1) := by decide +kernel
theorem dX6_addTent_57 : decode cX6_addTent 57 = .ok (.getfield 67, 3) := by decide +kernel
theorem dX6_addTent_60 : decode cX6_addTent 60 = .ok (.iconst 1, 1) := by decide +kernel
theorem dX6_addTent_61 : decode cX6_addTent 61 = .ok (.isub, 1) := by decide +kernel
theorem dX6_addTent_62 : decode cX6_addTent 62 = .ok (.ireturn, 1) := by decide +kernel
theorem dX6_sleepers_0 : decode cX6_sleepers 0 = .ok (.iconst 0, 1) := by decide +kernel
theorem dX6_sleepers_1 : decode cX6_sleepers 1 = .ok (.istore_n 3, 1) := by decide +kernel
theorem dX6_sleepers_2 : decode cX6_sleepers 2 = .ok (.iconst 0, 1) := by decide +kernel
theorem dX6_sleepers_3 : decode cX6_sleepers 3 = .ok (.istore 4, 2) := by decide +kernel
theorem dX6_sleepers_5 : decode cX6_sleepers 5 = .ok (.iload 4, 2) := by decide +kernel
theorem dX6_sleepers_7 : decode cX6_sleepers 7 = .ok (.aload_n 0, 1) := by decide +kernel
theorem dX6_sleepers_8 : decode cX6_sleepers 8 = .ok (.getfield 64, 3) := by decide +kernel
theorem dX6_sleepers_11 : decode cX6_sleepers 11 = .ok (.if_icmp .ge 44, 3) := by decide +kernel
theorem dX6_sleepers_14 : decode cX6_sleepers 14 = .ok (.iload_n 3, 1) := by decide +kernel
theorem dX6_sleepers_15 : decode cX6_sleepers 15 = .ok (.aload_n 0, 1) := by decide +kernel
theorem dX6_sleepers_16 : decode cX6_sleepers 16 = .ok (.getfield 22, 3) := by decide +kernel
theorem dX6_sleepers_19 : decode cX6_sleepers 19 = .ok (.iload 4, 2) := by decide +kernel
theorem dX6_sleepers_21 : decode cX6_sleepers 21 = .ok (.iaload, 1) := by decide +kernel
theorem dX6_sleepers_22 : decode cX6_sleepers 22 = .ok (.iload_n 1, 1) := by decide +kernel
theorem dX6_sleepers_23 : decode cX6_sleepers 23 = .ok (.if_icmp .ne 23, 3) := by decide +kernel
theorem dX6_sleepers_26 : decode cX6_sleepers 26 = .ok (.iload_n 2, 1) := by decide +kernel
theorem dX6_sleepers_27 : decode cX6_sleepers 27 = .ok (.iconst (-1), 1) := by decide +kernel
theorem dX6_sleepers_28 : decode cX6_sleepers 28 = .ok (.if_icmp .eq 14, 3) := by decide +kernel
theorem dX6_sleepers_31 : decode cX6_sleepers 31 = .ok (.aload_n 0, 1) := by decide +kernel
theorem dX6_sleepers_32 : decode cX6_sleepers 32 = .ok (.getfield 9, 3) := by decide +kernel
theorem dX6_sleepers_35 : decode cX6_sleepers 35 = .ok (.iload 4, 2) := by decide +kernel
theorem dX6_sleepers_37 : decode cX6_sleepers 37 = .ok (.iaload, 1) := by decide +kernel
theorem dX6_sleepers_38 : decode cX6_sleepers 38 = .ok (.iload_n 2, 1) := by decide +kernel
theorem dX6_sleepers_39 : decode cX6_sleepers 39 = .ok (.if_icmp .ne 7, 3) := by decide +kernel
theorem dX6_sleepers_42 : decode cX6_sleepers 42 = .ok (.iconst 1, 1) := by decide +kernel
theorem dX6_sleepers_43 : decode cX6_sleepers 43 = .ok (.goto 4, 3) := by decide +kernel
theorem dX6_sleepers_46 : decode cX6_sleepers 46 = .ok (.iconst 0, 1) := by decide +kernel
theorem dX6_sleepers_47 : decode cX6_sleepers 47 = .ok (.iadd, 1) := by decide +kernel
theorem dX6_sleepers_48 : decode cX6_sleepers 48 = .ok (.istore_n 3, 1) := by decide +kernel
theorem dX6_sleepers_49 : decode cX6_sleepers 49 = .ok (.iinc 4 1, 3) := by decide +kernel
theorem dX6_sleepers_52 : decode cX6_sleepers 52 = .ok (.goto (-47), 3) := by decide +kernel
theorem dX6_sleepers_55 : decode cX6_sleepers 55 = .ok (.iload_n 3, 1) := by decide +kernel
theorem dX6_sleepers_56 : decode cX6_sleepers 56 = .ok (.ireturn, 1) := by decide +kernel
set_option maxRecDepth 20000 in
theorem ggX6_canSleep_X6_sleepers : GoodIn wsX6_canSleep wsX6_sleepers := goodIn_r _ [13, 2, 3, 14, 15, 16, 17, 18, 19, 20, 21, 22, 23, 24, 25, 26, 27, 28, 29, 30, 31, 32, 33, 34, 35, 36, 37] (by decide +kernel) (by decide +kernel)
set_option maxRecDepth 20000 in
theorem gX6_canSleep_X6_sleepers : GoodIn wsX6_canSleep (wsV RX6 97 RX6 yX6_sleepers wsX6_sleepers) := goodIn_app (goodIn_of _ (by decide +kernel)) ggX6_canSleep_X6_sleepers
theorem dX6_canSleep_0 : decode cX6_canSleep 0 = .ok (.aload_n 0, 1) := by decide +kernel
theorem dX6_canSleep_1 : decode cX6_canSleep 1 = .ok (.iload_n 2, 1) := by decide +kernel
theorem dX6_canSleep_2 : decode cX6_canSleep 2 = .ok (.iconst (-1), 1) := by decide +kernel
theorem dX6_canSleep_3 : decode cX6_canSleep 3 = .ok (.invokevirtual 97, 3) := by decide +kernel
theorem dX6_canSleep_6 : decode cX6_canSleep 6 = .ok (.aload_n 0, 1) := by decide +kernel
theorem dX6_canSleep_7 : decode cX6_canSleep 7 = .ok (.getfield 35, 3) := by decide +kernel
theorem dX6_canSleep_10 : decode cX6_canSleep 10 = .ok (.iload_n 2, 1) := by decide +kernel
theorem dX6_canSleep_11 : decode cX6_canSleep 11 = .ok (.iaload, 1) := by decide +kernel
theorem dX6_canSleep_12 : decode cX6_canSleep 12 = .ok (.if_icmp .ge 7, 3) := by decide +kernel
theorem dX6_canSleep_15 : decode cX6_canSleep 15 = .ok (.iconst 1, 1) := by decide +kernel
theorem dX6_canSleep_16 : decode cX6_canSleep 16 = .ok (.goto 4, 3) := by decide +kernel
theorem dX6_canSleep_19 : decode cX6_canSleep 19 = .ok (.iconst 0, 1) := by decide +kernel
theorem dX6_canSleep_20 : decode cX6_canSleep 20 = .ok (.istore_n 3, 1) := by decide +kernel
theorem dX6_canSleep_21 : decode cX6_canSleep 21 = .ok (.iconst 0, 1) := by decide +kernel
theorem dX6_canSleep_22 : decode cX6_canSleep 22 = .ok (.istore 4, 2) := by decide +kernel
theorem dX6_canSleep_24 : decode cX6_canSleep 24 = .ok (.iload 4, 2) := by decide +kernel
theorem dX6_canSleep_26 : decode cX6_canSleep 26 = .ok (.aload_n 0, 1) := by decide +kernel
theorem dX6_canSleep_27 : decode cX6_canSleep 27 = .ok (.getfield 64, 3) := by decide +kernel
theorem dX6_canSleep_30 : decode cX6_canSleep 30 = .ok (.if_icmp .ge 54, 3) := by decide +kernel
theorem dX6_canSleep_33 : decode cX6_canSleep 33 = .ok (.aload_n 0, 1) := by decide +kernel
theorem dX6_canSleep_34 : decode cX6_canSleep 34 = .ok (.getfield 22, 3) := by decide +kernel
theorem dX6_canSleep_37 : decode cX6_canSleep 37 = .ok (.iload 4, 2) := by decide +kernel
theorem dX6_canSleep_39 : decode cX6_canSleep 39 = .ok (.iaload, 1) := by decide +kernel
theorem dX6_canSleep_40 : decode cX6_canSleep 40 = .ok (.iload_n 2, 1) := by decide +kernel
theorem dX6_canSleep_41 : decode cX6_canSleep 41 = .ok (.if_icmp .eq 6, 3) := by decide +kernel
theorem dX6_canSleep_44 : decode cX6_canSleep 44 = .ok (.goto 34, 3) := by decide +kernel
theorem dX6_canSleep_47 : decode cX6_canSleep 47 = .ok (.iload_n 3, 1) := by decide +kernel
theorem dX6_canSleep_48 : decode cX6_canSleep 48 = .ok (.ifCond .eq 28, 3) := by decide +kernel
theorem dX6_canSleep_51 : decode cX6_canSleep 51 = .ok (.aload_n 0, 1) := by decide +kernel
theorem dX6_canSleep_52 : decode cX6_canSleep 52 = .ok (.getfield 13, 3) := by decide +kernel
theorem dX6_canSleep_55 : decode cX6_canSleep 55 = .ok (.iload 4, 2) := by decide +kernel
theorem dX6_canSleep_57 : decode cX6_canSleep 57 = .ok (.iaload, 1) := by decide +kernel
theorem dX6_canSleep_58 : decode cX6_canSleep 58 = .ok (.aload_n 0, 1) := by decide +kernel
theorem dX6_canSleep_59 : decode cX6_canSleep 59 = .ok (.getfield 13, 3) := by decide +kernel
theorem dX6_canSleep_62 : decode cX6_canSleep 62 = .ok (.iload_n 1, 1) := by decide +kernel
theorem dX6_canSleep_63 : decode cX6_canSleep 63 = .ok (.iaload, 1) := by decide +kernel
theorem dX6_canSleep_64 : decode cX6_canSleep 64 = .ok (.isub, 1) := by decide +kernel
theorem dX6_canSleep_65 : decode cX6_canSleep 65 = .ok (.invokestatic 100, 3) := by decide +kernel
theorem dX6_canSleep_68 : decode cX6_canSleep 68 = .ok (.iconst 3, 1) := by decide +kernel
theorem dX6_canSleep_69 : decode cX6_canSleep 69 = .ok (.if_icmp .gt 7, 3) := by decide +kernel
theorem dX6_canSleep_72 : decode cX6_canSleep 72 = .ok (.iconst 1, 1) := by decide +kernel
theorem dX6_canSleep_73 : decode cX6_canSleep 73 = .ok (.goto 4, 3) := by decide +kernel
theorem dX6_canSleep_76 : decode cX6_canSleep 76 = .ok (.iconst 0, 1) := by decide +kernel
theorem dX6_canSleep_77 : decode cX6_canSleep 77 = .ok (.istore_n 3, 1) := by decide +kernel
theorem dX6_canSleep_78 : decode cX6_canSleep 78 = .ok (.iinc 4 1, 3) := by decide +kernel
theorem dX6_canSleep_81 : decode cX6_canSleep 81 = .ok (.goto (-57), 3) := by decide +kernel
theorem dX6_canSleep_84 : decode cX6_canSleep 84 = .ok (.iload_n 3, 1) := by decide +kernel
theorem dX6_canSleep_85 : decode cX6_canSleep 85 = .ok (.ireturn, 1) := by decide +kernel
set_option maxRecDepth 20000 in
theorem ggX6_sleep_X6_isScout : GoodIn wsX6_sleep wsX6_isScout := goodIn_r _ [7, 8, 9, 10, 6, 11, 36, 37, 38, 39, 40, 41, 42, 43, 44, 45, 46, 47, 48, 49, 50, 51, 52, 53, 54, 55, 56, 57, 58] (by decide +kernel) (by decide +kernel)
set_option maxRecDepth 20000 in
theorem gX6_sleep_X6_isScout : GoodIn wsX6_sleep (wsV RX6 90 RX6 yX6_isScout wsX6_isScout) := goodIn_app (goodIn_of _ (by decide +kernel)) ggX6_sleep_X6_isScout
set_option maxRecDepth 20000 in
theorem ggX6_sleep_X6_isTent : GoodIn wsX6_sleep wsX6_isTent := goodIn_r _ [15, 16, 9, 10, 6, 11, 36, 37, 38, 39, 40, 41, 42, 43, 44, 45, 46, 47, 48, 49, 50, 51, 52, 53, 54, 55, 56, 57, 58] (by decide +kernel) (by decide +kernel)
set_option maxRecDepth 20000 in
theorem gX6_sleep_X6_isTent : GoodIn wsX6_sleep (wsV RX6 105 RX6 yX6_isTent wsX6_isTent) := goodIn_app (goodIn_of _ (by decide +kernel)) ggX6_sleep_X6_isTent
set_option maxRecDepth 20000 in
theorem ggX6_sleep_X6_no : GoodIn wsX6_sleep wsX6_no := goodIn_r _ [20, 1, 36, 37, 38, 39, 40, 41, 42, 43, 44, 45, 46, 47, 48, 49, 50, 51, 52, 53, 54, 55, 56, 57, 58] (by decide +kernel) (by decide +kernel)
set_option maxRecDepth 20000 in
theorem gX6_sleep_X6_no : GoodIn wsX6_sleep (wsV RX6 79 RX6 yX6_no wsX6_no) := goodIn_app (goodIn_of _ (by decide +kernel)) ggX6_sleep_X6_no
set_option maxRecDepth 20000 in
theorem ggX6_sleep_X6_canSleep : GoodIn wsX6_sleep wsX6_canSleep := goodIn_r _ [24, 25, 8, 2, 26, 27, 28, 29, 30, 31, 32, 33, 6, 34, 35, 36, 37, 38, 39, 40, 41, 42, 43, 44, 45, 46, 47, 48, 49, 50, 51, 52, 53, 54, 55, 56, 57, 58] (by decide +kernel) (by decide +kernel)
set_option maxRecDepth 20000 in
theorem gX6_sleep_X6_canSleep : GoodIn wsX6_sleep (wsV RX6 108 RX6 yX6_canSleep wsX6_canSleep) := goodIn_app (goodIn_of _ (by decide +kernel)) ggX6_sleep_X6_canSleep
theorem dX6_sleep_0 : decode cX6_sleep 0 = .ok (.aload_n 0, 1) := by decide +kernel
theorem dX6_sleep_1 : decode cX6_sleep 1 = .ok (.iconst 0, 1) := by decide +kernel
theorem dX6_sleep_2 : decode cX6_sleep 2 = .ok (.putfield 53, 3) := by decide +kernel
theorem dX6_sleep_5 : decode cX6_sleep 5 = .ok (.aload_n 0, 1) := by decide +kernel
theorem dX6_sleep_6 : decode cX6_sleep 6 = .ok (.iload_n 1, 1) := by decide +kernel
theorem dX6_sleep_7 : decode cX6_sleep 7 = .ok (.invokevirtual 90, 3) := by decide +kernel
theorem dX6_sleep_10 : decode cX6_sleep 10 = .ok (.ifCond .eq 16, 3) := by decide +kernel
theorem dX6_sleep_13 : decode cX6_sleep 13 = .ok (.iload_n 2, 1) := by decide +kernel
theorem dX6_sleep_14 : decode cX6_sleep 14 = .ok (.iconst (-1), 1) := by decide +kernel
theorem dX6_sleep_15 : decode cX6_sleep 15 = .ok (.if_icmp .eq 17, 3) := by decide +kernel
theorem dX6_sleep_18 : decode cX6_sleep 18 = .ok (.aload_n 0, 1) := by decide +kernel
theorem dX6_sleep_19 : decode cX6_sleep 19 = .ok (.iload_n 2, 1) := by decide +kernel
theorem dX6_sleep_20 : decode cX6_sleep 20 = .ok (.invokevirtual 105, 3) := by decide +kernel
theorem dX6_sleep_23 : decode cX6_sleep 23 = .ok (.ifCond .ne 9, 3) := by decide +kernel
theorem dX6_sleep_26 : decode cX6_sleep 26 = .ok (.aload_n 0, 1) := by decide +kernel
theorem dX6_sleep_27 : decode cX6_sleep 27 = .ok (.iconst 1, 1) := by decide +kernel
theorem dX6_sleep_28 : decode cX6_sleep 28 = .ok (.invokevirtual 79, 3) := by decide +kernel
theorem dX6_sleep_31 : decode cX6_sleep 31 = .ok (.ireturn, 1) := by decide +kernel
theorem dX6_sleep_32 : decode cX6_sleep 32 = .ok (.aload_n 0, 1) := by decide +kernel
theorem dX6_sleep_33 : decode cX6_sleep 33 = .ok (.getfield 22, 3) := by decide +kernel
theorem dX6_sleep_36 : decode cX6_sleep 36 = .ok (.iload_n 1, 1) := by decide +kernel
theorem dX6_sleep_37 : decode cX6_sleep 37 = .ok (.iaload, 1) := by decide +kernel
theorem dX6_sleep_38 : decode cX6_sleep 38 = .ok (.istore_n 3, 1) := by decide +kernel
theorem dX6_sleep_39 : decode cX6_sleep 39 = .ok (.iload_n 3, 1) := by decide +kernel
theorem dX6_sleep_40 : decode cX6_sleep 40 = .ok (.iload_n 2, 1) := by decide +kernel
theorem dX6_sleep_41 : decode cX6_sleep 41 = .ok (.if_icmp .eq 17, 3) := by decide +kernel
theorem dX6_sleep_44 : decode cX6_sleep 44 = .ok (.iload_n 2, 1) := by decide +kernel
theorem dX6_sleep_45 : decode cX6_sleep 45 = .ok (.iconst (-1), 1) := by decide +kernel
theorem dX6_sleep_46 : decode cX6_sleep 46 = .ok (.if_icmp .eq 18, 3) := by decide +kernel
theorem dX6_sleep_49 : decode cX6_sleep 49 = .ok (.aload_n 0, 1) := by decide +kernel
theorem dX6_sleep_50 : decode cX6_sleep 50 = .ok (.iload_n 1, 1) := by decide +kernel
theorem dX6_sleep_51 : decode cX6_sleep 51 = .ok (.iload_n 2, 1) := by decide +kernel
theorem dX6_sleep_52 : decode cX6_sleep 52 = .ok (.invokevirtual 108, 3) := by decide +kernel
theorem dX6_sleep_55 : decode cX6_sleep 55 = .ok (.ifCond .ne 9, 3) := by decide +kernel
theorem dX6_sleep_58 : decode cX6_sleep 58 = .ok (.aload_n 0, 1) := by decide +kernel
theorem dX6_sleep_59 : decode cX6_sleep 59 = .ok (.iconst 2, 1) := by decide +kernel
theorem dX6_sleep_60 : decode cX6_sleep 60 = .ok (.invokevirtual 79, 3) := by decide +kernel
theorem dX6_sleep_63 : decode cX6_sleep 63 = .ok (.ireturn, 1) := by decide +kernel
theorem dX6_sleep_64 : decode cX6_sleep 64 = .ok (.aload_n 0, 1) := by decide +kernel
theorem dX6_sleep_65 : decode cX6_sleep 65 = .ok (.getfield 22, 3) := by decide +kernel
theorem dX6_sleep_68 : decode cX6_sleep 68 = .ok (.iload_n 1, 1) := by decide +kernel
theorem dX6_sleep_69 : decode cX6_sleep 69 = .ok (.iload_n 2, 1) := by decide +kernel
theorem dX6_sleep_70 : decode cX6_sleep 70 = .ok (.iastore, 1) := by decide +kernel
theorem dX6_sleep_71 : decode cX6_sleep 71 = .ok (.iload_n 3, 1) := by decide +kernel
theorem dX6_sleep_72 : decode cX6_sleep 72 = .ok (.ireturn, 1) := by decide +kernel
theorem dX6_in_0 : decode cX6_in 0 = .ok (.lconst 0, 1) := by decide +kernel
theorem dX6_in_1 : decode cX6_in 1 = .ok (.lstore_n 2, 1) := by decide +kernel
theorem dX6_in_2 : decode cX6_in 2 = .ok (.iconst 0, 1) := by decide +kernel
theorem dX6_in_3 : decode cX6_in 3 = .ok (.istore 4, 2) := by decide +kernel
theorem dX6_in_5 : decode cX6_in 5 = .ok (.iload 4, 2) := by decide +kernel
theorem dX6_in_7 : decode cX6_in 7 = .ok (.aload_n 0, 1) := by decide +kernel
theorem dX6_in_8 : decode cX6_in 8 = .ok (.getfield 64, 3) := by decide +kernel
theorem dX6_in_11 : decode cX6_in 11 = .ok (.if_icmp .ge 31, 3) := by decide +kernel
theorem dX6_in_14 : decode cX6_in 14 = .ok (.lload_n 2, 1) := by decide +kernel
theorem dX6_in_15 : decode cX6_in 15 = .ok (.aload_n 0, 1) := by decide +kernel
theorem dX6_in_16 : decode cX6_in 16 = .ok (.getfield 22, 3) := by decide +kernel
theorem dX6_in_19 : decode cX6_in 19 = .ok (.iload 4, 2) := by decide +kernel
theorem dX6_in_21 : decode cX6_in 21 = .ok (.iaload, 1) := by decide +kernel
theorem dX6_in_22 : decode cX6_in 22 = .ok (.iload_n 1, 1) := by decide +kernel
theorem dX6_in_23 : decode cX6_in 23 = .ok (.if_icmp .ne 10, 3) := by decide +kernel
theorem dX6_in_26 : decode cX6_in 26 = .ok (.lconst 1, 1) := by decide +kernel
theorem dX6_in_27 : decode cX6_in 27 = .ok (.iload 4, 2) := by decide +kernel
theorem dX6_in_29 : decode cX6_in 29 = .ok (.lshl, 1) := by decide +kernel
theorem dX6_in_30 : decode cX6_in 30 = .ok (.goto 4, 3) := by decide +kernel
theorem dX6_in_33 : decode cX6_in 33 = .ok (.lconst 0, 1) := by decide +kernel
theorem dX6_in_34 : decode cX6_in 34 = .ok (.ladd, 1) := by decide +kernel
theorem dX6_in_35 : decode cX6_in 35 = .ok (.lstore_n 2, 1) := by decide +kernel
theorem dX6_in_36 : decode cX6_in 36 = .ok (.iinc 4 1, 3) := by decide +kernel
theorem dX6_in_39 : decode cX6_in 39 = .ok (.goto (-34), 3) := by decide +kernel
theorem dX6_in_42 : decode cX6_in 42 = .ok (.lload_n 2, 1) := by decide +kernel
theorem dX6_in_43 : decode cX6_in 43 = .ok (.lreturn, 1) := by decide +kernel
set_option maxRecDepth 20000 in
theorem ggX6_inTent_X6_isTent : GoodIn wsX6_inTent wsX6_isTent := goodIn_r _ [6, 7, 8, 9, 5, 10, 17, 18, 19, 20, 21, 22, 23, 24, 25, 26, 27, 28, 29, 30, 31, 32, 33, 34, 35, 36, 37, 38, 39] (by decide +kernel) (by decide +kernel)
set_option maxRecDepth 20000 in
theorem gX6_inTent_X6_isTent : GoodIn wsX6_inTent (wsV RX6 105 RX6 yX6_isTent wsX6_isTent) := goodIn_app (goodIn_of _ (by decide +kernel)) ggX6_inTent_X6_isTent
set_option maxRecDepth 20000 in
theorem ggX6_inTent_X6_in : GoodIn wsX6_inTent wsX6_in := goodIn_r _ [14, 15, 16, 17, 18, 19, 20, 21, 22, 23, 24, 25, 26, 27, 28, 29, 30, 31, 32, 33, 34, 35, 36, 37, 38, 39] (by decide +kernel) (by decide +kernel)
set_option maxRecDepth 20000 in
theorem gX6_inTent_X6_in : GoodIn wsX6_inTent (wsV RX6 112 RX6 yX6_in wsX6_in) := goodIn_app (goodIn_of _ (by decide +kernel)) ggX6_inTent_X6_in
theorem dX6_inTent_0 : decode cX6_inTent 0 = .ok (.aload_n 0, 1) := by decide +kernel
theorem dX6_inTent_1 : decode cX6_inTent 1 = .ok (.aload_n 0, 1) := by decide +kernel
theorem dX6_inTent_2 : decode cX6_inTent 2 = .ok (.iload_n 1, 1) := by decide +kernel
theorem dX6_inTent_3 : decode cX6_inTent 3 = .ok (.invokevirtual 105, 3) := by decide +kernel
theorem dX6_inTent_6 : decode cX6_inTent 6 = .ok (.ifCond .eq 7, 3) := by decide +kernel
theorem dX6_inTent_9 : decode cX6_inTent 9 = .ok (.iconst 0, 1) := by decide +kernel
theorem dX6_inTent_10 : decode cX6_inTent 10 = .ok (.goto 4, 3) := by decide +kernel
theorem dX6_inTent_13 : decode cX6_inTent 13 = .ok (.iconst 1, 1) := by decide +kernel
theorem dX6_inTent_14 : decode cX6_inTent 14 = .ok (.putfield 53, 3) := by decide +kernel
theorem dX6_inTent_17 : decode cX6_inTent 17 = .ok (.aload_n 0, 1) := by decide +kernel
theorem dX6_inTent_18 : decode cX6_inTent 18 = .ok (.getfield 53, 3) := by decide +kernel
theorem dX6_inTent_21 : decode cX6_inTent 21 = .ok (.ifCond .ne 11, 3) := by decide +kernel
theorem dX6_inTent_24 : decode cX6_inTent 24 = .ok (.aload_n 0, 1) := by decide +kernel
theorem dX6_inTent_25 : decode cX6_inTent 25 = .ok (.iload_n 1, 1) := by decide +kernel
theorem dX6_inTent_26 : decode cX6_inTent 26 = .ok (.invokevirtual 112, 3) := by decide +kernel
theorem dX6_inTent_29 : decode cX6_inTent 29 = .ok (.goto 4, 3) := by decide +kernel
theorem dX6_inTent_32 : decode cX6_inTent 32 = .ok (.lconst 0, 1) := by decide +kernel
theorem dX6_inTent_33 : decode cX6_inTent 33 = .ok (.lreturn, 1) := by decide +kernel
set_option maxRecDepth 20000 in
theorem ggX6_bestTent_X6_canSleep : GoodIn wsX6_bestTent wsX6_canSleep := goodIn_r _ [7, 8, 9, 10, 11, 12, 13, 14, 15, 16, 17, 18, 6, 19, 2, 20, 21, 22, 23, 24, 25, 26, 27, 28, 29, 30, 31, 32, 33, 34, 35, 36, 37, 38, 39, 40, 41, 42] (by decide +kernel) (by decide +kernel)
set_option maxRecDepth 20000 in
theorem gX6_bestTent_X6_canSleep : GoodIn wsX6_bestTent (wsV RX6 108 RX6 yX6_canSleep wsX6_canSleep) := goodIn_app (goodIn_of _ (by decide +kernel)) ggX6_bestTent_X6_canSleep
set_option maxRecDepth 20000 in
theorem ggX6_bestTent_X6_sleepers : GoodIn wsX6_bestTent wsX6_sleepers := goodIn_r _ [19, 9, 10, 2, 20, 21, 22, 23, 24, 25, 26, 27, 28, 29, 30, 31, 32, 33, 34, 35, 36, 37, 38, 39, 40, 41, 42] (by decide +kernel) (by decide +kernel)
set_option maxRecDepth 20000 in
theorem gX6_bestTent_X6_sleepers : GoodIn wsX6_bestTent (wsV RX6 97 RX6 yX6_sleepers wsX6_sleepers) := goodIn_app (goodIn_of _ (by decide +kernel)) ggX6_bestTent_X6_sleepers
theorem dX6_bestTent_0 : decode cX6_bestTent 0 = .ok (.iconst (-1), 1) := by decide +kernel
theorem dX6_bestTent_1 : decode cX6_bestTent 1 = .ok (.istore_n 2, 1) := by decide +kernel
theorem dX6_bestTent_2 : decode cX6_bestTent 2 = .ok (.iconst 0, 1) := by decide +kernel
theorem dX6_bestTent_3 : decode cX6_bestTent 3 = .ok (.istore_n 3, 1) := by decide +kernel
theorem dX6_bestTent_4 : decode cX6_bestTent 4 = .ok (.iload_n 3, 1) := by decide +kernel
theorem dX6_bestTent_5 : decode cX6_bestTent 5 = .ok (.aload_n 0, 1) := by decide +kernel
theorem dX6_bestTent_6 : decode cX6_bestTent 6 = .ok (.getfield 67, 3) := by decide +kernel
theorem dX6_bestTent_9 : decode cX6_bestTent 9 = .ok (.if_icmp .ge 82, 3) := by decide +kernel
theorem dX6_bestTent_12 : decode cX6_bestTent 12 = .ok (.aload_n 0, 1) := by decide +kernel
theorem dX6_bestTent_13 : decode cX6_bestTent 13 = .ok (.iload_n 1, 1) := by decide +kernel
theorem dX6_bestTent_14 : decode cX6_bestTent 14 = .ok (.iload_n 3, 1) := by decide +kernel
theorem dX6_bestTent_15 : decode cX6_bestTent 15 = .ok (.invokevirtual 108, 3) := by decide +kernel
theorem dX6_bestTent_18 : decode cX6_bestTent 18 = .ok (.ifCond .ne 6, 3) := by decide +kernel
theorem dX6_bestTent_21 : decode cX6_bestTent 21 = .ok (.goto 64, 3) := by decide +kernel
theorem dX6_bestTent_24 : decode cX6_bestTent 24 = .ok (.iload_n 2, 1) := by decide +kernel
theorem dX6_bestTent_25 : decode cX6_bestTent 25 = .ok (.iconst (-1), 1) := by decide +kernel
theorem dX6_bestTent_26 : decode cX6_bestTent 26 = .ok (.if_icmp .ne 7, 3) := by decide +kernel
theorem dX6_bestTent_29 : decode cX6_bestTent 29 = .ok (.iconst 1, 1) := by decide +kernel
theorem dX6_bestTent_30 : decode cX6_bestTent 30 = .ok (.goto 26, 3) := by decide +kernel
theorem dX6_bestTent_33 : decode cX6_bestTent 33 = .ok (.aload_n 0, 1) := by decide +kernel
theorem dX6_bestTent_34 : decode cX6_bestTent 34 = .ok (.iload_n 3, 1) := by decide +kernel
theorem dX6_bestTent_35 : decode cX6_bestTent 35 = .ok (.aload_n 0, 1) := by decide +kernel
theorem dX6_bestTent_36 : decode cX6_bestTent 36 = .ok (.getfield 9, 3) := by decide +kernel
theorem dX6_bestTent_39 : decode cX6_bestTent 39 = .ok (.iload_n 1, 1) := by decide +kernel
theorem dX6_bestTent_40 : decode cX6_bestTent 40 = .ok (.iaload, 1) := by decide +kernel
theorem dX6_bestTent_41 : decode cX6_bestTent 41 = .ok (.invokevirtual 97, 3) := by decide +kernel
theorem dX6_bestTent_44 : decode cX6_bestTent 44 = .ok (.aload_n 0, 1) := by decide +kernel
theorem dX6_bestTent_45 : decode cX6_bestTent 45 = .ok (.iload_n 2, 1) := by decide +kernel
theorem dX6_bestTent_46 : decode cX6_bestTent 46 = .ok (.aload_n 0, 1) := by decide +kernel
theorem dX6_bestTent_47 : decode cX6_bestTent 47 = .ok (.getfield 9, 3) := by decide +kernel
theorem dX6_bestTent_50 : decode cX6_bestTent 50 = .ok (.iload_n 1, 1) := by decide +kernel
theorem dX6_bestTent_51 : decode cX6_bestTent 51 = .ok (.iaload, 1) := by decide +kernel
theorem dX6_bestTent_52 : decode cX6_bestTent 52 = .ok (.invokevirtual 97, 3) := by decide +kernel
theorem dX6_bestTent_55 : decode cX6_bestTent 55 = .ok (.isub, 1) := by decide +kernel
theorem dX6_bestTent_56 : decode cX6_bestTent 56 = .ok (.istore 4, 2) := by decide +kernel
theorem dX6_bestTent_58 : decode cX6_bestTent 58 = .ok (.iload 4, 2) := by decide +kernel
theorem dX6_bestTent_60 : decode cX6_bestTent 60 = .ok (.ifCond .gt 23, 3) := by decide +kernel
theorem dX6_bestTent_63 : decode cX6_bestTent 63 = .ok (.iload 4, 2) := by decide +kernel
theorem dX6_bestTent_65 : decode cX6_bestTent 65 = .ok (.ifCond .ne 20, 3) := by decide +kernel
theorem dX6_bestTent_68 : decode cX6_bestTent 68 = .ok (.aload_n 0, 1) := by decide +kernel
theorem dX6_bestTent_69 : decode cX6_bestTent 69 = .ok (.iload_n 3, 1) := by decide +kernel
theorem dX6_bestTent_70 : decode cX6_bestTent 70 = .ok (.iconst (-1), 1) := by decide +kernel
theorem dX6_bestTent_71 : decode cX6_bestTent 71 = .ok (.invokevirtual 97, 3) := by decide +kernel
theorem dX6_bestTent_74 : decode cX6_bestTent 74 = .ok (.aload_n 0, 1) := by decide +kernel
theorem dX6_bestTent_75 : decode cX6_bestTent 75 = .ok (.iload_n 2, 1) := by decide +kernel
theorem dX6_bestTent_76 : decode cX6_bestTent 76 = .ok (.iconst (-1), 1) := by decide +kernel
theorem dX6_bestTent_77 : decode cX6_bestTent 77 = .ok (.invokevirtual 97, 3) := by decide +kernel
theorem dX6_bestTent_80 : decode cX6_bestTent 80 = .ok (.if_icmp .le 5, 3) := by decide +kernel
theorem dX6_bestTent_83 : decode cX6_bestTent 83 = .ok (.iload_n 3, 1) := by decide +kernel
theorem dX6_bestTent_84 : decode cX6_bestTent 84 = .ok (.istore_n 2, 1) := by decide +kernel
theorem dX6_bestTent_85 : decode cX6_bestTent 85 = .ok (.iinc 3 1, 3) := by decide +kernel
theorem dX6_bestTent_88 : decode cX6_bestTent 88 = .ok (.goto (-84), 3) := by decide +kernel
theorem dX6_bestTent_91 : decode cX6_bestTent 91 = .ok (.iload_n 2, 1) := by decide +kernel
theorem dX6_bestTent_92 : decode cX6_bestTent 92 = .ok (.ireturn, 1) := by decide +kernel
set_option maxRecDepth 20000 in
theorem ggX6_findTents_X6_bestTent : GoodIn wsX6_findTents wsX6_bestTent := goodIn_r _ [9, 10, 11, 12, 13, 14, 8, 15, 16, 2, 4, 3, 17, 18, 19, 20, 21, 22, 23, 24, 25, 26, 27, 28, 29, 30, 31, 32, 33, 34, 35, 36, 37, 38, 39, 40, 41, 42, 43, 44, 45, 46, 47] (by decide +kernel) (by decide +kernel)
set_option maxRecDepth 20000 in
theorem gX6_findTents_X6_bestTent : GoodIn wsX6_findTents (wsV RX6 116 RX6 yX6_bestTent wsX6_bestTent) := goodIn_app (goodIn_of _ (by decide +kernel)) ggX6_findTents_X6_bestTent
set_option maxRecDepth 20000 in
theorem ggX6_findTents_X6_sleepers : GoodIn wsX6_findTents wsX6_sleepers := goodIn_r _ [24, 2, 4, 11, 25, 26, 27, 28, 29, 30, 31, 32, 33, 34, 35, 36, 37, 38, 39, 40, 41, 42, 43, 44, 45, 46, 47] (by decide +kernel) (by decide +kernel)
set_option maxRecDepth 20000 in
theorem gX6_findTents_X6_sleepers : GoodIn wsX6_findTents (wsV RX6 97 RX6 yX6_sleepers wsX6_sleepers) := goodIn_app (goodIn_of _ (by decide +kernel)) ggX6_findTents_X6_sleepers
theorem dX6_findTents_0 : decode cX6_findTents 0 = .ok (.aload_n 0, 1) := by decide +kernel
theorem dX6_findTents_1 : decode cX6_findTents 1 = .ok (.iconst 0, 1) := by decide +kernel
theorem dX6_findTents_2 : decode cX6_findTents 2 = .ok (.putfield 53, 3) := by decide +kernel
theorem dX6_findTents_5 : decode cX6_findTents 5 = .ok (.bipush 17, 2) := by decide +kernel
theorem dX6_findTents_7 : decode cX6_findTents 7 = .ok (.istore_n 1, 1) := by decide +kernel
theorem dX6_findTents_8 : decode cX6_findTents 8 = .ok (.iload_n 1, 1) := by decide +kernel
theorem dX6_findTents_9 : decode cX6_findTents 9 = .ok (.bipush 6, 2) := by decide +kernel
theorem dX6_findTents_11 : decode cX6_findTents 11 = .ok (.if_icmp .lt 56, 3) := by decide +kernel
theorem dX6_findTents_14 : decode cX6_findTents 14 = .ok (.iconst 0, 1) := by decide +kernel
theorem dX6_findTents_15 : decode cX6_findTents 15 = .ok (.istore_n 2, 1) := by decide +kernel
theorem dX6_findTents_16 : decode cX6_findTents 16 = .ok (.iload_n 2, 1) := by decide +kernel
theorem dX6_findTents_17 : decode cX6_findTents 17 = .ok (.aload_n 0, 1) := by decide +kernel
theorem dX6_findTents_18 : decode cX6_findTents 18 = .ok (.getfield 64, 3) := by decide +kernel
theorem dX6_findTents_21 : decode cX6_findTents 21 = .ok (.if_icmp .ge 40, 3) := by decide +kernel
theorem dX6_findTents_24 : decode cX6_findTents 24 = .ok (.aload_n 0, 1) := by decide +kernel
theorem dX6_findTents_25 : decode cX6_findTents 25 = .ok (.getfield 13, 3) := by decide +kernel
theorem dX6_findTents_28 : decode cX6_findTents 28 = .ok (.iload_n 2, 1) := by decide +kernel
theorem dX6_findTents_29 : decode cX6_findTents 29 = .ok (.iaload, 1) := by decide +kernel
theorem dX6_findTents_30 : decode cX6_findTents 30 = .ok (.iload_n 1, 1) := by decide +kernel
theorem dX6_findTents_31 : decode cX6_findTents 31 = .ok (.if_icmp .ne 24, 3) := by decide +kernel
theorem dX6_findTents_34 : decode cX6_findTents 34 = .ok (.aload_n 0, 1) := by decide +kernel
theorem dX6_findTents_35 : decode cX6_findTents 35 = .ok (.getfield 22, 3) := by decide +kernel
theorem dX6_findTents_38 : decode cX6_findTents 38 = .ok (.iload_n 2, 1) := by decide +kernel
theorem dX6_findTents_39 : decode cX6_findTents 39 = .ok (.iaload, 1) := by decide +kernel
theorem dX6_findTents_40 : decode cX6_findTents 40 = .ok (.iconst (-1), 1) := by decide +kernel
theorem dX6_findTents_41 : decode cX6_findTents 41 = .ok (.if_icmp .ne 14, 3) := by decide +kernel
theorem dX6_findTents_44 : decode cX6_findTents 44 = .ok (.aload_n 0, 1) := by decide +kernel
theorem dX6_findTents_45 : decode cX6_findTents 45 = .ok (.getfield 22, 3) := by decide +kernel
theorem dX6_findTents_48 : decode cX6_findTents 48 = .ok (.iload_n 2, 1) := by decide +kernel
theorem dX6_findTents_49 : decode cX6_findTents 49 = .ok (.aload_n 0, 1) := by decide +kernel
theorem dX6_findTents_50 : decode cX6_findTents 50 = .ok (.iload_n 2, 1) := by decide +kernel
theorem dX6_findTents_51 : decode cX6_findTents 51 = .ok (.invokevirtual 116, 3) := by decide +kernel
theorem dX6_findTents_54 : decode cX6_findTents 54 = .ok (.iastore, 1) := by decide +kernel
theorem dX6_findTents_55 : decode cX6_findTents 55 = .ok (.iinc 2 1, 3) := by decide +kernel
theorem dX6_findTents_58 : decode cX6_findTents 58 = .ok (.goto (-42), 3) := by decide +kernel
theorem dX6_findTents_61 : decode cX6_findTents 61 = .ok (.iinc 1 (-1), 3) := by decide +kernel
theorem dX6_findTents_64 : decode cX6_findTents 64 = .ok (.goto (-56), 3) := by decide +kernel
theorem dX6_findTents_67 : decode cX6_findTents 67 = .ok (.aload_n 0, 1) := by decide +kernel
theorem dX6_findTents_68 : decode cX6_findTents 68 = .ok (.iconst (-1), 1) := by decide +kernel
theorem dX6_findTents_69 : decode cX6_findTents 69 = .ok (.iconst (-1), 1) := by decide +kernel
theorem dX6_findTents_70 : decode cX6_findTents 70 = .ok (.invokevirtual 97, 3) := by decide +kernel
theorem dX6_findTents_73 : decode cX6_findTents 73 = .ok (.ireturn, 1) := by decide +kernel
set_option maxRecDepth 20000 in
theorem ggX6_counted_X6_sleepers : GoodIn wsX6_counted wsX6_sleepers := goodIn_r _ [12, 3, 13, 14, 15, 16, 17, 18, 19, 20, 21, 22, 23, 24, 25, 26, 27, 28, 29, 30, 31, 32, 33, 34, 35, 36, 37] (by decide +kernel) (by decide +kernel)
set_option maxRecDepth 20000 in
theorem gX6_counted_X6_sleepers : GoodIn wsX6_counted (wsV RX6 97 RX6 yX6_sleepers wsX6_sleepers) := goodIn_app (goodIn_of _ (by decide +kernel)) ggX6_counted_X6_sleepers
theorem dX6_counted_0 : decode cX6_counted 0 = .ok (.bipush 7, 2) := by decide +kernel
theorem dX6_counted_2 : decode cX6_counted 2 = .ok (.newarray .int, 2) := by decide +kernel
theorem dX6_counted_4 : decode cX6_counted 4 = .ok (.dup, 1) := by decide +kernel
theorem dX6_counted_5 : decode cX6_counted 5 = .ok (.iconst 0, 1) := by decide +kernel
theorem dX6_counted_6 : decode cX6_counted 6 = .ok (.aload_n 0, 1) := by decide +kernel
theorem dX6_counted_7 : decode cX6_counted 7 = .ok (.getfield 57, 3) := by decide +kernel
theorem dX6_counted_10 : decode cX6_counted 10 = .ok (.iastore, 1) := by decide +kernel
theorem dX6_counted_11 : decode cX6_counted 11 = .ok (.dup, 1) := by decide +kernel
theorem dX6_counted_12 : decode cX6_counted 12 = .ok (.iconst 1, 1) := by decide +kernel
theorem dX6_counted_13 : decode cX6_counted 13 = .ok (.aload_n 0, 1) := by decide +kernel
theorem dX6_counted_14 : decode cX6_counted 14 = .ok (.getfield 64, 3) := by decide +kernel
theorem dX6_counted_17 : decode cX6_counted 17 = .ok (.iastore, 1) := by decide +kernel
theorem dX6_counted_18 : decode cX6_counted 18 = .ok (.dup, 1) := by decide +kernel
theorem dX6_counted_19 : decode cX6_counted 19 = .ok (.iconst 2, 1) := by decide +kernel
theorem dX6_counted_20 : decode cX6_counted 20 = .ok (.aload_n 0, 1) := by decide +kernel
theorem dX6_counted_21 : decode cX6_counted 21 = .ok (.getfield 67, 3) := by decide +kernel
theorem dX6_counted_24 : decode cX6_counted 24 = .ok (.iastore, 1) := by decide +kernel
theorem dX6_counted_25 : decode cX6_counted 25 = .ok (.dup, 1) := by decide +kernel
theorem dX6_counted_26 : decode cX6_counted 26 = .ok (.iconst 3, 1) := by decide +kernel
theorem dX6_counted_27 : decode cX6_counted 27 = .ok (.aload_n 0, 1) := by decide +kernel
theorem dX6_counted_28 : decode cX6_counted 28 = .ok (.iconst (-1), 1) := by decide +kernel
theorem dX6_counted_29 : decode cX6_counted 29 = .ok (.iconst (-1), 1) := by decide +kernel
theorem dX6_counted_30 : decode cX6_counted 30 = .ok (.invokevirtual 97, 3) := by decide +kernel
theorem dX6_counted_33 : decode cX6_counted 33 = .ok (.iastore, 1) := by decide +kernel
theorem dX6_counted_34 : decode cX6_counted 34 = .ok (.dup, 1) := by decide +kernel
theorem dX6_counted_35 : decode cX6_counted 35 = .ok (.iconst 4, 1) := by decide +kernel
theorem dX6_counted_36 : decode cX6_counted 36 = .ok (.aload_n 0, 1) := by decide +kernel
theorem dX6_counted_37 : decode cX6_counted 37 = .ok (.getfield 70, 3) := by decide +kernel
theorem dX6_counted_40 : decode cX6_counted 40 = .ok (.iastore, 1) := by decide +kernel
theorem dX6_counted_41 : decode cX6_counted 41 = .ok (.dup, 1) := by decide +kernel
theorem dX6_counted_42 : decode cX6_counted 42 = .ok (.iconst 5, 1) := by decide +kernel
theorem dX6_counted_43 : decode cX6_counted 43 = .ok (.aload_n 0, 1) := by decide +kernel
theorem dX6_counted_44 : decode cX6_counted 44 = .ok (.getfield 73, 3) := by decide +kernel
theorem dX6_counted_47 : decode cX6_counted 47 = .ok (.iastore, 1) := by decide +kernel
theorem dX6_counted_48 : decode cX6_counted 48 = .ok (.dup, 1) := by decide +kernel
theorem dX6_counted_49 : decode cX6_counted 49 = .ok (.bipush 6, 2) := by decide +kernel
theorem dX6_counted_51 : decode cX6_counted 51 = .ok (.aload_n 0, 1) := by decide +kernel
theorem dX6_counted_52 : decode cX6_counted 52 = .ok (.getfield 76, 3) := by decide +kernel
theorem dX6_counted_55 : decode cX6_counted 55 = .ok (.iastore, 1) := by decide +kernel
theorem dX6_counted_56 : decode cX6_counted 56 = .ok (.astore_n 2, 1) := by decide +kernel
theorem dX6_counted_57 : decode cX6_counted 57 = .ok (.aload_n 2, 1) := by decide +kernel
theorem dX6_counted_58 : decode cX6_counted 58 = .ok (.iload_n 1, 1) := by decide +kernel
theorem dX6_counted_59 : decode cX6_counted 59 = .ok (.iaload, 1) := by decide +kernel
theorem dX6_counted_60 : decode cX6_counted 60 = .ok (.ireturn, 1) := by decide +kernel
set_option maxRecDepth 20000 in
theorem ggX6_count_X6_isIn : GoodIn wsX6_count wsX6_isIn := goodIn_r _ [5] (by decide +kernel) (by decide +kernel)
set_option maxRecDepth 20000 in
theorem gX6_count_X6_isIn : GoodIn wsX6_count (va_wsS RX6 60 yX6_isIn wsX6_isIn) := goodIn_app (goodIn_of _ (by decide +kernel)) ggX6_count_X6_isIn
set_option maxRecDepth 20000 in
theorem ggX6_count_X6_counted : GoodIn wsX6_count wsX6_counted := goodIn_r _ [9, 10, 11, 12, 13, 14, 15, 16, 17, 18, 19, 4, 20, 21, 22, 27, 28, 29, 30, 31, 32, 33, 34, 35, 36, 37, 38, 39, 40, 41, 42, 43, 44, 45, 46, 47, 48, 49] (by decide +kernel) (by decide +kernel)
set_option maxRecDepth 20000 in
theorem gX6_count_X6_counted : GoodIn wsX6_count (wsV RX6 119 RX6 yX6_counted wsX6_counted) := goodIn_app (goodIn_of _ (by decide +kernel)) ggX6_count_X6_counted
set_option maxRecDepth 20000 in
theorem ggX6_count_X6_no : GoodIn wsX6_count wsX6_no := goodIn_r _ [26, 1, 27, 28, 29, 30, 31, 32, 33, 34, 35, 36, 37, 38, 39, 40, 41, 42, 43, 44, 45, 46, 47, 48, 49] (by decide +kernel) (by decide +kernel)
set_option maxRecDepth 20000 in
theorem gX6_count_X6_no : GoodIn wsX6_count (wsV RX6 79 RX6 yX6_no wsX6_no) := goodIn_app (goodIn_of _ (by decide +kernel)) ggX6_count_X6_no
theorem dX6_count_0 : decode cX6_count 0 = .ok (.aload_n 0, 1) := by decide +kernel
theorem dX6_count_1 : decode cX6_count 1 = .ok (.iconst 0, 1) := by decide +kernel
theorem dX6_count_2 : decode cX6_count 2 = .ok (.putfield 53, 3) := by decide +kernel
theorem dX6_count_5 : decode cX6_count 5 = .ok (.iload_n 1, 1) := by decide +kernel
theorem dX6_count_6 : decode cX6_count 6 = .ok (.iconst 0, 1) := by decide +kernel
theorem dX6_count_7 : decode cX6_count 7 = .ok (.bipush 6, 2) := by decide +kernel
theorem dX6_count_9 : decode cX6_count 9 = .ok (.invokestatic 60, 3) := by decide +kernel
theorem dX6_count_12 : decode cX6_count 12 = .ok (.ifCond .eq 11, 3) := by decide +kernel
theorem dX6_count_15 : decode cX6_count 15 = .ok (.aload_n 0, 1) := by decide +kernel
theorem dX6_count_16 : decode cX6_count 16 = .ok (.iload_n 1, 1) := by decide +kernel
theorem dX6_count_17 : decode cX6_count 17 = .ok (.invokevirtual 119, 3) := by decide +kernel
theorem dX6_count_20 : decode cX6_count 20 = .ok (.goto 8, 3) := by decide +kernel
theorem dX6_count_23 : decode cX6_count 23 = .ok (.aload_n 0, 1) := by decide +kernel
theorem dX6_count_24 : decode cX6_count 24 = .ok (.iconst 1, 1) := by decide +kernel
theorem dX6_count_25 : decode cX6_count 25 = .ok (.invokevirtual 79, 3) := by decide +kernel
theorem dX6_count_28 : decode cX6_count 28 = .ok (.ireturn, 1) := by decide +kernel
set_option maxRecDepth 20000 in
theorem ggX6_at_X6_isIn : GoodIn wsX6_at wsX6_isIn := goodIn_r _ [5] (by decide +kernel) (by decide +kernel)
set_option maxRecDepth 20000 in
theorem gX6_at_X6_isIn : GoodIn wsX6_at (va_wsS RX6 60 yX6_isIn wsX6_isIn) := goodIn_app (goodIn_of _ (by decide +kernel)) ggX6_at_X6_isIn
theorem dX6_at_0 : decode cX6_at 0 = .ok (.iload_n 1, 1) := by decide +kernel
theorem dX6_at_1 : decode cX6_at 1 = .ok (.iconst 0, 1) := by decide +kernel
theorem dX6_at_2 : decode cX6_at 2 = .ok (.bipush 60, 2) := by decide +kernel
theorem dX6_at_4 : decode cX6_at 4 = .ok (.invokestatic 60, 3) := by decide +kernel
theorem dX6_at_7 : decode cX6_at 7 = .ok (.ifCond .eq 16, 3) := by decide +kernel
theorem dX6_at_10 : decode cX6_at 10 = .ok (.aload_n 0, 1) := by decide +kernel
theorem dX6_at_11 : decode cX6_at 11 = .ok (.getfield 38, 3) := by decide +kernel
theorem dX6_at_14 : decode cX6_at 14 = .ok (.iconst 5, 1) := by decide +kernel
theorem dX6_at_15 : decode cX6_at 15 = .ok (.iload_n 1, 1) := by decide +kernel
theorem dX6_at_16 : decode cX6_at 16 = .ok (.imul, 1) := by decide +kernel
theorem dX6_at_17 : decode cX6_at 17 = .ok (.iload_n 2, 1) := by decide +kernel
theorem dX6_at_18 : decode cX6_at 18 = .ok (.iadd, 1) := by decide +kernel
theorem dX6_at_19 : decode cX6_at 19 = .ok (.iaload, 1) := by decide +kernel
theorem dX6_at_20 : decode cX6_at 20 = .ok (.goto 4, 3) := by decide +kernel
theorem dX6_at_23 : decode cX6_at 23 = .ok (.iconst (-1), 1) := by decide +kernel
theorem dX6_at_24 : decode cX6_at 24 = .ok (.ireturn, 1) := by decide +kernel
theorem dX6_hasScout_0 : decode cX6_hasScout 0 = .ok (.iconst 0, 1) := by decide +kernel
theorem dX6_hasScout_1 : decode cX6_hasScout 1 = .ok (.istore_n 3, 1) := by decide +kernel
theorem dX6_hasScout_2 : decode cX6_hasScout 2 = .ok (.iconst 0, 1) := by decide +kernel
theorem dX6_hasScout_3 : decode cX6_hasScout 3 = .ok (.istore 4, 2) := by decide +kernel
theorem dX6_hasScout_5 : decode cX6_hasScout 5 = .ok (.iload 4, 2) := by decide +kernel
theorem dX6_hasScout_7 : decode cX6_hasScout 7 = .ok (.aload_n 0, 1) := by decide +kernel
theorem dX6_hasScout_8 : decode cX6_hasScout 8 = .ok (.getfield 64, 3) := by decide +kernel
theorem dX6_hasScout_11 : decode cX6_hasScout 11 = .ok (.if_icmp .ge 41, 3) := by decide +kernel
theorem dX6_hasScout_14 : decode cX6_hasScout 14 = .ok (.iload_n 3, 1) := by decide +kernel
theorem dX6_hasScout_15 : decode cX6_hasScout 15 = .ok (.ifCond .ne 25, 3) := by decide +kernel
theorem dX6_hasScout_18 : decode cX6_hasScout 18 = .ok (.aload_n 0, 1) := by decide +kernel
theorem dX6_hasScout_19 : decode cX6_hasScout 19 = .ok (.getfield 9, 3) := by decide +kernel
theorem dX6_hasScout_22 : decode cX6_hasScout 22 = .ok (.iload 4, 2) := by decide +kernel
theorem dX6_hasScout_24 : decode cX6_hasScout 24 = .ok (.iaload, 1) := by decide +kernel
theorem dX6_hasScout_25 : decode cX6_hasScout 25 = .ok (.iload_n 1, 1) := by decide +kernel
theorem dX6_hasScout_26 : decode cX6_hasScout 26 = .ok (.if_icmp .ne 18, 3) := by decide +kernel
theorem dX6_hasScout_29 : decode cX6_hasScout 29 = .ok (.aload_n 0, 1) := by decide +kernel
theorem dX6_hasScout_30 : decode cX6_hasScout 30 = .ok (.getfield 13, 3) := by decide +kernel
theorem dX6_hasScout_33 : decode cX6_hasScout 33 = .ok (.iload 4, 2) := by decide +kernel
theorem dX6_hasScout_35 : decode cX6_hasScout 35 = .ok (.iaload, 1) := by decide +kernel
theorem dX6_hasScout_36 : decode cX6_hasScout 36 = .ok (.iload_n 2, 1) := by decide +kernel
theorem dX6_hasScout_37 : decode cX6_hasScout 37 = .ok (.if_icmp .lt 7, 3) := by decide +kernel
theorem dX6_hasScout_40 : decode cX6_hasScout 40 = .ok (.iconst 1, 1) := by decide +kernel
theorem dX6_hasScout_41 : decode cX6_hasScout 41 = .ok (.goto 4, 3) := by decide +kernel
theorem dX6_hasScout_44 : decode cX6_hasScout 44 = .ok (.iconst 0, 1) := by decide +kernel
theorem dX6_hasScout_45 : decode cX6_hasScout 45 = .ok (.istore_n 3, 1) := by decide +kernel
theorem dX6_hasScout_46 : decode cX6_hasScout 46 = .ok (.iinc 4 1, 3) := by decide +kernel
theorem dX6_hasScout_49 : decode cX6_hasScout 49 = .ok (.goto (-44), 3) := by decide +kernel
theorem dX6_hasScout_52 : decode cX6_hasScout 52 = .ok (.iload_n 3, 1) := by decide +kernel
theorem dX6_hasScout_53 : decode cX6_hasScout 53 = .ok (.ireturn, 1) := by decide +kernel
set_option maxRecDepth 20000 in
theorem ggX6_canBeGiven_X6_hasScout : GoodIn wsX6_canBeGiven wsX6_hasScout := goodIn_r _ [5, 6, 7, 8, 17, 18, 19, 20, 21, 22, 23, 24, 25, 26, 27, 28, 29, 30, 31, 32, 33, 34, 35, 36, 37, 38, 39] (by decide +kernel) (by decide +kernel)
set_option maxRecDepth 20000 in
theorem gX6_canBeGiven_X6_hasScout : GoodIn wsX6_canBeGiven (wsV RX6 122 RX6 yX6_hasScout wsX6_hasScout) := goodIn_app (goodIn_of _ (by decide +kernel)) ggX6_canBeGiven_X6_hasScout
set_option maxRecDepth 20000 in
theorem ggX6_canBeGiven_X6_at : GoodIn wsX6_canBeGiven wsX6_at := goodIn_r _ [12, 13, 14, 15, 4, 16, 17, 18, 19, 20, 21, 22, 23, 24, 25, 26, 27, 28, 29, 30, 31, 32, 33, 34, 35, 36, 37, 38, 39] (by decide +kernel) (by decide +kernel)
set_option maxRecDepth 20000 in
theorem gX6_canBeGiven_X6_at : GoodIn wsX6_canBeGiven (wsV RX6 125 RX6 yX6_at wsX6_at) := goodIn_app (goodIn_of _ (by decide +kernel)) ggX6_canBeGiven_X6_at
theorem dX6_canBeGiven_0 : decode cX6_canBeGiven 0 = .ok (.aload_n 0, 1) := by decide +kernel
theorem dX6_canBeGiven_1 : decode cX6_canBeGiven 1 = .ok (.iload_n 3, 1) := by decide +kernel
theorem dX6_canBeGiven_2 : decode cX6_canBeGiven 2 = .ok (.iload_n 2, 1) := by decide +kernel
theorem dX6_canBeGiven_3 : decode cX6_canBeGiven 3 = .ok (.iconst 4, 1) := by decide +kernel
theorem dX6_canBeGiven_4 : decode cX6_canBeGiven 4 = .ok (.if_icmp .ne 8, 3) := by decide +kernel
theorem dX6_canBeGiven_7 : decode cX6_canBeGiven 7 = .ok (.bipush 12, 2) := by decide +kernel
theorem dX6_canBeGiven_9 : decode cX6_canBeGiven 9 = .ok (.goto 4, 3) := by decide +kernel
theorem dX6_canBeGiven_12 : decode cX6_canBeGiven 12 = .ok (.iconst 0, 1) := by decide +kernel
theorem dX6_canBeGiven_13 : decode cX6_canBeGiven 13 = .ok (.invokevirtual 122, 3) := by decide +kernel
theorem dX6_canBeGiven_16 : decode cX6_canBeGiven 16 = .ok (.ifCond .eq 31, 3) := by decide +kernel
theorem dX6_canBeGiven_19 : decode cX6_canBeGiven 19 = .ok (.aload_n 0, 1) := by decide +kernel
theorem dX6_canBeGiven_20 : decode cX6_canBeGiven 20 = .ok (.iload_n 1, 1) := by decide +kernel
theorem dX6_canBeGiven_21 : decode cX6_canBeGiven 21 = .ok (.iconst 1, 1) := by decide +kernel
theorem dX6_canBeGiven_22 : decode cX6_canBeGiven 22 = .ok (.isub, 1) := by decide +kernel
theorem dX6_canBeGiven_23 : decode cX6_canBeGiven 23 = .ok (.iload_n 2, 1) := by decide +kernel
theorem dX6_canBeGiven_24 : decode cX6_canBeGiven 24 = .ok (.invokevirtual 125, 3) := by decide +kernel
theorem dX6_canBeGiven_27 : decode cX6_canBeGiven 27 = .ok (.iload_n 3, 1) := by decide +kernel
theorem dX6_canBeGiven_28 : decode cX6_canBeGiven 28 = .ok (.if_icmp .eq 19, 3) := by decide +kernel
theorem dX6_canBeGiven_31 : decode cX6_canBeGiven 31 = .ok (.aload_n 0, 1) := by decide +kernel
theorem dX6_canBeGiven_32 : decode cX6_canBeGiven 32 = .ok (.iload_n 1, 1) := by decide +kernel
theorem dX6_canBeGiven_33 : decode cX6_canBeGiven 33 = .ok (.iconst 1, 1) := by decide +kernel
theorem dX6_canBeGiven_34 : decode cX6_canBeGiven 34 = .ok (.iadd, 1) := by decide +kernel
theorem dX6_canBeGiven_35 : decode cX6_canBeGiven 35 = .ok (.iload_n 2, 1) := by decide +kernel
theorem dX6_canBeGiven_36 : decode cX6_canBeGiven 36 = .ok (.invokevirtual 125, 3) := by decide +kernel
theorem dX6_canBeGiven_39 : decode cX6_canBeGiven 39 = .ok (.iload_n 3, 1) := by decide +kernel
theorem dX6_canBeGiven_40 : decode cX6_canBeGiven 40 = .ok (.if_icmp .eq 7, 3) := by decide +kernel
theorem dX6_canBeGiven_43 : decode cX6_canBeGiven 43 = .ok (.iconst 1, 1) := by decide +kernel
theorem dX6_canBeGiven_44 : decode cX6_canBeGiven 44 = .ok (.goto 4, 3) := by decide +kernel
theorem dX6_canBeGiven_47 : decode cX6_canBeGiven 47 = .ok (.iconst 0, 1) := by decide +kernel
theorem dX6_canBeGiven_48 : decode cX6_canBeGiven 48 = .ok (.istore 4, 2) := by decide +kernel
theorem dX6_canBeGiven_50 : decode cX6_canBeGiven 50 = .ok (.iconst 0, 1) := by decide +kernel
theorem dX6_canBeGiven_51 : decode cX6_canBeGiven 51 = .ok (.istore 5, 2) := by decide +kernel
theorem dX6_canBeGiven_53 : decode cX6_canBeGiven 53 = .ok (.iload 5, 2) := by decide +kernel
theorem dX6_canBeGiven_55 : decode cX6_canBeGiven 55 = .ok (.iconst 5, 1) := by decide +kernel
theorem dX6_canBeGiven_56 : decode cX6_canBeGiven 56 = .ok (.if_icmp .ge 38, 3) := by decide +kernel
theorem dX6_canBeGiven_59 : decode cX6_canBeGiven 59 = .ok (.iload 4, 2) := by decide +kernel
theorem dX6_canBeGiven_61 : decode cX6_canBeGiven 61 = .ok (.ifCond .eq 24, 3) := by decide +kernel
theorem dX6_canBeGiven_64 : decode cX6_canBeGiven 64 = .ok (.iload 5, 2) := by decide +kernel
theorem dX6_canBeGiven_66 : decode cX6_canBeGiven 66 = .ok (.iload_n 2, 1) := by decide +kernel
theorem dX6_canBeGiven_67 : decode cX6_canBeGiven 67 = .ok (.if_icmp .eq 14, 3) := by decide +kernel
theorem dX6_canBeGiven_70 : decode cX6_canBeGiven 70 = .ok (.aload_n 0, 1) := by decide +kernel
theorem dX6_canBeGiven_71 : decode cX6_canBeGiven 71 = .ok (.iload_n 1, 1) := by decide +kernel
theorem dX6_canBeGiven_72 : decode cX6_canBeGiven 72 = .ok (.iload 5, 2) := by decide +kernel
theorem dX6_canBeGiven_74 : decode cX6_canBeGiven 74 = .ok (.invokevirtual 125, 3) := by decide +kernel
theorem dX6_canBeGiven_77 : decode cX6_canBeGiven 77 = .ok (.iload_n 3, 1) := by decide +kernel
theorem dX6_canBeGiven_78 : decode cX6_canBeGiven 78 = .ok (.if_icmp .eq 7, 3) := by decide +kernel
theorem dX6_canBeGiven_81 : decode cX6_canBeGiven 81 = .ok (.iconst 1, 1) := by decide +kernel
theorem dX6_canBeGiven_82 : decode cX6_canBeGiven 82 = .ok (.goto 4, 3) := by decide +kernel
theorem dX6_canBeGiven_85 : decode cX6_canBeGiven 85 = .ok (.iconst 0, 1) := by decide +kernel
theorem dX6_canBeGiven_86 : decode cX6_canBeGiven 86 = .ok (.istore 4, 2) := by decide +kernel
theorem dX6_canBeGiven_88 : decode cX6_canBeGiven 88 = .ok (.iinc 5 1, 3) := by decide +kernel
theorem dX6_canBeGiven_91 : decode cX6_canBeGiven 91 = .ok (.goto (-38), 3) := by decide +kernel
theorem dX6_canBeGiven_94 : decode cX6_canBeGiven 94 = .ok (.iload 4, 2) := by decide +kernel
theorem dX6_canBeGiven_96 : decode cX6_canBeGiven 96 = .ok (.ireturn, 1) := by decide +kernel
set_option maxRecDepth 20000 in
theorem ggX6_giveDuty_X6_isIn : GoodIn wsX6_giveDuty wsX6_isIn := goodIn_r _ [7] (by decide +kernel) (by decide +kernel)
set_option maxRecDepth 20000 in
theorem gX6_giveDuty_X6_isIn : GoodIn wsX6_giveDuty (va_wsS RX6 60 yX6_isIn wsX6_isIn) := goodIn_app (goodIn_of _ (by decide +kernel)) ggX6_giveDuty_X6_isIn
set_option maxRecDepth 20000 in
theorem ggX6_giveDuty_X6_isPatrol : GoodIn wsX6_giveDuty wsX6_isPatrol := goodIn_r _ [11, 12, 4, 5, 6, 7, 32, 33, 34, 35, 36, 37, 38, 39, 40, 41, 42, 43, 44, 45, 46, 47, 48, 49, 50, 51, 52, 53, 54] (by decide +kernel) (by decide +kernel)
set_option maxRecDepth 20000 in
theorem gX6_giveDuty_X6_isPatrol : GoodIn wsX6_giveDuty (wsV RX6 83 RX6 yX6_isPatrol wsX6_isPatrol) := goodIn_app (goodIn_of _ (by decide +kernel)) ggX6_giveDuty_X6_isPatrol
set_option maxRecDepth 20000 in
theorem ggX6_giveDuty_X6_no : GoodIn wsX6_giveDuty wsX6_no := goodIn_r _ [16, 1, 32, 33, 34, 35, 36, 37, 38, 39, 40, 41, 42, 43, 44, 45, 46, 47, 48, 49, 50, 51, 52, 53, 54] (by decide +kernel) (by decide +kernel)
set_option maxRecDepth 20000 in
theorem gX6_giveDuty_X6_no : GoodIn wsX6_giveDuty (wsV RX6 79 RX6 yX6_no wsX6_no) := goodIn_app (goodIn_of _ (by decide +kernel)) ggX6_giveDuty_X6_no
set_option maxRecDepth 20000 in
theorem ggX6_giveDuty_X6_canBeGiven : GoodIn wsX6_giveDuty wsX6_canBeGiven := goodIn_r _ [20, 21, 22, 23, 6, 24, 25, 26, 27, 28, 29, 30, 31, 3, 4, 5, 7, 32, 33, 34, 35, 36, 37, 38, 39, 40, 41, 42, 43, 44, 45, 46, 47, 48, 49, 50, 51, 52, 53, 54] (by decide +kernel) (by decide +kernel)
set_option maxRecDepth 20000 in
theorem gX6_giveDuty_X6_canBeGiven : GoodIn wsX6_giveDuty (wsV RX6 131 RX6 yX6_canBeGiven wsX6_canBeGiven) := goodIn_app (goodIn_of _ (by decide +kernel)) ggX6_giveDuty_X6_canBeGiven
set_option maxRecDepth 20000 in
theorem ggX6_giveDuty_X6_at : GoodIn wsX6_giveDuty wsX6_at := goodIn_r _ [31, 3, 4, 5, 6, 7, 32, 33, 34, 35, 36, 37, 38, 39, 40, 41, 42, 43, 44, 45, 46, 47, 48, 49, 50, 51, 52, 53, 54] (by decide +kernel) (by decide +kernel)
set_option maxRecDepth 20000 in
theorem gX6_giveDuty_X6_at : GoodIn wsX6_giveDuty (wsV RX6 125 RX6 yX6_at wsX6_at) := goodIn_app (goodIn_of _ (by decide +kernel)) ggX6_giveDuty_X6_at
theorem dX6_giveDuty_0 : decode cX6_giveDuty 0 = .ok (.aload_n 0, 1) := by decide +kernel
theorem dX6_giveDuty_1 : decode cX6_giveDuty 1 = .ok (.iconst 0, 1) := by decide +kernel
theorem dX6_giveDuty_2 : decode cX6_giveDuty 2 = .ok (.putfield 53, 3) := by decide +kernel
theorem dX6_giveDuty_5 : decode cX6_giveDuty 5 = .ok (.iload_n 2, 1) := by decide +kernel
theorem dX6_giveDuty_6 : decode cX6_giveDuty 6 = .ok (.iconst 0, 1) := by decide +kernel
theorem dX6_giveDuty_7 : decode cX6_giveDuty 7 = .ok (.iconst 4, 1) := by decide +kernel
theorem dX6_giveDuty_8 : decode cX6_giveDuty 8 = .ok (.invokestatic 60, 3) := by decide +kernel
theorem dX6_giveDuty_11 : decode cX6_giveDuty 11 = .ok (.ifCond .eq 16, 3) := by decide +kernel
theorem dX6_giveDuty_14 : decode cX6_giveDuty 14 = .ok (.iload_n 3, 1) := by decide +kernel
theorem dX6_giveDuty_15 : decode cX6_giveDuty 15 = .ok (.iconst (-1), 1) := by decide +kernel
theorem dX6_giveDuty_16 : decode cX6_giveDuty 16 = .ok (.if_icmp .eq 17, 3) := by decide +kernel
theorem dX6_giveDuty_19 : decode cX6_giveDuty 19 = .ok (.aload_n 0, 1) := by decide +kernel
theorem dX6_giveDuty_20 : decode cX6_giveDuty 20 = .ok (.iload_n 3, 1) := by decide +kernel
theorem dX6_giveDuty_21 : decode cX6_giveDuty 21 = .ok (.invokevirtual 83, 3) := by decide +kernel
theorem dX6_giveDuty_24 : decode cX6_giveDuty 24 = .ok (.ifCond .ne 9, 3) := by decide +kernel
theorem dX6_giveDuty_27 : decode cX6_giveDuty 27 = .ok (.aload_n 0, 1) := by decide +kernel
theorem dX6_giveDuty_28 : decode cX6_giveDuty 28 = .ok (.iconst 1, 1) := by decide +kernel
theorem dX6_giveDuty_29 : decode cX6_giveDuty 29 = .ok (.invokevirtual 79, 3) := by decide +kernel
theorem dX6_giveDuty_32 : decode cX6_giveDuty 32 = .ok (.ireturn, 1) := by decide +kernel
theorem dX6_giveDuty_33 : decode cX6_giveDuty 33 = .ok (.iload_n 1, 1) := by decide +kernel
theorem dX6_giveDuty_34 : decode cX6_giveDuty 34 = .ok (.aload_n 0, 1) := by decide +kernel
theorem dX6_giveDuty_35 : decode cX6_giveDuty 35 = .ok (.getfield 128, 3) := by decide +kernel
theorem dX6_giveDuty_38 : decode cX6_giveDuty 38 = .ok (.bipush 60, 2) := by decide +kernel
theorem dX6_giveDuty_40 : decode cX6_giveDuty 40 = .ok (.invokestatic 60, 3) := by decide +kernel
theorem dX6_giveDuty_43 : decode cX6_giveDuty 43 = .ok (.ifCond .ne 9, 3) := by decide +kernel
theorem dX6_giveDuty_46 : decode cX6_giveDuty 46 = .ok (.aload_n 0, 1) := by decide +kernel
theorem dX6_giveDuty_47 : decode cX6_giveDuty 47 = .ok (.iconst 2, 1) := by decide +kernel
theorem dX6_giveDuty_48 : decode cX6_giveDuty 48 = .ok (.invokevirtual 79, 3) := by decide +kernel
theorem dX6_giveDuty_51 : decode cX6_giveDuty 51 = .ok (.ireturn, 1) := by decide +kernel
theorem dX6_giveDuty_52 : decode cX6_giveDuty 52 = .ok (.iload_n 3, 1) := by decide +kernel
theorem dX6_giveDuty_53 : decode cX6_giveDuty 53 = .ok (.iconst (-1), 1) := by decide +kernel
theorem dX6_giveDuty_54 : decode cX6_giveDuty 54 = .ok (.if_icmp .eq 19, 3) := by decide +kernel
theorem dX6_giveDuty_57 : decode cX6_giveDuty 57 = .ok (.aload_n 0, 1) := by decide +kernel
theorem dX6_giveDuty_58 : decode cX6_giveDuty 58 = .ok (.iload_n 1, 1) := by decide +kernel
theorem dX6_giveDuty_59 : decode cX6_giveDuty 59 = .ok (.iload_n 2, 1) := by decide +kernel
theorem dX6_giveDuty_60 : decode cX6_giveDuty 60 = .ok (.iload_n 3, 1) := by decide +kernel
theorem dX6_giveDuty_61 : decode cX6_giveDuty 61 = .ok (.invokevirtual 131, 3) := by decide +kernel
theorem dX6_giveDuty_64 : decode cX6_giveDuty 64 = .ok (.ifCond .ne 9, 3) := by decide +kernel
theorem dX6_giveDuty_67 : decode cX6_giveDuty 67 = .ok (.aload_n 0, 1) := by decide +kernel
theorem dX6_giveDuty_68 : decode cX6_giveDuty 68 = .ok (.iconst 3, 1) := by decide +kernel
theorem dX6_giveDuty_69 : decode cX6_giveDuty 69 = .ok (.invokevirtual 79, 3) := by decide +kernel
theorem dX6_giveDuty_72 : decode cX6_giveDuty 72 = .ok (.ireturn, 1) := by decide +kernel
theorem dX6_giveDuty_73 : decode cX6_giveDuty 73 = .ok (.aload_n 0, 1) := by decide +kernel
theorem dX6_giveDuty_74 : decode cX6_giveDuty 74 = .ok (.iload_n 1, 1) := by decide +kernel
theorem dX6_giveDuty_75 : decode cX6_giveDuty 75 = .ok (.iload_n 2, 1) := by decide +kernel
theorem dX6_giveDuty_76 : decode cX6_giveDuty 76 = .ok (.invokevirtual 125, 3) := by decide +kernel
theorem dX6_giveDuty_79 : decode cX6_giveDuty 79 = .ok (.istore 4, 2) := by decide +kernel
theorem dX6_giveDuty_81 : decode cX6_giveDuty 81 = .ok (.aload_n 0, 1) := by decide +kernel
theorem dX6_giveDuty_82 : decode cX6_giveDuty 82 = .ok (.getfield 38, 3) := by decide +kernel
theorem dX6_giveDuty_85 : decode cX6_giveDuty 85 = .ok (.iconst 5, 1) := by decide +kernel
theorem dX6_giveDuty_86 : decode cX6_giveDuty 86 = .ok (.iload_n 1, 1) := by decide +kernel
theorem dX6_giveDuty_87 : decode cX6_giveDuty 87 = .ok (.imul, 1) := by decide +kernel
theorem dX6_giveDuty_88 : decode cX6_giveDuty 88 = .ok (.iload_n 2, 1) := by decide +kernel
theorem dX6_giveDuty_89 : decode cX6_giveDuty 89 = .ok (.iadd, 1) := by decide +kernel
theorem dX6_giveDuty_90 : decode cX6_giveDuty 90 = .ok (.iload_n 3, 1) := by decide +kernel
theorem dX6_giveDuty_91 : decode cX6_giveDuty 91 = .ok (.iastore, 1) := by decide +kernel
theorem dX6_giveDuty_92 : decode cX6_giveDuty 92 = .ok (.iload 4, 2) := by decide +kernel
theorem dX6_giveDuty_94 : decode cX6_giveDuty 94 = .ok (.ireturn, 1) := by decide +kernel
set_option maxRecDepth 20000 in
theorem ggX6_duty_X6_isIn : GoodIn wsX6_duty wsX6_isIn := goodIn_r _ [5] (by decide +kernel) (by decide +kernel)
set_option maxRecDepth 20000 in
theorem gX6_duty_X6_isIn : GoodIn wsX6_duty (va_wsS RX6 60 yX6_isIn wsX6_isIn) := goodIn_app (goodIn_of _ (by decide +kernel)) ggX6_duty_X6_isIn
set_option maxRecDepth 20000 in
theorem ggX6_duty_X6_at : GoodIn wsX6_duty wsX6_at := goodIn_r _ [9, 10, 2, 3, 4, 5, 15, 16, 17, 18, 19, 20, 21, 22, 23, 24, 25, 26, 27, 28, 29, 30, 31, 32, 33, 34, 35, 36, 37] (by decide +kernel) (by decide +kernel)
set_option maxRecDepth 20000 in
theorem gX6_duty_X6_at : GoodIn wsX6_duty (wsV RX6 125 RX6 yX6_at wsX6_at) := goodIn_app (goodIn_of _ (by decide +kernel)) ggX6_duty_X6_at
set_option maxRecDepth 20000 in
theorem ggX6_duty_X6_no : GoodIn wsX6_duty wsX6_no := goodIn_r _ [14, 1, 15, 16, 17, 18, 19, 20, 21, 22, 23, 24, 25, 26, 27, 28, 29, 30, 31, 32, 33, 34, 35, 36, 37] (by decide +kernel) (by decide +kernel)
set_option maxRecDepth 20000 in
theorem gX6_duty_X6_no : GoodIn wsX6_duty (wsV RX6 79 RX6 yX6_no wsX6_no) := goodIn_app (goodIn_of _ (by decide +kernel)) ggX6_duty_X6_no
theorem dX6_duty_0 : decode cX6_duty 0 = .ok (.aload_n 0, 1) := by decide +kernel
theorem dX6_duty_1 : decode cX6_duty 1 = .ok (.iconst 0, 1) := by decide +kernel
theorem dX6_duty_2 : decode cX6_duty 2 = .ok (.putfield 53, 3) := by decide +kernel
theorem dX6_duty_5 : decode cX6_duty 5 = .ok (.iload_n 2, 1) := by decide +kernel
theorem dX6_duty_6 : decode cX6_duty 6 = .ok (.iconst 0, 1) := by decide +kernel
theorem dX6_duty_7 : decode cX6_duty 7 = .ok (.iconst 4, 1) := by decide +kernel
theorem dX6_duty_8 : decode cX6_duty 8 = .ok (.invokestatic 60, 3) := by decide +kernel
theorem dX6_duty_11 : decode cX6_duty 11 = .ok (.ifCond .eq 22, 3) := by decide +kernel
theorem dX6_duty_14 : decode cX6_duty 14 = .ok (.iload_n 1, 1) := by decide +kernel
theorem dX6_duty_15 : decode cX6_duty 15 = .ok (.iconst 0, 1) := by decide +kernel
theorem dX6_duty_16 : decode cX6_duty 16 = .ok (.bipush 60, 2) := by decide +kernel
theorem dX6_duty_18 : decode cX6_duty 18 = .ok (.invokestatic 60, 3) := by decide +kernel
theorem dX6_duty_21 : decode cX6_duty 21 = .ok (.ifCond .eq 12, 3) := by decide +kernel
theorem dX6_duty_24 : decode cX6_duty 24 = .ok (.aload_n 0, 1) := by decide +kernel
theorem dX6_duty_25 : decode cX6_duty 25 = .ok (.iload_n 1, 1) := by decide +kernel
theorem dX6_duty_26 : decode cX6_duty 26 = .ok (.iload_n 2, 1) := by decide +kernel
theorem dX6_duty_27 : decode cX6_duty 27 = .ok (.invokevirtual 125, 3) := by decide +kernel
theorem dX6_duty_30 : decode cX6_duty 30 = .ok (.goto 8, 3) := by decide +kernel
theorem dX6_duty_33 : decode cX6_duty 33 = .ok (.aload_n 0, 1) := by decide +kernel
theorem dX6_duty_34 : decode cX6_duty 34 = .ok (.iconst 1, 1) := by decide +kernel
theorem dX6_duty_35 : decode cX6_duty 35 = .ok (.invokevirtual 79, 3) := by decide +kernel
theorem dX6_duty_38 : decode cX6_duty 38 = .ok (.ireturn, 1) := by decide +kernel
theorem dX6_pointsOf_0 : decode cX6_pointsOf 0 = .ok (.iconst 5, 1) := by decide +kernel
theorem dX6_pointsOf_1 : decode cX6_pointsOf 1 = .ok (.newarray .int, 2) := by decide +kernel
theorem dX6_pointsOf_3 : decode cX6_pointsOf 3 = .ok (.dup, 1) := by decide +kernel
theorem dX6_pointsOf_4 : decode cX6_pointsOf 4 = .ok (.iconst 0, 1) := by decide +kernel
theorem dX6_pointsOf_5 : decode cX6_pointsOf 5 = .ok (.iconst 2, 1) := by decide +kernel
theorem dX6_pointsOf_6 : decode cX6_pointsOf 6 = .ok (.iastore, 1) := by decide +kernel
theorem dX6_pointsOf_7 : decode cX6_pointsOf 7 = .ok (.dup, 1) := by decide +kernel
theorem dX6_pointsOf_8 : decode cX6_pointsOf 8 = .ok (.iconst 1, 1) := by decide +kernel
theorem dX6_pointsOf_9 : decode cX6_pointsOf 9 = .ok (.iconst 3, 1) := by decide +kernel
theorem dX6_pointsOf_10 : decode cX6_pointsOf 10 = .ok (.iastore, 1) := by decide +kernel
theorem dX6_pointsOf_11 : decode cX6_pointsOf 11 = .ok (.dup, 1) := by decide +kernel
theorem dX6_pointsOf_12 : decode cX6_pointsOf 12 = .ok (.iconst 2, 1) := by decide +kernel
theorem dX6_pointsOf_13 : decode cX6_pointsOf 13 = .ok (.iconst 4, 1) := by decide +kernel
theorem dX6_pointsOf_14 : decode cX6_pointsOf 14 = .ok (.iastore, 1) := by decide +kernel
theorem dX6_pointsOf_15 : decode cX6_pointsOf 15 = .ok (.dup, 1) := by decide +kernel
theorem dX6_pointsOf_16 : decode cX6_pointsOf 16 = .ok (.iconst 3, 1) := by decide +kernel
theorem dX6_pointsOf_17 : decode cX6_pointsOf 17 = .ok (.iconst 2, 1) := by decide +kernel
theorem dX6_pointsOf_18 : decode cX6_pointsOf 18 = .ok (.iastore, 1) := by decide +kernel
theorem dX6_pointsOf_19 : decode cX6_pointsOf 19 = .ok (.dup, 1) := by decide +kernel
theorem dX6_pointsOf_20 : decode cX6_pointsOf 20 = .ok (.iconst 4, 1) := by decide +kernel
theorem dX6_pointsOf_21 : decode cX6_pointsOf 21 = .ok (.iconst 5, 1) := by decide +kernel
theorem dX6_pointsOf_22 : decode cX6_pointsOf 22 = .ok (.iastore, 1) := by decide +kernel
theorem dX6_pointsOf_23 : decode cX6_pointsOf 23 = .ok (.astore_n 2, 1) := by decide +kernel
theorem dX6_pointsOf_24 : decode cX6_pointsOf 24 = .ok (.iconst 0, 1) := by decide +kernel
theorem dX6_pointsOf_25 : decode cX6_pointsOf 25 = .ok (.istore_n 3, 1) := by decide +kernel
theorem dX6_pointsOf_26 : decode cX6_pointsOf 26 = .ok (.iconst 0, 1) := by decide +kernel
theorem dX6_pointsOf_27 : decode cX6_pointsOf 27 = .ok (.istore 4, 2) := by decide +kernel
theorem dX6_pointsOf_29 : decode cX6_pointsOf 29 = .ok (.iload 4, 2) := by decide +kernel
theorem dX6_pointsOf_31 : decode cX6_pointsOf 31 = .ok (.aload_n 0, 1) := by decide +kernel
theorem dX6_pointsOf_32 : decode cX6_pointsOf 32 = .ok (.getfield 38, 3) := by decide +kernel
theorem dX6_pointsOf_35 : decode cX6_pointsOf 35 = .ok (.arraylength, 1) := by decide +kernel
theorem dX6_pointsOf_36 : decode cX6_pointsOf 36 = .ok (.if_icmp .ge 33, 3) := by decide +kernel
theorem dX6_pointsOf_39 : decode cX6_pointsOf 39 = .ok (.iload_n 3, 1) := by decide +kernel
theorem dX6_pointsOf_40 : decode cX6_pointsOf 40 = .ok (.aload_n 0, 1) := by decide +kernel
theorem dX6_pointsOf_41 : decode cX6_pointsOf 41 = .ok (.getfield 38, 3) := by decide +kernel
theorem dX6_pointsOf_44 : decode cX6_pointsOf 44 = .ok (.iload 4, 2) := by decide +kernel
theorem dX6_pointsOf_46 : decode cX6_pointsOf 46 = .ok (.iaload, 1) := by decide +kernel
theorem dX6_pointsOf_47 : decode cX6_pointsOf 47 = .ok (.iload_n 1, 1) := by decide +kernel
theorem dX6_pointsOf_48 : decode cX6_pointsOf 48 = .ok (.if_icmp .ne 12, 3) := by decide +kernel
theorem dX6_pointsOf_51 : decode cX6_pointsOf 51 = .ok (.aload_n 2, 1) := by decide +kernel
theorem dX6_pointsOf_52 : decode cX6_pointsOf 52 = .ok (.iload 4, 2) := by decide +kernel
theorem dX6_pointsOf_54 : decode cX6_pointsOf 54 = .ok (.iconst 5, 1) := by decide +kernel
theorem dX6_pointsOf_55 : decode cX6_pointsOf 55 = .ok (.irem, 1) := by decide +kernel
theorem dX6_pointsOf_56 : decode cX6_pointsOf 56 = .ok (.iaload, 1) := by decide +kernel
theorem dX6_pointsOf_57 : decode cX6_pointsOf 57 = .ok (.goto 4, 3) := by decide +kernel
theorem dX6_pointsOf_60 : decode cX6_pointsOf 60 = .ok (.iconst 0, 1) := by decide +kernel
theorem dX6_pointsOf_61 : decode cX6_pointsOf 61 = .ok (.iadd, 1) := by decide +kernel
theorem dX6_pointsOf_62 : decode cX6_pointsOf 62 = .ok (.istore_n 3, 1) := by decide +kernel
theorem dX6_pointsOf_63 : decode cX6_pointsOf 63 = .ok (.iinc 4 1, 3) := by decide +kernel
theorem dX6_pointsOf_66 : decode cX6_pointsOf 66 = .ok (.goto (-37), 3) := by decide +kernel
theorem dX6_pointsOf_69 : decode cX6_pointsOf 69 = .ok (.iload_n 3, 1) := by decide +kernel
theorem dX6_pointsOf_70 : decode cX6_pointsOf 70 = .ok (.ireturn, 1) := by decide +kernel
set_option maxRecDepth 20000 in
theorem ggX6_points_X6_isPatrol : GoodIn wsX6_points wsX6_isPatrol := goodIn_r _ [6, 7, 8, 9, 5, 10, 21, 22, 23, 24, 25, 26, 27, 28, 29, 30, 31, 32, 33, 34, 35, 36, 37, 38, 39, 40, 41, 42, 43] (by decide +kernel) (by decide +kernel)
set_option maxRecDepth 20000 in
theorem gX6_points_X6_isPatrol : GoodIn wsX6_points (wsV RX6 83 RX6 yX6_isPatrol wsX6_isPatrol) := goodIn_app (goodIn_of _ (by decide +kernel)) ggX6_points_X6_isPatrol
set_option maxRecDepth 20000 in
theorem ggX6_points_X6_pointsOf : GoodIn wsX6_points wsX6_pointsOf := goodIn_r _ [14, 15, 16, 21, 22, 23, 24, 25, 26, 27, 28, 29, 30, 31, 32, 33, 34, 35, 36, 37, 38, 39, 40, 41, 42, 43] (by decide +kernel) (by decide +kernel)
set_option maxRecDepth 20000 in
theorem gX6_points_X6_pointsOf : GoodIn wsX6_points (wsV RX6 134 RX6 yX6_pointsOf wsX6_pointsOf) := goodIn_app (goodIn_of _ (by decide +kernel)) ggX6_points_X6_pointsOf
set_option maxRecDepth 20000 in
theorem ggX6_points_X6_no : GoodIn wsX6_points wsX6_no := goodIn_r _ [20, 1, 21, 22, 23, 24, 25, 26, 27, 28, 29, 30, 31, 32, 33, 34, 35, 36, 37, 38, 39, 40, 41, 42, 43] (by decide +kernel) (by decide +kernel)
set_option maxRecDepth 20000 in
theorem gX6_points_X6_no : GoodIn wsX6_points (wsV RX6 79 RX6 yX6_no wsX6_no) := goodIn_app (goodIn_of _ (by decide +kernel)) ggX6_points_X6_no
theorem dX6_points_0 : decode cX6_points 0 = .ok (.aload_n 0, 1) := by decide +kernel
theorem dX6_points_1 : decode cX6_points 1 = .ok (.iconst 0, 1) := by decide +kernel
theorem dX6_points_2 : decode cX6_points 2 = .ok (.putfield 53, 3) := by decide +kernel
theorem dX6_points_5 : decode cX6_points 5 = .ok (.aload_n 0, 1) := by decide +kernel
theorem dX6_points_6 : decode cX6_points 6 = .ok (.iload_n 1, 1) := by decide +kernel
theorem dX6_points_7 : decode cX6_points 7 = .ok (.invokevirtual 83, 3) := by decide +kernel
theorem dX6_points_10 : decode cX6_points 10 = .ok (.ifCond .eq 11, 3) := by decide +kernel
theorem dX6_points_13 : decode cX6_points 13 = .ok (.aload_n 0, 1) := by decide +kernel
theorem dX6_points_14 : decode cX6_points 14 = .ok (.iload_n 1, 1) := by decide +kernel
theorem dX6_points_15 : decode cX6_points 15 = .ok (.invokevirtual 134, 3) := by decide +kernel
theorem dX6_points_18 : decode cX6_points 18 = .ok (.goto 8, 3) := by decide +kernel
theorem dX6_points_21 : decode cX6_points 21 = .ok (.aload_n 0, 1) := by decide +kernel
theorem dX6_points_22 : decode cX6_points 22 = .ok (.iconst 1, 1) := by decide +kernel
theorem dX6_points_23 : decode cX6_points 23 = .ok (.invokevirtual 79, 3) := by decide +kernel
theorem dX6_points_26 : decode cX6_points 26 = .ok (.ireturn, 1) := by decide +kernel
set_option maxRecDepth 20000 in
theorem ggX6_findDuties_X6_at : GoodIn wsX6_findDuties wsX6_at := goodIn_r _ [10, 5, 11, 12, 9, 13, 29, 30, 31, 32, 33, 34, 35, 36, 37, 38, 39, 40, 41, 42, 43, 44, 45, 46, 47, 48, 49, 50, 51] (by decide +kernel) (by decide +kernel)
set_option maxRecDepth 20000 in
theorem gX6_findDuties_X6_at : GoodIn wsX6_findDuties (wsV RX6 125 RX6 yX6_at wsX6_at) := goodIn_app (goodIn_of _ (by decide +kernel)) ggX6_findDuties_X6_at
set_option maxRecDepth 20000 in
theorem ggX6_findDuties_X6_canBeGiven : GoodIn wsX6_findDuties wsX6_canBeGiven := goodIn_r _ [17, 18, 19, 20, 9, 21, 22, 23, 24, 6, 7, 8, 10, 5, 11, 12, 13, 29, 30, 31, 32, 33, 34, 35, 36, 37, 38, 39, 40, 41, 42, 43, 44, 45, 46, 47, 48, 49, 50, 51] (by decide +kernel) (by decide +kernel)
set_option maxRecDepth 20000 in
theorem gX6_findDuties_X6_canBeGiven : GoodIn wsX6_findDuties (wsV RX6 131 RX6 yX6_canBeGiven wsX6_canBeGiven) := goodIn_app (goodIn_of _ (by decide +kernel)) ggX6_findDuties_X6_canBeGiven
set_option maxRecDepth 20000 in
theorem ggX6_findDuties_X6_pointsOf : GoodIn wsX6_findDuties wsX6_pointsOf := goodIn_r _ [28, 2, 5, 29, 30, 31, 32, 33, 34, 35, 36, 37, 38, 39, 40, 41, 42, 43, 44, 45, 46, 47, 48, 49, 50, 51] (by decide +kernel) (by decide +kernel)
set_option maxRecDepth 20000 in
theorem gX6_findDuties_X6_pointsOf : GoodIn wsX6_findDuties (wsV RX6 134 RX6 yX6_pointsOf wsX6_pointsOf) := goodIn_app (goodIn_of _ (by decide +kernel)) ggX6_findDuties_X6_pointsOf
theorem dX6_findDuties_0 : decode cX6_findDuties 0 = .ok (.aload_n 0, 1) := by decide +kernel
theorem dX6_findDuties_1 : decode cX6_findDuties 1 = .ok (.iconst 0, 1) := by decide +kernel
theorem dX6_findDuties_2 : decode cX6_findDuties 2 = .ok (.putfield 53, 3) := by decide +kernel
theorem dX6_findDuties_5 : decode cX6_findDuties 5 = .ok (.iconst 5, 1) := by decide +kernel
theorem dX6_findDuties_6 : decode cX6_findDuties 6 = .ok (.newarray .int, 2) := by decide +kernel
theorem dX6_findDuties_8 : decode cX6_findDuties 8 = .ok (.dup, 1) := by decide +kernel
theorem dX6_findDuties_9 : decode cX6_findDuties 9 = .ok (.iconst 0, 1) := by decide +kernel
theorem dX6_findDuties_10 : decode cX6_findDuties 10 = .ok (.iconst 4, 1) := by decide +kernel
theorem dX6_findDuties_11 : decode cX6_findDuties 11 = .ok (.iastore, 1) := by decide +kernel
theorem dX6_findDuties_12 : decode cX6_findDuties 12 = .ok (.dup, 1) := by decide +kernel
theorem dX6_findDuties_13 : decode cX6_findDuties 13 = .ok (.iconst 1, 1) := by decide +kernel
theorem dX6_findDuties_14 : decode cX6_findDuties 14 = .ok (.iconst 2, 1) := by decide +kernel
theorem dX6_findDuties_15 : decode cX6_findDuties 15 = .ok (.iastore, 1) := by decide +kernel
theorem dX6_findDuties_16 : decode cX6_findDuties 16 = .ok (.dup, 1) := by decide +kernel
theorem dX6_findDuties_17 : decode cX6_findDuties 17 = .ok (.iconst 2, 1) := by decide +kernel
theorem dX6_findDuties_18 : decode cX6_findDuties 18 = .ok (.iconst 1, 1) := by decide +kernel
theorem dX6_findDuties_19 : decode cX6_findDuties 19 = .ok (.iastore, 1) := by decide +kernel
theorem dX6_findDuties_20 : decode cX6_findDuties 20 = .ok (.dup, 1) := by decide +kernel
theorem dX6_findDuties_21 : decode cX6_findDuties 21 = .ok (.iconst 3, 1) := by decide +kernel
theorem dX6_findDuties_22 : decode cX6_findDuties 22 = .ok (.iconst 0, 1) := by decide +kernel
theorem dX6_findDuties_23 : decode cX6_findDuties 23 = .ok (.iastore, 1) := by decide +kernel
theorem dX6_findDuties_24 : decode cX6_findDuties 24 = .ok (.dup, 1) := by decide +kernel
theorem dX6_findDuties_25 : decode cX6_findDuties 25 = .ok (.iconst 4, 1) := by decide +kernel
theorem dX6_findDuties_26 : decode cX6_findDuties 26 = .ok (.iconst 3, 1) := by decide +kernel
theorem dX6_findDuties_27 : decode cX6_findDuties 27 = .ok (.iastore, 1) := by decide +kernel
theorem dX6_findDuties_28 : decode cX6_findDuties 28 = .ok (.astore_n 1, 1) := by decide +kernel
theorem dX6_findDuties_29 : decode cX6_findDuties 29 = .ok (.iconst 0, 1) := by decide +kernel
theorem dX6_findDuties_30 : decode cX6_findDuties 30 = .ok (.istore_n 2, 1) := by decide +kernel
theorem dX6_findDuties_31 : decode cX6_findDuties 31 = .ok (.aload_n 1, 1) := by decide +kernel
theorem dX6_findDuties_32 : decode cX6_findDuties 32 = .ok (.astore_n 3, 1) := by decide +kernel
theorem dX6_findDuties_33 : decode cX6_findDuties 33 = .ok (.aload_n 3, 1) := by decide +kernel
theorem dX6_findDuties_34 : decode cX6_findDuties 34 = .ok (.arraylength, 1) := by decide +kernel
theorem dX6_findDuties_35 : decode cX6_findDuties 35 = .ok (.istore 4, 2) := by decide +kernel
theorem dX6_findDuties_37 : decode cX6_findDuties 37 = .ok (.iconst 0, 1) := by decide +kernel
theorem dX6_findDuties_38 : decode cX6_findDuties 38 = .ok (.istore 5, 2) := by decide +kernel
theorem dX6_findDuties_40 : decode cX6_findDuties 40 = .ok (.iload 5, 2) := by decide +kernel
theorem dX6_findDuties_42 : decode cX6_findDuties 42 = .ok (.iload 4, 2) := by decide +kernel
theorem dX6_findDuties_44 : decode cX6_findDuties 44 = .ok (.if_icmp .ge 123, 3) := by decide +kernel
theorem dX6_findDuties_47 : decode cX6_findDuties 47 = .ok (.aload_n 3, 1) := by decide +kernel
theorem dX6_findDuties_48 : decode cX6_findDuties 48 = .ok (.iload 5, 2) := by decide +kernel
theorem dX6_findDuties_50 : decode cX6_findDuties 50 = .ok (.iaload, 1) := by decide +kernel
theorem dX6_findDuties_51 : decode cX6_findDuties 51 = .ok (.istore 6, 2) := by decide +kernel
theorem dX6_findDuties_53 : decode cX6_findDuties 53 = .ok (.aload_n 0, 1) := by decide +kernel
theorem dX6_findDuties_54 : decode cX6_findDuties 54 = .ok (.aload_n 0, 1) := by decide +kernel
theorem dX6_findDuties_55 : decode cX6_findDuties 55 = .ok (.getfield 128, 3) := by decide +kernel
theorem dX6_findDuties_58 : decode cX6_findDuties 58 = .ok (.iload 6, 2) := by decide +kernel
theorem dX6_findDuties_60 : decode cX6_findDuties 60 = .ok (.invokevirtual 125, 3) := by decide +kernel
theorem dX6_findDuties_63 : decode cX6_findDuties 63 = .ok (.iconst (-1), 1) := by decide +kernel
theorem dX6_findDuties_64 : decode cX6_findDuties 64 = .ok (.if_icmp .eq 6, 3) := by decide +kernel
theorem dX6_findDuties_67 : decode cX6_findDuties 67 = .ok (.goto 94, 3) := by decide +kernel
theorem dX6_findDuties_70 : decode cX6_findDuties 70 = .ok (.iconst (-1), 1) := by decide +kernel
theorem dX6_findDuties_71 : decode cX6_findDuties 71 = .ok (.istore 7, 2) := by decide +kernel
theorem dX6_findDuties_73 : decode cX6_findDuties 73 = .ok (.iconst 0, 1) := by decide +kernel
theorem dX6_findDuties_74 : decode cX6_findDuties 74 = .ok (.istore 8, 2) := by decide +kernel
theorem dX6_findDuties_76 : decode cX6_findDuties 76 = .ok (.iload 8, 2) := by decide +kernel
theorem dX6_findDuties_78 : decode cX6_findDuties 78 = .ok (.aload_n 0, 1) := by decide +kernel
theorem dX6_findDuties_79 : decode cX6_findDuties 79 = .ok (.getfield 57, 3) := by decide +kernel
theorem dX6_findDuties_82 : decode cX6_findDuties 82 = .ok (.if_icmp .ge 49, 3) := by decide +kernel
theorem dX6_findDuties_85 : decode cX6_findDuties 85 = .ok (.aload_n 0, 1) := by decide +kernel
theorem dX6_findDuties_86 : decode cX6_findDuties 86 = .ok (.aload_n 0, 1) := by decide +kernel
theorem dX6_findDuties_87 : decode cX6_findDuties 87 = .ok (.getfield 128, 3) := by decide +kernel
theorem dX6_findDuties_90 : decode cX6_findDuties 90 = .ok (.iload 6, 2) := by decide +kernel
theorem dX6_findDuties_92 : decode cX6_findDuties 92 = .ok (.iload 8, 2) := by decide +kernel
theorem dX6_findDuties_94 : decode cX6_findDuties 94 = .ok (.invokevirtual 131, 3) := by decide +kernel
theorem dX6_findDuties_97 : decode cX6_findDuties 97 = .ok (.ifCond .eq 28, 3) := by decide +kernel
theorem dX6_findDuties_100 : decode cX6_findDuties 100 = .ok (.iload 7, 2) := by decide +kernel
theorem dX6_findDuties_102 : decode cX6_findDuties 102 = .ok (.iconst (-1), 1) := by decide +kernel
theorem dX6_findDuties_103 : decode cX6_findDuties 103 = .ok (.if_icmp .eq 18, 3) := by decide +kernel
theorem dX6_findDuties_106 : decode cX6_findDuties 106 = .ok (.aload_n 0, 1) := by decide +kernel
theorem dX6_findDuties_107 : decode cX6_findDuties 107 = .ok (.iload 8, 2) := by decide +kernel
theorem dX6_findDuties_109 : decode cX6_findDuties 109 = .ok (.invokevirtual 134, 3) := by decide +kernel
theorem dX6_findDuties_112 : decode cX6_findDuties 112 = .ok (.aload_n 0, 1) := by decide +kernel
theorem dX6_findDuties_113 : decode cX6_findDuties 113 = .ok (.iload 7, 2) := by decide +kernel
theorem dX6_findDuties_115 : decode cX6_findDuties 115 = .ok (.invokevirtual 134, 3) := by decide +kernel
theorem dX6_findDuties_118 : decode cX6_findDuties 118 = .ok (.if_icmp .ge 7, 3) := by decide +kernel
theorem dX6_findDuties_121 : decode cX6_findDuties 121 = .ok (.iload 8, 2) := by decide +kernel
theorem dX6_findDuties_123 : decode cX6_findDuties 123 = .ok (.istore 7, 2) := by decide +kernel
theorem dX6_findDuties_125 : decode cX6_findDuties 125 = .ok (.iinc 8 1, 3) := by decide +kernel
theorem dX6_findDuties_128 : decode cX6_findDuties 128 = .ok (.goto (-52), 3) := by decide +kernel
theorem dX6_findDuties_131 : decode cX6_findDuties 131 = .ok (.aload_n 0, 1) := by decide +kernel
theorem dX6_findDuties_132 : decode cX6_findDuties 132 = .ok (.getfield 38, 3) := by decide +kernel
theorem dX6_findDuties_135 : decode cX6_findDuties 135 = .ok (.iconst 5, 1) := by decide +kernel
theorem dX6_findDuties_136 : decode cX6_findDuties 136 = .ok (.aload_n 0, 1) := by decide +kernel
theorem dX6_findDuties_137 : decode cX6_findDuties 137 = .ok (.getfield 128, 3) := by decide +kernel
theorem dX6_findDuties_140 : decode cX6_findDuties 140 = .ok (.imul, 1) := by decide +kernel
theorem dX6_findDuties_141 : decode cX6_findDuties 141 = .ok (.iload 6, 2) := by decide +kernel
theorem dX6_findDuties_143 : decode cX6_findDuties 143 = .ok (.iadd, 1) := by decide +kernel
theorem dX6_findDuties_144 : decode cX6_findDuties 144 = .ok (.iload 7, 2) := by decide +kernel
theorem dX6_findDuties_146 : decode cX6_findDuties 146 = .ok (.iastore, 1) := by decide +kernel
theorem dX6_findDuties_147 : decode cX6_findDuties 147 = .ok (.iload_n 2, 1) := by decide +kernel
theorem dX6_findDuties_148 : decode cX6_findDuties 148 = .ok (.iload 7, 2) := by decide +kernel
theorem dX6_findDuties_150 : decode cX6_findDuties 150 = .ok (.iconst (-1), 1) := by decide +kernel
theorem dX6_findDuties_151 : decode cX6_findDuties 151 = .ok (.if_icmp .ne 7, 3) := by decide +kernel
theorem dX6_findDuties_154 : decode cX6_findDuties 154 = .ok (.iconst 1, 1) := by decide +kernel
theorem dX6_findDuties_155 : decode cX6_findDuties 155 = .ok (.goto 4, 3) := by decide +kernel
theorem dX6_findDuties_158 : decode cX6_findDuties 158 = .ok (.iconst 0, 1) := by decide +kernel
theorem dX6_findDuties_159 : decode cX6_findDuties 159 = .ok (.iadd, 1) := by decide +kernel
theorem dX6_findDuties_160 : decode cX6_findDuties 160 = .ok (.istore_n 2, 1) := by decide +kernel
theorem dX6_findDuties_161 : decode cX6_findDuties 161 = .ok (.iinc 5 1, 3) := by decide +kernel
theorem dX6_findDuties_164 : decode cX6_findDuties 164 = .ok (.goto (-124), 3) := by decide +kernel
theorem dX6_findDuties_167 : decode cX6_findDuties 167 = .ok (.iload_n 2, 1) := by decide +kernel
theorem dX6_findDuties_168 : decode cX6_findDuties 168 = .ok (.ireturn, 1) := by decide +kernel
set_option maxRecDepth 20000 in
theorem ggX6_addFood_X6_isIn : GoodIn wsX6_addFood wsX6_isIn := goodIn_r _ [7] (by decide +kernel) (by decide +kernel)
set_option maxRecDepth 20000 in
theorem gX6_addFood_X6_isIn : GoodIn wsX6_addFood (va_wsS RX6 60 yX6_isIn wsX6_isIn) := goodIn_app (goodIn_of _ (by decide +kernel)) ggX6_addFood_X6_isIn
set_option maxRecDepth 20000 in
theorem ggX6_addFood_X6_no : GoodIn wsX6_addFood wsX6_no := goodIn_r _ [11, 1, 12, 13, 14, 15, 16, 17, 18, 19, 20, 21, 22, 23, 24, 25, 26, 27, 28, 29, 30, 31, 32, 33, 34] (by decide +kernel) (by decide +kernel)
set_option maxRecDepth 20000 in
theorem gX6_addFood_X6_no : GoodIn wsX6_addFood (wsV RX6 79 RX6 yX6_no wsX6_no) := goodIn_app (goodIn_of _ (by decide +kernel)) ggX6_addFood_X6_no
theorem dX6_addFood_0 : decode cX6_addFood 0 = .ok (.aload_n 0, 1) := by decide +kernel
theorem dX6_addFood_1 : decode cX6_addFood 1 = .ok (.iconst 0, 1) := by decide +kernel
theorem dX6_addFood_2 : decode cX6_addFood 2 = .ok (.putfield 53, 3) := by decide +kernel
theorem dX6_addFood_5 : decode cX6_addFood 5 = .ok (.iload_n 1, 1) := by decide +kernel
theorem dX6_addFood_6 : decode cX6_addFood 6 = .ok (.iconst 0, 1) := by decide +kernel
theorem dX6_addFood_7 : decode cX6_addFood 7 = .ok (.sipush 10000, 3) := by decide +kernel
theorem dX6_addFood_10 : decode cX6_addFood 10 = .ok (.invokestatic 60, 3) := by decide +kernel
theorem dX6_addFood_13 : decode cX6_addFood 13 = .ok (.ifCond .ne 9, 3) := by decide +kernel
theorem dX6_addFood_16 : decode cX6_addFood 16 = .ok (.aload_n 0, 1) := by decide +kernel
theorem dX6_addFood_17 : decode cX6_addFood 17 = .ok (.iconst 1, 1) := by decide +kernel
theorem dX6_addFood_18 : decode cX6_addFood 18 = .ok (.invokevirtual 79, 3) := by decide +kernel
theorem dX6_addFood_21 : decode cX6_addFood 21 = .ok (.ireturn, 1) := by decide +kernel
theorem dX6_addFood_22 : decode cX6_addFood 22 = .ok (.aload_n 0, 1) := by decide +kernel
theorem dX6_addFood_23 : decode cX6_addFood 23 = .ok (.getfield 70, 3) := by decide +kernel
theorem dX6_addFood_26 : decode cX6_addFood 26 = .ok (.bipush 12, 2) := by decide +kernel
theorem dX6_addFood_28 : decode cX6_addFood 28 = .ok (.if_icmp .ne 9, 3) := by decide +kernel
theorem dX6_addFood_31 : decode cX6_addFood 31 = .ok (.aload_n 0, 1) := by decide +kernel
theorem dX6_addFood_32 : decode cX6_addFood 32 = .ok (.iconst 2, 1) := by decide +kernel
theorem dX6_addFood_33 : decode cX6_addFood 33 = .ok (.invokevirtual 79, 3) := by decide +kernel
theorem dX6_addFood_36 : decode cX6_addFood 36 = .ok (.ireturn, 1) := by decide +kernel
theorem dX6_addFood_37 : decode cX6_addFood 37 = .ok (.aload_n 0, 1) := by decide +kernel
theorem dX6_addFood_38 : decode cX6_addFood 38 = .ok (.getfield 41, 3) := by decide +kernel
theorem dX6_addFood_41 : decode cX6_addFood 41 = .ok (.aload_n 0, 1) := by decide +kernel
theorem dX6_addFood_42 : decode cX6_addFood 42 = .ok (.getfield 70, 3) := by decide +kernel
theorem dX6_addFood_45 : decode cX6_addFood 45 = .ok (.iload_n 1, 1) := by decide +kernel
theorem dX6_addFood_46 : decode cX6_addFood 46 = .ok (.iastore, 1) := by decide +kernel
theorem dX6_addFood_47 : decode cX6_addFood 47 = .ok (.aload_n 0, 1) := by decide +kernel
theorem dX6_addFood_48 : decode cX6_addFood 48 = .ok (.dup, 1) := by decide +kernel
theorem dX6_addFood_49 : decode cX6_addFood 49 = .ok (.getfield 70, 3) := by decide +kernel
theorem dX6_addFood_52 : decode cX6_addFood 52 = .ok (.iconst 1, 1) := by decide +kernel
theorem dX6_addFood_53 : decode cX6_addFood 53 = .ok (.iadd, 1) := by decide +kernel
theorem dX6_addFood_54 : decode cX6_addFood 54 = .ok (.putfield 70, 3) := by decide +kernel
theorem dX6_addFood_57 : decode cX6_addFood 57 = .ok (.aload_n 0, 1) := by decide +kernel
theorem dX6_addFood_58 : decode cX6_addFood 58 = .ok (.getfield 70, 3) := by decide +kernel
theorem dX6_addFood_61 : decode cX6_addFood 61 = .ok (.iconst 1, 1) := by decide +kernel
theorem dX6_addFood_62 : decode cX6_addFood 62 = .ok (.isub, 1) := by decide +kernel
theorem dX6_addFood_63 : decode cX6_addFood 63 = .ok (.ireturn, 1) := by decide +kernel
set_option maxRecDepth 20000 in
theorem ggX6_buy_X6_isFood : GoodIn wsX6_buy wsX6_isFood := goodIn_r _ [7, 8, 9, 10, 6, 11, 16, 17, 18, 19, 20, 21, 22, 23, 24, 25, 26, 27, 28, 29, 30, 31, 32, 33, 34, 35, 36, 37, 38] (by decide +kernel) (by decide +kernel)
set_option maxRecDepth 20000 in
theorem gX6_buy_X6_isFood : GoodIn wsX6_buy (wsV RX6 137 RX6 yX6_isFood wsX6_isFood) := goodIn_app (goodIn_of _ (by decide +kernel)) ggX6_buy_X6_isFood
set_option maxRecDepth 20000 in
theorem ggX6_buy_X6_no : GoodIn wsX6_buy wsX6_no := goodIn_r _ [15, 1, 16, 17, 18, 19, 20, 21, 22, 23, 24, 25, 26, 27, 28, 29, 30, 31, 32, 33, 34, 35, 36, 37, 38] (by decide +kernel) (by decide +kernel)
set_option maxRecDepth 20000 in
theorem gX6_buy_X6_no : GoodIn wsX6_buy (wsV RX6 79 RX6 yX6_no wsX6_no) := goodIn_app (goodIn_of _ (by decide +kernel)) ggX6_buy_X6_no
set_option maxRecDepth 20000 in
theorem ggX6_buy_X6_isIn : GoodIn wsX6_buy wsX6_isIn := goodIn_r _ [11] (by decide +kernel) (by decide +kernel)
set_option maxRecDepth 20000 in
theorem gX6_buy_X6_isIn : GoodIn wsX6_buy (va_wsS RX6 60 yX6_isIn wsX6_isIn) := goodIn_app (goodIn_of _ (by decide +kernel)) ggX6_buy_X6_isIn
theorem dX6_buy_0 : decode cX6_buy 0 = .ok (.aload_n 0, 1) := by decide +kernel
theorem dX6_buy_1 : decode cX6_buy 1 = .ok (.iconst 0, 1) := by decide +kernel
theorem dX6_buy_2 : decode cX6_buy 2 = .ok (.putfield 53, 3) := by decide +kernel
theorem dX6_buy_5 : decode cX6_buy 5 = .ok (.aload_n 0, 1) := by decide +kernel
theorem dX6_buy_6 : decode cX6_buy 6 = .ok (.iload_n 1, 1) := by decide +kernel
theorem dX6_buy_7 : decode cX6_buy 7 = .ok (.invokevirtual 137, 3) := by decide +kernel
theorem dX6_buy_10 : decode cX6_buy 10 = .ok (.ifCond .ne 9, 3) := by decide +kernel
theorem dX6_buy_13 : decode cX6_buy 13 = .ok (.aload_n 0, 1) := by decide +kernel
theorem dX6_buy_14 : decode cX6_buy 14 = .ok (.iconst 1, 1) := by decide +kernel
theorem dX6_buy_15 : decode cX6_buy 15 = .ok (.invokevirtual 79, 3) := by decide +kernel
theorem dX6_buy_18 : decode cX6_buy 18 = .ok (.ireturn, 1) := by decide +kernel
theorem dX6_buy_19 : decode cX6_buy 19 = .ok (.iload_n 2, 1) := by decide +kernel
theorem dX6_buy_20 : decode cX6_buy 20 = .ok (.iconst 1, 1) := by decide +kernel
theorem dX6_buy_21 : decode cX6_buy 21 = .ok (.sipush 10000, 3) := by decide +kernel
theorem dX6_buy_24 : decode cX6_buy 24 = .ok (.invokestatic 60, 3) := by decide +kernel
theorem dX6_buy_27 : decode cX6_buy 27 = .ok (.ifCond .ne 9, 3) := by decide +kernel
theorem dX6_buy_30 : decode cX6_buy 30 = .ok (.aload_n 0, 1) := by decide +kernel
theorem dX6_buy_31 : decode cX6_buy 31 = .ok (.iconst 2, 1) := by decide +kernel
theorem dX6_buy_32 : decode cX6_buy 32 = .ok (.invokevirtual 79, 3) := by decide +kernel
theorem dX6_buy_35 : decode cX6_buy 35 = .ok (.ireturn, 1) := by decide +kernel
theorem dX6_buy_36 : decode cX6_buy 36 = .ok (.aload_n 0, 1) := by decide +kernel
theorem dX6_buy_37 : decode cX6_buy 37 = .ok (.getfield 41, 3) := by decide +kernel
theorem dX6_buy_40 : decode cX6_buy 40 = .ok (.iload_n 1, 1) := by decide +kernel
theorem dX6_buy_41 : decode cX6_buy 41 = .ok (.iaload, 1) := by decide +kernel
theorem dX6_buy_42 : decode cX6_buy 42 = .ok (.iload_n 2, 1) := by decide +kernel
theorem dX6_buy_43 : decode cX6_buy 43 = .ok (.iadd, 1) := by decide +kernel
theorem dX6_buy_44 : decode cX6_buy 44 = .ok (.sipush 10000, 3) := by decide +kernel
theorem dX6_buy_47 : decode cX6_buy 47 = .ok (.if_icmp .le 9, 3) := by decide +kernel
theorem dX6_buy_50 : decode cX6_buy 50 = .ok (.aload_n 0, 1) := by decide +kernel
theorem dX6_buy_51 : decode cX6_buy 51 = .ok (.iconst 3, 1) := by decide +kernel
theorem dX6_buy_52 : decode cX6_buy 52 = .ok (.invokevirtual 79, 3) := by decide +kernel
theorem dX6_buy_55 : decode cX6_buy 55 = .ok (.ireturn, 1) := by decide +kernel
theorem dX6_buy_56 : decode cX6_buy 56 = .ok (.aload_n 0, 1) := by decide +kernel
theorem dX6_buy_57 : decode cX6_buy 57 = .ok (.getfield 41, 3) := by decide +kernel
theorem dX6_buy_60 : decode cX6_buy 60 = .ok (.iload_n 1, 1) := by decide +kernel
theorem dX6_buy_61 : decode cX6_buy 61 = .ok (.dup2, 1) := by decide +kernel
theorem dX6_buy_62 : decode cX6_buy 62 = .ok (.iaload, 1) := by decide +kernel
theorem dX6_buy_63 : decode cX6_buy 63 = .ok (.iload_n 2, 1) := by decide +kernel
theorem dX6_buy_64 : decode cX6_buy 64 = .ok (.iadd, 1) := by decide +kernel
theorem dX6_buy_65 : decode cX6_buy 65 = .ok (.iastore, 1) := by decide +kernel
theorem dX6_buy_66 : decode cX6_buy 66 = .ok (.aload_n 0, 1) := by decide +kernel
theorem dX6_buy_67 : decode cX6_buy 67 = .ok (.getfield 41, 3) := by decide +kernel
theorem dX6_buy_70 : decode cX6_buy 70 = .ok (.iload_n 1, 1) := by decide +kernel
theorem dX6_buy_71 : decode cX6_buy 71 = .ok (.iaload, 1) := by decide +kernel
theorem dX6_buy_72 : decode cX6_buy 72 = .ok (.ireturn, 1) := by decide +kernel
set_option maxRecDepth 20000 in
theorem ggX6_store_X6_isFood : GoodIn wsX6_store wsX6_isFood := goodIn_r _ [7, 8, 9, 10, 6, 11, 16, 17, 18, 19, 20, 21, 22, 23, 24, 25, 26, 27, 28, 29, 30, 31, 32, 33, 34, 35, 36, 37, 38] (by decide +kernel) (by decide +kernel)
set_option maxRecDepth 20000 in
theorem gX6_store_X6_isFood : GoodIn wsX6_store (wsV RX6 137 RX6 yX6_isFood wsX6_isFood) := goodIn_app (goodIn_of _ (by decide +kernel)) ggX6_store_X6_isFood
set_option maxRecDepth 20000 in
theorem ggX6_store_X6_no : GoodIn wsX6_store wsX6_no := goodIn_r _ [15, 1, 16, 17, 18, 19, 20, 21, 22, 23, 24, 25, 26, 27, 28, 29, 30, 31, 32, 33, 34, 35, 36, 37, 38] (by decide +kernel) (by decide +kernel)
set_option maxRecDepth 20000 in
theorem gX6_store_X6_no : GoodIn wsX6_store (wsV RX6 79 RX6 yX6_no wsX6_no) := goodIn_app (goodIn_of _ (by decide +kernel)) ggX6_store_X6_no
theorem dX6_store_0 : decode cX6_store 0 = .ok (.aload_n 0, 1) := by decide +kernel
theorem dX6_store_1 : decode cX6_store 1 = .ok (.iconst 0, 1) := by decide +kernel
theorem dX6_store_2 : decode cX6_store 2 = .ok (.putfield 53, 3) := by decide +kernel
theorem dX6_store_5 : decode cX6_store 5 = .ok (.aload_n 0, 1) := by decide +kernel
theorem dX6_store_6 : decode cX6_store 6 = .ok (.iload_n 1, 1) := by decide +kernel
theorem dX6_store_7 : decode cX6_store 7 = .ok (.invokevirtual 137, 3) := by decide +kernel
theorem dX6_store_10 : decode cX6_store 10 = .ok (.ifCond .eq 12, 3) := by decide +kernel
theorem dX6_store_13 : decode cX6_store 13 = .ok (.aload_n 0, 1) := by decide +kernel
theorem dX6_store_14 : decode cX6_store 14 = .ok (.getfield 41, 3) := by decide +kernel
theorem dX6_store_17 : decode cX6_store 17 = .ok (.iload_n 1, 1) := by decide +kernel
theorem dX6_store_18 : decode cX6_store 18 = .ok (.iaload, 1) := by decide +kernel
theorem dX6_store_19 : decode cX6_store 19 = .ok (.goto 8, 3) := by decide +kernel
theorem dX6_store_22 : decode cX6_store 22 = .ok (.aload_n 0, 1) := by decide +kernel
theorem dX6_store_23 : decode cX6_store 23 = .ok (.iconst 1, 1) := by decide +kernel
theorem dX6_store_24 : decode cX6_store 24 = .ok (.invokevirtual 79, 3) := by decide +kernel
theorem dX6_store_27 : decode cX6_store 27 = .ok (.ireturn, 1) := by decide +kernel
set_option maxRecDepth 20000 in
theorem ggX6_diet_X6_isScout : GoodIn wsX6_diet wsX6_isScout := goodIn_r _ [7, 8, 9, 10, 6, 11, 17, 18, 19, 20, 21, 22, 23, 24, 25, 26, 27, 28, 29, 30, 31, 32, 33, 34, 35, 36, 37, 38, 39] (by decide +kernel) (by decide +kernel)
set_option maxRecDepth 20000 in
theorem gX6_diet_X6_isScout : GoodIn wsX6_diet (wsV RX6 90 RX6 yX6_isScout wsX6_isScout) := goodIn_app (goodIn_of _ (by decide +kernel)) ggX6_diet_X6_isScout
set_option maxRecDepth 20000 in
theorem ggX6_diet_X6_isFood : GoodIn wsX6_diet wsX6_isFood := goodIn_r _ [15, 16, 9, 10, 6, 11, 17, 18, 19, 20, 21, 22, 23, 24, 25, 26, 27, 28, 29, 30, 31, 32, 33, 34, 35, 36, 37, 38, 39] (by decide +kernel) (by decide +kernel)
set_option maxRecDepth 20000 in
theorem gX6_diet_X6_isFood : GoodIn wsX6_diet (wsV RX6 137 RX6 yX6_isFood wsX6_isFood) := goodIn_app (goodIn_of _ (by decide +kernel)) ggX6_diet_X6_isFood
theorem dX6_diet_0 : decode cX6_diet 0 = .ok (.aload_n 0, 1) := by decide +kernel
theorem dX6_diet_1 : decode cX6_diet 1 = .ok (.aload_n 0, 1) := by decide +kernel
theorem dX6_diet_2 : decode cX6_diet 2 = .ok (.iload_n 1, 1) := by decide +kernel
end
section
theorem dX6_diet_3 : decode cX6_diet 3 = .ok (.invokevirtual 90, 3) := by decide +kernel
theorem dX6_diet_6 : decode cX6_diet 6 = .ok (.ifCond .eq 15, 3) := by decide +kernel
theorem dX6_diet_9 : decode cX6_diet 9 = .ok (.aload_n 0, 1) := by decide +kernel
theorem dX6_diet_10 : decode cX6_diet 10 = .ok (.iload_n 2, 1) := by decide +kernel
theorem dX6_diet_11 : decode cX6_diet 11 = .ok (.invokevirtual 137, 3) := by decide +kernel
theorem dX6_diet_14 : decode cX6_diet 14 = .ok (.ifCond .eq 7, 3) := by decide +kernel
theorem dX6_diet_17 : decode cX6_diet 17 = .ok (.iconst 0, 1) := by decide +kernel
theorem dX6_diet_18 : decode cX6_diet 18 = .ok (.goto 4, 3) := by decide +kernel
theorem dX6_diet_21 : decode cX6_diet 21 = .ok (.iconst 1, 1) := by decide +kernel
theorem dX6_diet_22 : decode cX6_diet 22 = .ok (.putfield 53, 3) := by decide +kernel
theorem dX6_diet_25 : decode cX6_diet 25 = .ok (.aload_n 0, 1) := by decide +kernel
theorem dX6_diet_26 : decode cX6_diet 26 = .ok (.getfield 53, 3) := by decide +kernel
theorem dX6_diet_29 : decode cX6_diet 29 = .ok (.ifCond .eq 5, 3) := by decide +kernel
theorem dX6_diet_32 : decode cX6_diet 32 = .ok (.iconst 0, 1) := by decide +kernel
theorem dX6_diet_33 : decode cX6_diet 33 = .ok (.ireturn, 1) := by decide +kernel
theorem dX6_diet_34 : decode cX6_diet 34 = .ok (.aload_n 0, 1) := by decide +kernel
theorem dX6_diet_35 : decode cX6_diet 35 = .ok (.getfield 19, 3) := by decide +kernel
theorem dX6_diet_38 : decode cX6_diet 38 = .ok (.iload_n 1, 1) := by decide +kernel
theorem dX6_diet_39 : decode cX6_diet 39 = .ok (.iaload, 1) := by decide +kernel
theorem dX6_diet_40 : decode cX6_diet 40 = .ok (.iload_n 2, 1) := by decide +kernel
theorem dX6_diet_41 : decode cX6_diet 41 = .ok (.ishr, 1) := by decide +kernel
theorem dX6_diet_42 : decode cX6_diet 42 = .ok (.iconst 1, 1) := by decide +kernel
theorem dX6_diet_43 : decode cX6_diet 43 = .ok (.iand, 1) := by decide +kernel
theorem dX6_diet_44 : decode cX6_diet 44 = .ok (.ifCond .ne 7, 3) := by decide +kernel
theorem dX6_diet_47 : decode cX6_diet 47 = .ok (.iconst 1, 1) := by decide +kernel
theorem dX6_diet_48 : decode cX6_diet 48 = .ok (.goto 4, 3) := by decide +kernel
theorem dX6_diet_51 : decode cX6_diet 51 = .ok (.iconst 0, 1) := by decide +kernel
theorem dX6_diet_52 : decode cX6_diet 52 = .ok (.istore 4, 2) := by decide +kernel
theorem dX6_diet_54 : decode cX6_diet 54 = .ok (.aload_n 0, 1) := by decide +kernel
theorem dX6_diet_55 : decode cX6_diet 55 = .ok (.getfield 19, 3) := by decide +kernel
theorem dX6_diet_58 : decode cX6_diet 58 = .ok (.iload_n 1, 1) := by decide +kernel
theorem dX6_diet_59 : decode cX6_diet 59 = .ok (.iload_n 3, 1) := by decide +kernel
theorem dX6_diet_60 : decode cX6_diet 60 = .ok (.ifCond .eq 18, 3) := by decide +kernel
theorem dX6_diet_63 : decode cX6_diet 63 = .ok (.aload_n 0, 1) := by decide +kernel
theorem dX6_diet_64 : decode cX6_diet 64 = .ok (.getfield 19, 3) := by decide +kernel
theorem dX6_diet_67 : decode cX6_diet 67 = .ok (.iload_n 1, 1) := by decide +kernel
theorem dX6_diet_68 : decode cX6_diet 68 = .ok (.iaload, 1) := by decide +kernel
theorem dX6_diet_69 : decode cX6_diet 69 = .ok (.iconst 1, 1) := by decide +kernel
theorem dX6_diet_70 : decode cX6_diet 70 = .ok (.iload_n 2, 1) := by decide +kernel
theorem dX6_diet_71 : decode cX6_diet 71 = .ok (.ishl, 1) := by decide +kernel
theorem dX6_diet_72 : decode cX6_diet 72 = .ok (.iconst (-1), 1) := by decide +kernel
theorem dX6_diet_73 : decode cX6_diet 73 = .ok (.ixor, 1) := by decide +kernel
theorem dX6_diet_74 : decode cX6_diet 74 = .ok (.iand, 1) := by decide +kernel
theorem dX6_diet_75 : decode cX6_diet 75 = .ok (.goto 13, 3) := by decide +kernel
theorem dX6_diet_78 : decode cX6_diet 78 = .ok (.aload_n 0, 1) := by decide +kernel
theorem dX6_diet_79 : decode cX6_diet 79 = .ok (.getfield 19, 3) := by decide +kernel
theorem dX6_diet_82 : decode cX6_diet 82 = .ok (.iload_n 1, 1) := by decide +kernel
theorem dX6_diet_83 : decode cX6_diet 83 = .ok (.iaload, 1) := by decide +kernel
theorem dX6_diet_84 : decode cX6_diet 84 = .ok (.iconst 1, 1) := by decide +kernel
theorem dX6_diet_85 : decode cX6_diet 85 = .ok (.iload_n 2, 1) := by decide +kernel
theorem dX6_diet_86 : decode cX6_diet 86 = .ok (.ishl, 1) := by decide +kernel
theorem dX6_diet_87 : decode cX6_diet 87 = .ok (.ior, 1) := by decide +kernel
theorem dX6_diet_88 : decode cX6_diet 88 = .ok (.iastore, 1) := by decide +kernel
theorem dX6_diet_89 : decode cX6_diet 89 = .ok (.iload 4, 2) := by decide +kernel
theorem dX6_diet_91 : decode cX6_diet 91 = .ok (.ireturn, 1) := by decide +kernel
set_option maxRecDepth 20000 in
theorem ggX6_addMeal_X6_no : GoodIn wsX6_addMeal wsX6_no := goodIn_r _ [7, 1, 8, 9, 10, 11, 12, 13, 14, 15, 16, 17, 18, 19, 20, 21, 22, 23, 24, 25, 26, 27, 28, 29, 30] (by decide +kernel) (by decide +kernel)
set_option maxRecDepth 20000 in
theorem gX6_addMeal_X6_no : GoodIn wsX6_addMeal (wsV RX6 79 RX6 yX6_no wsX6_no) := goodIn_app (goodIn_of _ (by decide +kernel)) ggX6_addMeal_X6_no
theorem dX6_addMeal_0 : decode cX6_addMeal 0 = .ok (.aload_n 0, 1) := by decide +kernel
theorem dX6_addMeal_1 : decode cX6_addMeal 1 = .ok (.iconst 0, 1) := by decide +kernel
theorem dX6_addMeal_2 : decode cX6_addMeal 2 = .ok (.putfield 53, 3) := by decide +kernel
theorem dX6_addMeal_5 : decode cX6_addMeal 5 = .ok (.aload_n 0, 1) := by decide +kernel
theorem dX6_addMeal_6 : decode cX6_addMeal 6 = .ok (.getfield 73, 3) := by decide +kernel
theorem dX6_addMeal_9 : decode cX6_addMeal 9 = .ok (.bipush 10, 2) := by decide +kernel
theorem dX6_addMeal_11 : decode cX6_addMeal 11 = .ok (.if_icmp .ne 9, 3) := by decide +kernel
theorem dX6_addMeal_14 : decode cX6_addMeal 14 = .ok (.aload_n 0, 1) := by decide +kernel
theorem dX6_addMeal_15 : decode cX6_addMeal 15 = .ok (.iconst 1, 1) := by decide +kernel
theorem dX6_addMeal_16 : decode cX6_addMeal 16 = .ok (.invokevirtual 79, 3) := by decide +kernel
theorem dX6_addMeal_19 : decode cX6_addMeal 19 = .ok (.ireturn, 1) := by decide +kernel
theorem dX6_addMeal_20 : decode cX6_addMeal 20 = .ok (.aload_n 0, 1) := by decide +kernel
theorem dX6_addMeal_21 : decode cX6_addMeal 21 = .ok (.dup, 1) := by decide +kernel
theorem dX6_addMeal_22 : decode cX6_addMeal 22 = .ok (.getfield 73, 3) := by decide +kernel
theorem dX6_addMeal_25 : decode cX6_addMeal 25 = .ok (.iconst 1, 1) := by decide +kernel
theorem dX6_addMeal_26 : decode cX6_addMeal 26 = .ok (.iadd, 1) := by decide +kernel
theorem dX6_addMeal_27 : decode cX6_addMeal 27 = .ok (.putfield 73, 3) := by decide +kernel
theorem dX6_addMeal_30 : decode cX6_addMeal 30 = .ok (.aload_n 0, 1) := by decide +kernel
theorem dX6_addMeal_31 : decode cX6_addMeal 31 = .ok (.getfield 73, 3) := by decide +kernel
theorem dX6_addMeal_34 : decode cX6_addMeal 34 = .ok (.iconst 1, 1) := by decide +kernel
theorem dX6_addMeal_35 : decode cX6_addMeal 35 = .ok (.isub, 1) := by decide +kernel
theorem dX6_addMeal_36 : decode cX6_addMeal 36 = .ok (.ireturn, 1) := by decide +kernel
set_option maxRecDepth 20000 in
theorem ggX6_need_X6_isMeal : GoodIn wsX6_need wsX6_isMeal := goodIn_r _ [7, 8, 9, 10, 6, 11, 21, 22, 23, 24, 25, 26, 27, 28, 29, 30, 31, 32, 33, 34, 35, 36, 37, 38, 39, 40, 41, 42, 43] (by decide +kernel) (by decide +kernel)
set_option maxRecDepth 20000 in
theorem gX6_need_X6_isMeal : GoodIn wsX6_need (wsV RX6 140 RX6 yX6_isMeal wsX6_isMeal) := goodIn_app (goodIn_of _ (by decide +kernel)) ggX6_need_X6_isMeal
set_option maxRecDepth 20000 in
theorem ggX6_need_X6_isFood : GoodIn wsX6_need wsX6_isFood := goodIn_r _ [15, 16, 9, 10, 6, 11, 21, 22, 23, 24, 25, 26, 27, 28, 29, 30, 31, 32, 33, 34, 35, 36, 37, 38, 39, 40, 41, 42, 43] (by decide +kernel) (by decide +kernel)
set_option maxRecDepth 20000 in
theorem gX6_need_X6_isFood : GoodIn wsX6_need (wsV RX6 137 RX6 yX6_isFood wsX6_isFood) := goodIn_app (goodIn_of _ (by decide +kernel)) ggX6_need_X6_isFood
set_option maxRecDepth 20000 in
theorem ggX6_need_X6_no : GoodIn wsX6_need wsX6_no := goodIn_r _ [20, 1, 21, 22, 23, 24, 25, 26, 27, 28, 29, 30, 31, 32, 33, 34, 35, 36, 37, 38, 39, 40, 41, 42, 43] (by decide +kernel) (by decide +kernel)
set_option maxRecDepth 20000 in
theorem gX6_need_X6_no : GoodIn wsX6_need (wsV RX6 79 RX6 yX6_no wsX6_no) := goodIn_app (goodIn_of _ (by decide +kernel)) ggX6_need_X6_no
set_option maxRecDepth 20000 in
theorem ggX6_need_X6_isIn : GoodIn wsX6_need wsX6_isIn := goodIn_r _ [11] (by decide +kernel) (by decide +kernel)
set_option maxRecDepth 20000 in
theorem gX6_need_X6_isIn : GoodIn wsX6_need (va_wsS RX6 60 yX6_isIn wsX6_isIn) := goodIn_app (goodIn_of _ (by decide +kernel)) ggX6_need_X6_isIn
theorem dX6_need_0 : decode cX6_need 0 = .ok (.aload_n 0, 1) := by decide +kernel
theorem dX6_need_1 : decode cX6_need 1 = .ok (.iconst 0, 1) := by decide +kernel
theorem dX6_need_2 : decode cX6_need 2 = .ok (.putfield 53, 3) := by decide +kernel
theorem dX6_need_5 : decode cX6_need 5 = .ok (.aload_n 0, 1) := by decide +kernel
theorem dX6_need_6 : decode cX6_need 6 = .ok (.iload_n 1, 1) := by decide +kernel
theorem dX6_need_7 : decode cX6_need 7 = .ok (.invokevirtual 140, 3) := by decide +kernel
theorem dX6_need_10 : decode cX6_need 10 = .ok (.ifCond .eq 11, 3) := by decide +kernel
theorem dX6_need_13 : decode cX6_need 13 = .ok (.aload_n 0, 1) := by decide +kernel
theorem dX6_need_14 : decode cX6_need 14 = .ok (.iload_n 2, 1) := by decide +kernel
theorem dX6_need_15 : decode cX6_need 15 = .ok (.invokevirtual 137, 3) := by decide +kernel
theorem dX6_need_18 : decode cX6_need 18 = .ok (.ifCond .ne 9, 3) := by decide +kernel
theorem dX6_need_21 : decode cX6_need 21 = .ok (.aload_n 0, 1) := by decide +kernel
theorem dX6_need_22 : decode cX6_need 22 = .ok (.iconst 1, 1) := by decide +kernel
theorem dX6_need_23 : decode cX6_need 23 = .ok (.invokevirtual 79, 3) := by decide +kernel
theorem dX6_need_26 : decode cX6_need 26 = .ok (.ireturn, 1) := by decide +kernel
theorem dX6_need_27 : decode cX6_need 27 = .ok (.iload_n 3, 1) := by decide +kernel
theorem dX6_need_28 : decode cX6_need 28 = .ok (.iconst 0, 1) := by decide +kernel
theorem dX6_need_29 : decode cX6_need 29 = .ok (.bipush 50, 2) := by decide +kernel
theorem dX6_need_31 : decode cX6_need 31 = .ok (.invokestatic 60, 3) := by decide +kernel
theorem dX6_need_34 : decode cX6_need 34 = .ok (.ifCond .ne 9, 3) := by decide +kernel
theorem dX6_need_37 : decode cX6_need 37 = .ok (.aload_n 0, 1) := by decide +kernel
theorem dX6_need_38 : decode cX6_need 38 = .ok (.iconst 2, 1) := by decide +kernel
theorem dX6_need_39 : decode cX6_need 39 = .ok (.invokevirtual 79, 3) := by decide +kernel
theorem dX6_need_42 : decode cX6_need 42 = .ok (.ireturn, 1) := by decide +kernel
theorem dX6_need_43 : decode cX6_need 43 = .ok (.aload_n 0, 1) := by decide +kernel
theorem dX6_need_44 : decode cX6_need 44 = .ok (.getfield 44, 3) := by decide +kernel
theorem dX6_need_47 : decode cX6_need 47 = .ok (.bipush 12, 2) := by decide +kernel
theorem dX6_need_49 : decode cX6_need 49 = .ok (.iload_n 1, 1) := by decide +kernel
theorem dX6_need_50 : decode cX6_need 50 = .ok (.imul, 1) := by decide +kernel
theorem dX6_need_51 : decode cX6_need 51 = .ok (.iload_n 2, 1) := by decide +kernel
theorem dX6_need_52 : decode cX6_need 52 = .ok (.iadd, 1) := by decide +kernel
theorem dX6_need_53 : decode cX6_need 53 = .ok (.iaload, 1) := by decide +kernel
theorem dX6_need_54 : decode cX6_need 54 = .ok (.istore 4, 2) := by decide +kernel
theorem dX6_need_56 : decode cX6_need 56 = .ok (.aload_n 0, 1) := by decide +kernel
theorem dX6_need_57 : decode cX6_need 57 = .ok (.getfield 44, 3) := by decide +kernel
theorem dX6_need_60 : decode cX6_need 60 = .ok (.bipush 12, 2) := by decide +kernel
theorem dX6_need_62 : decode cX6_need 62 = .ok (.iload_n 1, 1) := by decide +kernel
theorem dX6_need_63 : decode cX6_need 63 = .ok (.imul, 1) := by decide +kernel
theorem dX6_need_64 : decode cX6_need 64 = .ok (.iload_n 2, 1) := by decide +kernel
theorem dX6_need_65 : decode cX6_need 65 = .ok (.iadd, 1) := by decide +kernel
theorem dX6_need_66 : decode cX6_need 66 = .ok (.iload_n 3, 1) := by decide +kernel
theorem dX6_need_67 : decode cX6_need 67 = .ok (.iastore, 1) := by decide +kernel
theorem dX6_need_68 : decode cX6_need 68 = .ok (.iload 4, 2) := by decide +kernel
theorem dX6_need_70 : decode cX6_need 70 = .ok (.ireturn, 1) := by decide +kernel
theorem dX6_canEat_0 : decode cX6_canEat 0 = .ok (.iconst 1, 1) := by decide +kernel
theorem dX6_canEat_1 : decode cX6_canEat 1 = .ok (.istore_n 3, 1) := by decide +kernel
theorem dX6_canEat_2 : decode cX6_canEat 2 = .ok (.iconst 0, 1) := by decide +kernel
theorem dX6_canEat_3 : decode cX6_canEat 3 = .ok (.istore 4, 2) := by decide +kernel
theorem dX6_canEat_5 : decode cX6_canEat 5 = .ok (.iload 4, 2) := by decide +kernel
theorem dX6_canEat_7 : decode cX6_canEat 7 = .ok (.aload_n 0, 1) := by decide +kernel
theorem dX6_canEat_8 : decode cX6_canEat 8 = .ok (.getfield 70, 3) := by decide +kernel
theorem dX6_canEat_11 : decode cX6_canEat 11 = .ok (.if_icmp .ge 48, 3) := by decide +kernel
theorem dX6_canEat_14 : decode cX6_canEat 14 = .ok (.iload_n 3, 1) := by decide +kernel
theorem dX6_canEat_15 : decode cX6_canEat 15 = .ok (.ifCond .eq 36, 3) := by decide +kernel
theorem dX6_canEat_18 : decode cX6_canEat 18 = .ok (.aload_n 0, 1) := by decide +kernel
theorem dX6_canEat_19 : decode cX6_canEat 19 = .ok (.getfield 44, 3) := by decide +kernel
theorem dX6_canEat_22 : decode cX6_canEat 22 = .ok (.bipush 12, 2) := by decide +kernel
theorem dX6_canEat_24 : decode cX6_canEat 24 = .ok (.iload_n 2, 1) := by decide +kernel
theorem dX6_canEat_25 : decode cX6_canEat 25 = .ok (.imul, 1) := by decide +kernel
theorem dX6_canEat_26 : decode cX6_canEat 26 = .ok (.iload 4, 2) := by decide +kernel
theorem dX6_canEat_28 : decode cX6_canEat 28 = .ok (.iadd, 1) := by decide +kernel
theorem dX6_canEat_29 : decode cX6_canEat 29 = .ok (.iaload, 1) := by decide +kernel
theorem dX6_canEat_30 : decode cX6_canEat 30 = .ok (.ifCond .eq 17, 3) := by decide +kernel
theorem dX6_canEat_33 : decode cX6_canEat 33 = .ok (.aload_n 0, 1) := by decide +kernel
theorem dX6_canEat_34 : decode cX6_canEat 34 = .ok (.getfield 19, 3) := by decide +kernel
theorem dX6_canEat_37 : decode cX6_canEat 37 = .ok (.iload_n 1, 1) := by decide +kernel
theorem dX6_canEat_38 : decode cX6_canEat 38 = .ok (.iaload, 1) := by decide +kernel
theorem dX6_canEat_39 : decode cX6_canEat 39 = .ok (.iload 4, 2) := by decide +kernel
theorem dX6_canEat_41 : decode cX6_canEat 41 = .ok (.ishr, 1) := by decide +kernel
theorem dX6_canEat_42 : decode cX6_canEat 42 = .ok (.iconst 1, 1) := by decide +kernel
theorem dX6_canEat_43 : decode cX6_canEat 43 = .ok (.iand, 1) := by decide +kernel
theorem dX6_canEat_44 : decode cX6_canEat 44 = .ok (.ifCond .ne 7, 3) := by decide +kernel
theorem dX6_canEat_47 : decode cX6_canEat 47 = .ok (.iconst 1, 1) := by decide +kernel
theorem dX6_canEat_48 : decode cX6_canEat 48 = .ok (.goto 4, 3) := by decide +kernel
theorem dX6_canEat_51 : decode cX6_canEat 51 = .ok (.iconst 0, 1) := by decide +kernel
theorem dX6_canEat_52 : decode cX6_canEat 52 = .ok (.istore_n 3, 1) := by decide +kernel
theorem dX6_canEat_53 : decode cX6_canEat 53 = .ok (.iinc 4 1, 3) := by decide +kernel
theorem dX6_canEat_56 : decode cX6_canEat 56 = .ok (.goto (-51), 3) := by decide +kernel
theorem dX6_canEat_59 : decode cX6_canEat 59 = .ok (.iload_n 3, 1) := by decide +kernel
theorem dX6_canEat_60 : decode cX6_canEat 60 = .ok (.ireturn, 1) := by decide +kernel
set_option maxRecDepth 20000 in
theorem ggX6_eatersOf_X6_canEat : GoodIn wsX6_eatersOf wsX6_canEat := goodIn_r _ [7, 8, 9, 10, 11, 12, 13, 14, 15, 16, 17, 18, 19, 20, 21, 22, 23, 24, 25, 26, 27, 28, 29, 30, 31, 32, 33] (by decide +kernel) (by decide +kernel)
set_option maxRecDepth 20000 in
theorem gX6_eatersOf_X6_canEat : GoodIn wsX6_eatersOf (wsV RX6 143 RX6 yX6_canEat wsX6_canEat) := goodIn_app (goodIn_of _ (by decide +kernel)) ggX6_eatersOf_X6_canEat
theorem dX6_eatersOf_0 : decode cX6_eatersOf 0 = .ok (.iconst 0, 1) := by decide +kernel
theorem dX6_eatersOf_1 : decode cX6_eatersOf 1 = .ok (.istore_n 3, 1) := by decide +kernel
theorem dX6_eatersOf_2 : decode cX6_eatersOf 2 = .ok (.iconst 0, 1) := by decide +kernel
theorem dX6_eatersOf_3 : decode cX6_eatersOf 3 = .ok (.istore 4, 2) := by decide +kernel
theorem dX6_eatersOf_5 : decode cX6_eatersOf 5 = .ok (.iload 4, 2) := by decide +kernel
theorem dX6_eatersOf_7 : decode cX6_eatersOf 7 = .ok (.aload_n 0, 1) := by decide +kernel
theorem dX6_eatersOf_8 : decode cX6_eatersOf 8 = .ok (.getfield 64, 3) := by decide +kernel
theorem dX6_eatersOf_11 : decode cX6_eatersOf 11 = .ok (.if_icmp .ge 41, 3) := by decide +kernel
theorem dX6_eatersOf_14 : decode cX6_eatersOf 14 = .ok (.iload_n 3, 1) := by decide +kernel
theorem dX6_eatersOf_15 : decode cX6_eatersOf 15 = .ok (.aload_n 0, 1) := by decide +kernel
theorem dX6_eatersOf_16 : decode cX6_eatersOf 16 = .ok (.iload 4, 2) := by decide +kernel
theorem dX6_eatersOf_18 : decode cX6_eatersOf 18 = .ok (.iload_n 1, 1) := by decide +kernel
theorem dX6_eatersOf_19 : decode cX6_eatersOf 19 = .ok (.invokevirtual 143, 3) := by decide +kernel
theorem dX6_eatersOf_22 : decode cX6_eatersOf 22 = .ok (.ifCond .eq 21, 3) := by decide +kernel
theorem dX6_eatersOf_25 : decode cX6_eatersOf 25 = .ok (.iload_n 2, 1) := by decide +kernel
theorem dX6_eatersOf_26 : decode cX6_eatersOf 26 = .ok (.ifCond .eq 13, 3) := by decide +kernel
theorem dX6_eatersOf_29 : decode cX6_eatersOf 29 = .ok (.aload_n 0, 1) := by decide +kernel
theorem dX6_eatersOf_30 : decode cX6_eatersOf 30 = .ok (.getfield 31, 3) := by decide +kernel
theorem dX6_eatersOf_33 : decode cX6_eatersOf 33 = .ok (.iload 4, 2) := by decide +kernel
theorem dX6_eatersOf_35 : decode cX6_eatersOf 35 = .ok (.baload, 1) := by decide +kernel
theorem dX6_eatersOf_36 : decode cX6_eatersOf 36 = .ok (.ifCond .ne 7, 3) := by decide +kernel
theorem dX6_eatersOf_39 : decode cX6_eatersOf 39 = .ok (.iconst 1, 1) := by decide +kernel
theorem dX6_eatersOf_40 : decode cX6_eatersOf 40 = .ok (.goto 4, 3) := by decide +kernel
theorem dX6_eatersOf_43 : decode cX6_eatersOf 43 = .ok (.iconst 0, 1) := by decide +kernel
theorem dX6_eatersOf_44 : decode cX6_eatersOf 44 = .ok (.iadd, 1) := by decide +kernel
theorem dX6_eatersOf_45 : decode cX6_eatersOf 45 = .ok (.istore_n 3, 1) := by decide +kernel
theorem dX6_eatersOf_46 : decode cX6_eatersOf 46 = .ok (.iinc 4 1, 3) := by decide +kernel
theorem dX6_eatersOf_49 : decode cX6_eatersOf 49 = .ok (.goto (-44), 3) := by decide +kernel
theorem dX6_eatersOf_52 : decode cX6_eatersOf 52 = .ok (.iload_n 3, 1) := by decide +kernel
theorem dX6_eatersOf_53 : decode cX6_eatersOf 53 = .ok (.ireturn, 1) := by decide +kernel
set_option maxRecDepth 20000 in
theorem ggX6_setOf_X6_canEat : GoodIn wsX6_setOf wsX6_canEat := goodIn_r _ [6, 7, 8, 9, 10, 11, 12, 13, 14, 15, 16, 17, 18, 19, 20, 21, 22, 23, 24, 25, 26, 27, 28, 29, 30, 31, 32] (by decide +kernel) (by decide +kernel)
set_option maxRecDepth 20000 in
theorem gX6_setOf_X6_canEat : GoodIn wsX6_setOf (wsV RX6 143 RX6 yX6_canEat wsX6_canEat) := goodIn_app (goodIn_of _ (by decide +kernel)) ggX6_setOf_X6_canEat
theorem dX6_setOf_0 : decode cX6_setOf 0 = .ok (.lconst 0, 1) := by decide +kernel
theorem dX6_setOf_1 : decode cX6_setOf 1 = .ok (.lstore_n 2, 1) := by decide +kernel
theorem dX6_setOf_2 : decode cX6_setOf 2 = .ok (.iconst 0, 1) := by decide +kernel
theorem dX6_setOf_3 : decode cX6_setOf 3 = .ok (.istore 4, 2) := by decide +kernel
theorem dX6_setOf_5 : decode cX6_setOf 5 = .ok (.iload 4, 2) := by decide +kernel
theorem dX6_setOf_7 : decode cX6_setOf 7 = .ok (.aload_n 0, 1) := by decide +kernel
theorem dX6_setOf_8 : decode cX6_setOf 8 = .ok (.getfield 64, 3) := by decide +kernel
theorem dX6_setOf_11 : decode cX6_setOf 11 = .ok (.if_icmp .ge 30, 3) := by decide +kernel
theorem dX6_setOf_14 : decode cX6_setOf 14 = .ok (.lload_n 2, 1) := by decide +kernel
theorem dX6_setOf_15 : decode cX6_setOf 15 = .ok (.aload_n 0, 1) := by decide +kernel
theorem dX6_setOf_16 : decode cX6_setOf 16 = .ok (.iload 4, 2) := by decide +kernel
theorem dX6_setOf_18 : decode cX6_setOf 18 = .ok (.iload_n 1, 1) := by decide +kernel
theorem dX6_setOf_19 : decode cX6_setOf 19 = .ok (.invokevirtual 143, 3) := by decide +kernel
theorem dX6_setOf_22 : decode cX6_setOf 22 = .ok (.ifCond .eq 10, 3) := by decide +kernel
theorem dX6_setOf_25 : decode cX6_setOf 25 = .ok (.lconst 1, 1) := by decide +kernel
theorem dX6_setOf_26 : decode cX6_setOf 26 = .ok (.iload 4, 2) := by decide +kernel
theorem dX6_setOf_28 : decode cX6_setOf 28 = .ok (.lshl, 1) := by decide +kernel
theorem dX6_setOf_29 : decode cX6_setOf 29 = .ok (.goto 4, 3) := by decide +kernel
theorem dX6_setOf_32 : decode cX6_setOf 32 = .ok (.lconst 0, 1) := by decide +kernel
theorem dX6_setOf_33 : decode cX6_setOf 33 = .ok (.ladd, 1) := by decide +kernel
theorem dX6_setOf_34 : decode cX6_setOf 34 = .ok (.lstore_n 2, 1) := by decide +kernel
theorem dX6_setOf_35 : decode cX6_setOf 35 = .ok (.iinc 4 1, 3) := by decide +kernel
theorem dX6_setOf_38 : decode cX6_setOf 38 = .ok (.goto (-33), 3) := by decide +kernel
theorem dX6_setOf_41 : decode cX6_setOf 41 = .ok (.lload_n 2, 1) := by decide +kernel
theorem dX6_setOf_42 : decode cX6_setOf 42 = .ok (.lreturn, 1) := by decide +kernel
set_option maxRecDepth 20000 in
theorem ggX6_eaters_X6_isMeal : GoodIn wsX6_eaters wsX6_isMeal := goodIn_r _ [6, 7, 8, 9, 5, 10, 23, 24, 25, 26, 27, 28, 29, 30, 31, 32, 33, 34, 35, 36, 37, 38, 39, 40, 41, 42, 43, 44, 45] (by decide +kernel) (by decide +kernel)
set_option maxRecDepth 20000 in
theorem gX6_eaters_X6_isMeal : GoodIn wsX6_eaters (wsV RX6 140 RX6 yX6_isMeal wsX6_isMeal) := goodIn_app (goodIn_of _ (by decide +kernel)) ggX6_eaters_X6_isMeal
set_option maxRecDepth 20000 in
theorem ggX6_eaters_X6_setOf : GoodIn wsX6_eaters wsX6_setOf := goodIn_r _ [14, 15, 16, 17, 18, 5, 19, 20, 21, 22, 23, 24, 25, 26, 27, 28, 29, 30, 31, 32, 33, 34, 35, 36, 37, 38, 39, 40, 41, 42, 43, 44, 45] (by decide +kernel) (by decide +kernel)
set_option maxRecDepth 20000 in
theorem gX6_eaters_X6_setOf : GoodIn wsX6_eaters (wsV RX6 146 RX6 yX6_setOf wsX6_setOf) := goodIn_app (goodIn_of _ (by decide +kernel)) ggX6_eaters_X6_setOf
theorem dX6_eaters_0 : decode cX6_eaters 0 = .ok (.aload_n 0, 1) := by decide +kernel
theorem dX6_eaters_1 : decode cX6_eaters 1 = .ok (.aload_n 0, 1) := by decide +kernel
theorem dX6_eaters_2 : decode cX6_eaters 2 = .ok (.iload_n 1, 1) := by decide +kernel
theorem dX6_eaters_3 : decode cX6_eaters 3 = .ok (.invokevirtual 140, 3) := by decide +kernel
theorem dX6_eaters_6 : decode cX6_eaters 6 = .ok (.ifCond .eq 7, 3) := by decide +kernel
theorem dX6_eaters_9 : decode cX6_eaters 9 = .ok (.iconst 0, 1) := by decide +kernel
theorem dX6_eaters_10 : decode cX6_eaters 10 = .ok (.goto 4, 3) := by decide +kernel
theorem dX6_eaters_13 : decode cX6_eaters 13 = .ok (.iconst 1, 1) := by decide +kernel
theorem dX6_eaters_14 : decode cX6_eaters 14 = .ok (.putfield 53, 3) := by decide +kernel
theorem dX6_eaters_17 : decode cX6_eaters 17 = .ok (.aload_n 0, 1) := by decide +kernel
theorem dX6_eaters_18 : decode cX6_eaters 18 = .ok (.getfield 53, 3) := by decide +kernel
theorem dX6_eaters_21 : decode cX6_eaters 21 = .ok (.ifCond .ne 11, 3) := by decide +kernel
theorem dX6_eaters_24 : decode cX6_eaters 24 = .ok (.aload_n 0, 1) := by decide +kernel
theorem dX6_eaters_25 : decode cX6_eaters 25 = .ok (.iload_n 1, 1) := by decide +kernel
theorem dX6_eaters_26 : decode cX6_eaters 26 = .ok (.invokevirtual 146, 3) := by decide +kernel
theorem dX6_eaters_29 : decode cX6_eaters 29 = .ok (.goto 4, 3) := by decide +kernel
theorem dX6_eaters_32 : decode cX6_eaters 32 = .ok (.lconst 0, 1) := by decide +kernel
theorem dX6_eaters_33 : decode cX6_eaters 33 = .ok (.lreturn, 1) := by decide +kernel
set_option maxRecDepth 20000 in
theorem ggX6_lacks_X6_isMeal : GoodIn wsX6_lacks wsX6_isMeal := goodIn_r _ [12, 13, 14, 15, 11, 16, 37, 38, 39, 40, 41, 42, 43, 44, 45, 46, 47, 48, 49, 50, 51, 52, 53, 54, 55, 56, 57, 58, 59] (by decide +kernel) (by decide +kernel)
set_option maxRecDepth 20000 in
theorem gX6_lacks_X6_isMeal : GoodIn wsX6_lacks (wsV RX6 140 RX6 yX6_isMeal wsX6_isMeal) := goodIn_app (goodIn_of _ (by decide +kernel)) ggX6_lacks_X6_isMeal
set_option maxRecDepth 20000 in
theorem ggX6_lacks_X6_isFood : GoodIn wsX6_lacks wsX6_isFood := goodIn_r _ [20, 21, 14, 15, 11, 16, 37, 38, 39, 40, 41, 42, 43, 44, 45, 46, 47, 48, 49, 50, 51, 52, 53, 54, 55, 56, 57, 58, 59] (by decide +kernel) (by decide +kernel)
set_option maxRecDepth 20000 in
theorem gX6_lacks_X6_isFood : GoodIn wsX6_lacks (wsV RX6 137 RX6 yX6_isFood wsX6_isFood) := goodIn_app (goodIn_of _ (by decide +kernel)) ggX6_lacks_X6_isFood
set_option maxRecDepth 20000 in
theorem ggX6_lacks_X6_no : GoodIn wsX6_lacks wsX6_no := goodIn_r _ [25, 1, 37, 38, 39, 40, 41, 42, 43, 44, 45, 46, 47, 48, 49, 50, 51, 52, 53, 54, 55, 56, 57, 58, 59] (by decide +kernel) (by decide +kernel)
set_option maxRecDepth 20000 in
theorem gX6_lacks_X6_no : GoodIn wsX6_lacks (wsV RX6 79 RX6 yX6_no wsX6_no) := goodIn_app (goodIn_of _ (by decide +kernel)) ggX6_lacks_X6_no
set_option maxRecDepth 20000 in
theorem ggX6_lacks_X6_isIn : GoodIn wsX6_lacks wsX6_isIn := goodIn_r _ [16] (by decide +kernel) (by decide +kernel)
set_option maxRecDepth 20000 in
theorem gX6_lacks_X6_isIn : GoodIn wsX6_lacks (va_wsS RX6 60 yX6_isIn wsX6_isIn) := goodIn_app (goodIn_of _ (by decide +kernel)) ggX6_lacks_X6_isIn
set_option maxRecDepth 20000 in
theorem ggX6_lacks_X6_eatersOf : GoodIn wsX6_lacks wsX6_eatersOf := goodIn_r _ [29, 30, 31, 32, 33, 34, 11, 35, 21, 2, 36, 37, 38, 39, 40, 41, 42, 43, 44, 45, 46, 47, 48, 49, 50, 51, 52, 53, 54, 55, 56, 57, 58, 59] (by decide +kernel) (by decide +kernel)
set_option maxRecDepth 20000 in
theorem gX6_lacks_X6_eatersOf : GoodIn wsX6_lacks (wsV RX6 149 RX6 yX6_eatersOf wsX6_eatersOf) := goodIn_app (goodIn_of _ (by decide +kernel)) ggX6_lacks_X6_eatersOf
theorem dX6_lacks_0 : decode cX6_lacks 0 = .ok (.aload_n 0, 1) := by decide +kernel
theorem dX6_lacks_1 : decode cX6_lacks 1 = .ok (.iconst 0, 1) := by decide +kernel
theorem dX6_lacks_2 : decode cX6_lacks 2 = .ok (.putfield 53, 3) := by decide +kernel
theorem dX6_lacks_5 : decode cX6_lacks 5 = .ok (.aload_n 0, 1) := by decide +kernel
theorem dX6_lacks_6 : decode cX6_lacks 6 = .ok (.iload_n 1, 1) := by decide +kernel
theorem dX6_lacks_7 : decode cX6_lacks 7 = .ok (.invokevirtual 140, 3) := by decide +kernel
theorem dX6_lacks_10 : decode cX6_lacks 10 = .ok (.ifCond .eq 11, 3) := by decide +kernel
theorem dX6_lacks_13 : decode cX6_lacks 13 = .ok (.aload_n 0, 1) := by decide +kernel
theorem dX6_lacks_14 : decode cX6_lacks 14 = .ok (.iload_n 2, 1) := by decide +kernel
theorem dX6_lacks_15 : decode cX6_lacks 15 = .ok (.invokevirtual 137, 3) := by decide +kernel
theorem dX6_lacks_18 : decode cX6_lacks 18 = .ok (.ifCond .ne 9, 3) := by decide +kernel
theorem dX6_lacks_21 : decode cX6_lacks 21 = .ok (.aload_n 0, 1) := by decide +kernel
theorem dX6_lacks_22 : decode cX6_lacks 22 = .ok (.iconst 1, 1) := by decide +kernel
theorem dX6_lacks_23 : decode cX6_lacks 23 = .ok (.invokevirtual 79, 3) := by decide +kernel
theorem dX6_lacks_26 : decode cX6_lacks 26 = .ok (.ireturn, 1) := by decide +kernel
theorem dX6_lacks_27 : decode cX6_lacks 27 = .ok (.iload_n 3, 1) := by decide +kernel
theorem dX6_lacks_28 : decode cX6_lacks 28 = .ok (.iconst 1, 1) := by decide +kernel
theorem dX6_lacks_29 : decode cX6_lacks 29 = .ok (.bipush 100, 2) := by decide +kernel
theorem dX6_lacks_31 : decode cX6_lacks 31 = .ok (.invokestatic 60, 3) := by decide +kernel
theorem dX6_lacks_34 : decode cX6_lacks 34 = .ok (.ifCond .ne 9, 3) := by decide +kernel
theorem dX6_lacks_37 : decode cX6_lacks 37 = .ok (.aload_n 0, 1) := by decide +kernel
theorem dX6_lacks_38 : decode cX6_lacks 38 = .ok (.iconst 2, 1) := by decide +kernel
theorem dX6_lacks_39 : decode cX6_lacks 39 = .ok (.invokevirtual 79, 3) := by decide +kernel
theorem dX6_lacks_42 : decode cX6_lacks 42 = .ok (.ireturn, 1) := by decide +kernel
theorem dX6_lacks_43 : decode cX6_lacks 43 = .ok (.iconst 0, 1) := by decide +kernel
theorem dX6_lacks_44 : decode cX6_lacks 44 = .ok (.aload_n 0, 1) := by decide +kernel
theorem dX6_lacks_45 : decode cX6_lacks 45 = .ok (.getfield 44, 3) := by decide +kernel
theorem dX6_lacks_48 : decode cX6_lacks 48 = .ok (.bipush 12, 2) := by decide +kernel
theorem dX6_lacks_50 : decode cX6_lacks 50 = .ok (.iload_n 1, 1) := by decide +kernel
theorem dX6_lacks_51 : decode cX6_lacks 51 = .ok (.imul, 1) := by decide +kernel
theorem dX6_lacks_52 : decode cX6_lacks 52 = .ok (.iload_n 2, 1) := by decide +kernel
theorem dX6_lacks_53 : decode cX6_lacks 53 = .ok (.iadd, 1) := by decide +kernel
theorem dX6_lacks_54 : decode cX6_lacks 54 = .ok (.iaload, 1) := by decide +kernel
theorem dX6_lacks_55 : decode cX6_lacks 55 = .ok (.aload_n 0, 1) := by decide +kernel
theorem dX6_lacks_56 : decode cX6_lacks 56 = .ok (.iload_n 1, 1) := by decide +kernel
theorem dX6_lacks_57 : decode cX6_lacks 57 = .ok (.iconst 0, 1) := by decide +kernel
theorem dX6_lacks_58 : decode cX6_lacks 58 = .ok (.invokevirtual 149, 3) := by decide +kernel
theorem dX6_lacks_61 : decode cX6_lacks 61 = .ok (.imul, 1) := by decide +kernel
theorem dX6_lacks_62 : decode cX6_lacks 62 = .ok (.iload_n 3, 1) := by decide +kernel
theorem dX6_lacks_63 : decode cX6_lacks 63 = .ok (.imul, 1) := by decide +kernel
theorem dX6_lacks_64 : decode cX6_lacks 64 = .ok (.aload_n 0, 1) := by decide +kernel
theorem dX6_lacks_65 : decode cX6_lacks 65 = .ok (.getfield 41, 3) := by decide +kernel
theorem dX6_lacks_68 : decode cX6_lacks 68 = .ok (.iload_n 2, 1) := by decide +kernel
theorem dX6_lacks_69 : decode cX6_lacks 69 = .ok (.iaload, 1) := by decide +kernel
theorem dX6_lacks_70 : decode cX6_lacks 70 = .ok (.isub, 1) := by decide +kernel
theorem dX6_lacks_71 : decode cX6_lacks 71 = .ok (.invokestatic 153, 3) := by decide +kernel
theorem dX6_lacks_74 : decode cX6_lacks 74 = .ok (.ireturn, 1) := by decide +kernel
set_option maxRecDepth 20000 in
theorem ggX6_canBeEaten_X6_eatersOf : GoodIn wsX6_canBeEaten wsX6_eatersOf := goodIn_r _ [9, 10, 11, 12, 13, 14, 8, 15, 2, 3, 16, 17, 18, 19, 20, 21, 22, 23, 24, 25, 26, 27, 28, 29, 30, 31, 32, 33, 34, 35, 36, 37, 38, 39] (by decide +kernel) (by decide +kernel)
set_option maxRecDepth 20000 in
theorem gX6_canBeEaten_X6_eatersOf : GoodIn wsX6_canBeEaten (wsV RX6 149 RX6 yX6_eatersOf wsX6_eatersOf) := goodIn_app (goodIn_of _ (by decide +kernel)) ggX6_canBeEaten_X6_eatersOf
theorem dX6_canBeEaten_0 : decode cX6_canBeEaten 0 = .ok (.aload_n 0, 1) := by decide +kernel
theorem dX6_canBeEaten_1 : decode cX6_canBeEaten 1 = .ok (.iload_n 1, 1) := by decide +kernel
theorem dX6_canBeEaten_2 : decode cX6_canBeEaten 2 = .ok (.iconst 0, 1) := by decide +kernel
theorem dX6_canBeEaten_3 : decode cX6_canBeEaten 3 = .ok (.invokevirtual 149, 3) := by decide +kernel
theorem dX6_canBeEaten_6 : decode cX6_canBeEaten 6 = .ok (.istore_n 2, 1) := by decide +kernel
theorem dX6_canBeEaten_7 : decode cX6_canBeEaten 7 = .ok (.iconst 0, 1) := by decide +kernel
theorem dX6_canBeEaten_8 : decode cX6_canBeEaten 8 = .ok (.istore_n 3, 1) := by decide +kernel
theorem dX6_canBeEaten_9 : decode cX6_canBeEaten 9 = .ok (.aload_n 0, 1) := by decide +kernel
theorem dX6_canBeEaten_10 : decode cX6_canBeEaten 10 = .ok (.getfield 156, 3) := by decide +kernel
theorem dX6_canBeEaten_13 : decode cX6_canBeEaten 13 = .ok (.iconst 3, 1) := by decide +kernel
theorem dX6_canBeEaten_14 : decode cX6_canBeEaten 14 = .ok (.if_icmp .ge 11, 3) := by decide +kernel
theorem dX6_canBeEaten_17 : decode cX6_canBeEaten 17 = .ok (.iload_n 2, 1) := by decide +kernel
theorem dX6_canBeEaten_18 : decode cX6_canBeEaten 18 = .ok (.ifCond .le 7, 3) := by decide +kernel
theorem dX6_canBeEaten_21 : decode cX6_canBeEaten 21 = .ok (.iconst 1, 1) := by decide +kernel
theorem dX6_canBeEaten_22 : decode cX6_canBeEaten 22 = .ok (.goto 4, 3) := by decide +kernel
theorem dX6_canBeEaten_25 : decode cX6_canBeEaten 25 = .ok (.iconst 0, 1) := by decide +kernel
theorem dX6_canBeEaten_26 : decode cX6_canBeEaten 26 = .ok (.istore 4, 2) := by decide +kernel
theorem dX6_canBeEaten_28 : decode cX6_canBeEaten 28 = .ok (.iconst 0, 1) := by decide +kernel
theorem dX6_canBeEaten_29 : decode cX6_canBeEaten 29 = .ok (.istore 5, 2) := by decide +kernel
theorem dX6_canBeEaten_31 : decode cX6_canBeEaten 31 = .ok (.iload 5, 2) := by decide +kernel
theorem dX6_canBeEaten_33 : decode cX6_canBeEaten 33 = .ok (.aload_n 0, 1) := by decide +kernel
theorem dX6_canBeEaten_34 : decode cX6_canBeEaten 34 = .ok (.getfield 70, 3) := by decide +kernel
theorem dX6_canBeEaten_37 : decode cX6_canBeEaten 37 = .ok (.if_icmp .ge 68, 3) := by decide +kernel
theorem dX6_canBeEaten_40 : decode cX6_canBeEaten 40 = .ok (.iload_n 3, 1) := by decide +kernel
theorem dX6_canBeEaten_41 : decode cX6_canBeEaten 41 = .ok (.aload_n 0, 1) := by decide +kernel
theorem dX6_canBeEaten_42 : decode cX6_canBeEaten 42 = .ok (.getfield 44, 3) := by decide +kernel
theorem dX6_canBeEaten_45 : decode cX6_canBeEaten 45 = .ok (.bipush 12, 2) := by decide +kernel
theorem dX6_canBeEaten_47 : decode cX6_canBeEaten 47 = .ok (.iload_n 1, 1) := by decide +kernel
theorem dX6_canBeEaten_48 : decode cX6_canBeEaten 48 = .ok (.imul, 1) := by decide +kernel
theorem dX6_canBeEaten_49 : decode cX6_canBeEaten 49 = .ok (.iload 5, 2) := by decide +kernel
theorem dX6_canBeEaten_51 : decode cX6_canBeEaten 51 = .ok (.iadd, 1) := by decide +kernel
theorem dX6_canBeEaten_52 : decode cX6_canBeEaten 52 = .ok (.iaload, 1) := by decide +kernel
theorem dX6_canBeEaten_53 : decode cX6_canBeEaten 53 = .ok (.ifCond .le 7, 3) := by decide +kernel
theorem dX6_canBeEaten_56 : decode cX6_canBeEaten 56 = .ok (.iconst 1, 1) := by decide +kernel
theorem dX6_canBeEaten_57 : decode cX6_canBeEaten 57 = .ok (.goto 4, 3) := by decide +kernel
theorem dX6_canBeEaten_60 : decode cX6_canBeEaten 60 = .ok (.iconst 0, 1) := by decide +kernel
theorem dX6_canBeEaten_61 : decode cX6_canBeEaten 61 = .ok (.iadd, 1) := by decide +kernel
theorem dX6_canBeEaten_62 : decode cX6_canBeEaten 62 = .ok (.istore_n 3, 1) := by decide +kernel
theorem dX6_canBeEaten_63 : decode cX6_canBeEaten 63 = .ok (.iload 4, 2) := by decide +kernel
theorem dX6_canBeEaten_65 : decode cX6_canBeEaten 65 = .ok (.ifCond .eq 31, 3) := by decide +kernel
theorem dX6_canBeEaten_68 : decode cX6_canBeEaten 68 = .ok (.aload_n 0, 1) := by decide +kernel
theorem dX6_canBeEaten_69 : decode cX6_canBeEaten 69 = .ok (.getfield 44, 3) := by decide +kernel
theorem dX6_canBeEaten_72 : decode cX6_canBeEaten 72 = .ok (.bipush 12, 2) := by decide +kernel
theorem dX6_canBeEaten_74 : decode cX6_canBeEaten 74 = .ok (.iload_n 1, 1) := by decide +kernel
theorem dX6_canBeEaten_75 : decode cX6_canBeEaten 75 = .ok (.imul, 1) := by decide +kernel
theorem dX6_canBeEaten_76 : decode cX6_canBeEaten 76 = .ok (.iload 5, 2) := by decide +kernel
theorem dX6_canBeEaten_78 : decode cX6_canBeEaten 78 = .ok (.iadd, 1) := by decide +kernel
theorem dX6_canBeEaten_79 : decode cX6_canBeEaten 79 = .ok (.iaload, 1) := by decide +kernel
theorem dX6_canBeEaten_80 : decode cX6_canBeEaten 80 = .ok (.iload_n 2, 1) := by decide +kernel
theorem dX6_canBeEaten_81 : decode cX6_canBeEaten 81 = .ok (.imul, 1) := by decide +kernel
theorem dX6_canBeEaten_82 : decode cX6_canBeEaten 82 = .ok (.aload_n 0, 1) := by decide +kernel
theorem dX6_canBeEaten_83 : decode cX6_canBeEaten 83 = .ok (.getfield 41, 3) := by decide +kernel
theorem dX6_canBeEaten_86 : decode cX6_canBeEaten 86 = .ok (.iload 5, 2) := by decide +kernel
theorem dX6_canBeEaten_88 : decode cX6_canBeEaten 88 = .ok (.iaload, 1) := by decide +kernel
theorem dX6_canBeEaten_89 : decode cX6_canBeEaten 89 = .ok (.if_icmp .gt 7, 3) := by decide +kernel
theorem dX6_canBeEaten_92 : decode cX6_canBeEaten 92 = .ok (.iconst 1, 1) := by decide +kernel
theorem dX6_canBeEaten_93 : decode cX6_canBeEaten 93 = .ok (.goto 4, 3) := by decide +kernel
theorem dX6_canBeEaten_96 : decode cX6_canBeEaten 96 = .ok (.iconst 0, 1) := by decide +kernel
theorem dX6_canBeEaten_97 : decode cX6_canBeEaten 97 = .ok (.istore 4, 2) := by decide +kernel
theorem dX6_canBeEaten_99 : decode cX6_canBeEaten 99 = .ok (.iinc 5 1, 3) := by decide +kernel
theorem dX6_canBeEaten_102 : decode cX6_canBeEaten 102 = .ok (.goto (-71), 3) := by decide +kernel
theorem dX6_canBeEaten_105 : decode cX6_canBeEaten 105 = .ok (.iload 4, 2) := by decide +kernel
theorem dX6_canBeEaten_107 : decode cX6_canBeEaten 107 = .ok (.ifCond .eq 11, 3) := by decide +kernel
theorem dX6_canBeEaten_110 : decode cX6_canBeEaten 110 = .ok (.iload_n 3, 1) := by decide +kernel
theorem dX6_canBeEaten_111 : decode cX6_canBeEaten 111 = .ok (.ifCond .le 7, 3) := by decide +kernel
theorem dX6_canBeEaten_114 : decode cX6_canBeEaten 114 = .ok (.iconst 1, 1) := by decide +kernel
theorem dX6_canBeEaten_115 : decode cX6_canBeEaten 115 = .ok (.goto 4, 3) := by decide +kernel
theorem dX6_canBeEaten_118 : decode cX6_canBeEaten 118 = .ok (.iconst 0, 1) := by decide +kernel
theorem dX6_canBeEaten_119 : decode cX6_canBeEaten 119 = .ok (.ireturn, 1) := by decide +kernel
set_option maxRecDepth 20000 in
theorem ggX6_eat_X6_isMeal : GoodIn wsX6_eat wsX6_isMeal := goodIn_r _ [12, 13, 14, 15, 11, 16, 34, 35, 36, 37, 38, 39, 40, 41, 42, 43, 44, 45, 46, 47, 48, 49, 50, 51, 52, 53, 54, 55, 56] (by decide +kernel) (by decide +kernel)
set_option maxRecDepth 20000 in
theorem gX6_eat_X6_isMeal : GoodIn wsX6_eat (wsV RX6 140 RX6 yX6_isMeal wsX6_isMeal) := goodIn_app (goodIn_of _ (by decide +kernel)) ggX6_eat_X6_isMeal
set_option maxRecDepth 20000 in
theorem ggX6_eat_X6_no : GoodIn wsX6_eat wsX6_no := goodIn_r _ [20, 1, 34, 35, 36, 37, 38, 39, 40, 41, 42, 43, 44, 45, 46, 47, 48, 49, 50, 51, 52, 53, 54, 55, 56] (by decide +kernel) (by decide +kernel)
set_option maxRecDepth 20000 in
theorem gX6_eat_X6_no : GoodIn wsX6_eat (wsV RX6 79 RX6 yX6_no wsX6_no) := goodIn_app (goodIn_of _ (by decide +kernel)) ggX6_eat_X6_no
set_option maxRecDepth 20000 in
theorem ggX6_eat_X6_canBeEaten : GoodIn wsX6_eat wsX6_canBeEaten := goodIn_r _ [24, 7, 2, 4, 3, 25, 26, 27, 11, 28, 5, 6, 29, 30, 31, 32, 33, 34, 35, 36, 37, 38, 39, 40, 41, 42, 43, 44, 45, 46, 47, 48, 49, 50, 51, 52, 53, 54, 55, 56] (by decide +kernel) (by decide +kernel)
set_option maxRecDepth 20000 in
theorem gX6_eat_X6_canBeEaten : GoodIn wsX6_eat (wsV RX6 159 RX6 yX6_canBeEaten wsX6_canBeEaten) := goodIn_app (goodIn_of _ (by decide +kernel)) ggX6_eat_X6_canBeEaten
set_option maxRecDepth 20000 in
theorem ggX6_eat_X6_eatersOf : GoodIn wsX6_eat wsX6_eatersOf := goodIn_r _ [28, 5, 6, 29, 30, 31, 11, 32, 2, 4, 33, 34, 35, 36, 37, 38, 39, 40, 41, 42, 43, 44, 45, 46, 47, 48, 49, 50, 51, 52, 53, 54, 55, 56] (by decide +kernel) (by decide +kernel)
set_option maxRecDepth 20000 in
theorem gX6_eat_X6_eatersOf : GoodIn wsX6_eat (wsV RX6 149 RX6 yX6_eatersOf wsX6_eatersOf) := goodIn_app (goodIn_of _ (by decide +kernel)) ggX6_eat_X6_eatersOf
set_option maxRecDepth 20000 in
theorem ggX6_eat_X6_canEat : GoodIn wsX6_eat wsX6_canEat := goodIn_r _ [32, 2, 4, 33, 34, 35, 36, 37, 38, 39, 40, 41, 42, 43, 44, 45, 46, 47, 48, 49, 50, 51, 52, 53, 54, 55, 56] (by decide +kernel) (by decide +kernel)
set_option maxRecDepth 20000 in
theorem gX6_eat_X6_canEat : GoodIn wsX6_eat (wsV RX6 143 RX6 yX6_canEat wsX6_canEat) := goodIn_app (goodIn_of _ (by decide +kernel)) ggX6_eat_X6_canEat
theorem dX6_eat_0 : decode cX6_eat 0 = .ok (.aload_n 0, 1) := by decide +kernel
theorem dX6_eat_1 : decode cX6_eat 1 = .ok (.iconst 0, 1) := by decide +kernel
theorem dX6_eat_2 : decode cX6_eat 2 = .ok (.putfield 53, 3) := by decide +kernel
theorem dX6_eat_5 : decode cX6_eat 5 = .ok (.aload_n 0, 1) := by decide +kernel
theorem dX6_eat_6 : decode cX6_eat 6 = .ok (.iload_n 1, 1) := by decide +kernel
theorem dX6_eat_7 : decode cX6_eat 7 = .ok (.invokevirtual 140, 3) := by decide +kernel
theorem dX6_eat_10 : decode cX6_eat 10 = .ok (.ifCond .ne 9, 3) := by decide +kernel
theorem dX6_eat_13 : decode cX6_eat 13 = .ok (.aload_n 0, 1) := by decide +kernel
theorem dX6_eat_14 : decode cX6_eat 14 = .ok (.iconst 1, 1) := by decide +kernel
theorem dX6_eat_15 : decode cX6_eat 15 = .ok (.invokevirtual 79, 3) := by decide +kernel
theorem dX6_eat_18 : decode cX6_eat 18 = .ok (.ireturn, 1) := by decide +kernel
theorem dX6_eat_19 : decode cX6_eat 19 = .ok (.aload_n 0, 1) := by decide +kernel
theorem dX6_eat_20 : decode cX6_eat 20 = .ok (.iload_n 1, 1) := by decide +kernel
theorem dX6_eat_21 : decode cX6_eat 21 = .ok (.invokevirtual 159, 3) := by decide +kernel
theorem dX6_eat_24 : decode cX6_eat 24 = .ok (.ifCond .ne 9, 3) := by decide +kernel
theorem dX6_eat_27 : decode cX6_eat 27 = .ok (.aload_n 0, 1) := by decide +kernel
theorem dX6_eat_28 : decode cX6_eat 28 = .ok (.iconst 2, 1) := by decide +kernel
theorem dX6_eat_29 : decode cX6_eat 29 = .ok (.invokevirtual 79, 3) := by decide +kernel
theorem dX6_eat_32 : decode cX6_eat 32 = .ok (.ireturn, 1) := by decide +kernel
theorem dX6_eat_33 : decode cX6_eat 33 = .ok (.aload_n 0, 1) := by decide +kernel
theorem dX6_eat_34 : decode cX6_eat 34 = .ok (.iload_n 1, 1) := by decide +kernel
theorem dX6_eat_35 : decode cX6_eat 35 = .ok (.iconst 0, 1) := by decide +kernel
theorem dX6_eat_36 : decode cX6_eat 36 = .ok (.invokevirtual 149, 3) := by decide +kernel
theorem dX6_eat_39 : decode cX6_eat 39 = .ok (.istore_n 2, 1) := by decide +kernel
theorem dX6_eat_40 : decode cX6_eat 40 = .ok (.iconst 0, 1) := by decide +kernel
theorem dX6_eat_41 : decode cX6_eat 41 = .ok (.istore_n 3, 1) := by decide +kernel
theorem dX6_eat_42 : decode cX6_eat 42 = .ok (.iload_n 3, 1) := by decide +kernel
theorem dX6_eat_43 : decode cX6_eat 43 = .ok (.aload_n 0, 1) := by decide +kernel
theorem dX6_eat_44 : decode cX6_eat 44 = .ok (.getfield 70, 3) := by decide +kernel
theorem dX6_eat_47 : decode cX6_eat 47 = .ok (.if_icmp .ge 31, 3) := by decide +kernel
theorem dX6_eat_50 : decode cX6_eat 50 = .ok (.aload_n 0, 1) := by decide +kernel
theorem dX6_eat_51 : decode cX6_eat 51 = .ok (.getfield 41, 3) := by decide +kernel
theorem dX6_eat_54 : decode cX6_eat 54 = .ok (.iload_n 3, 1) := by decide +kernel
theorem dX6_eat_55 : decode cX6_eat 55 = .ok (.dup2, 1) := by decide +kernel
theorem dX6_eat_56 : decode cX6_eat 56 = .ok (.iaload, 1) := by decide +kernel
theorem dX6_eat_57 : decode cX6_eat 57 = .ok (.aload_n 0, 1) := by decide +kernel
theorem dX6_eat_58 : decode cX6_eat 58 = .ok (.getfield 44, 3) := by decide +kernel
theorem dX6_eat_61 : decode cX6_eat 61 = .ok (.bipush 12, 2) := by decide +kernel
theorem dX6_eat_63 : decode cX6_eat 63 = .ok (.iload_n 1, 1) := by decide +kernel
theorem dX6_eat_64 : decode cX6_eat 64 = .ok (.imul, 1) := by decide +kernel
theorem dX6_eat_65 : decode cX6_eat 65 = .ok (.iload_n 3, 1) := by decide +kernel
theorem dX6_eat_66 : decode cX6_eat 66 = .ok (.iadd, 1) := by decide +kernel
theorem dX6_eat_67 : decode cX6_eat 67 = .ok (.iaload, 1) := by decide +kernel
theorem dX6_eat_68 : decode cX6_eat 68 = .ok (.iload_n 2, 1) := by decide +kernel
theorem dX6_eat_69 : decode cX6_eat 69 = .ok (.imul, 1) := by decide +kernel
theorem dX6_eat_70 : decode cX6_eat 70 = .ok (.isub, 1) := by decide +kernel
theorem dX6_eat_71 : decode cX6_eat 71 = .ok (.iastore, 1) := by decide +kernel
theorem dX6_eat_72 : decode cX6_eat 72 = .ok (.iinc 3 1, 3) := by decide +kernel
theorem dX6_eat_75 : decode cX6_eat 75 = .ok (.goto (-33), 3) := by decide +kernel
theorem dX6_eat_78 : decode cX6_eat 78 = .ok (.iconst 0, 1) := by decide +kernel
theorem dX6_eat_79 : decode cX6_eat 79 = .ok (.istore_n 3, 1) := by decide +kernel
theorem dX6_eat_80 : decode cX6_eat 80 = .ok (.iload_n 3, 1) := by decide +kernel
theorem dX6_eat_81 : decode cX6_eat 81 = .ok (.aload_n 0, 1) := by decide +kernel
theorem dX6_eat_82 : decode cX6_eat 82 = .ok (.getfield 64, 3) := by decide +kernel
theorem dX6_eat_85 : decode cX6_eat 85 = .ok (.if_icmp .ge 38, 3) := by decide +kernel
theorem dX6_eat_88 : decode cX6_eat 88 = .ok (.aload_n 0, 1) := by decide +kernel
theorem dX6_eat_89 : decode cX6_eat 89 = .ok (.getfield 31, 3) := by decide +kernel
theorem dX6_eat_92 : decode cX6_eat 92 = .ok (.iload_n 3, 1) := by decide +kernel
theorem dX6_eat_93 : decode cX6_eat 93 = .ok (.aload_n 0, 1) := by decide +kernel
theorem dX6_eat_94 : decode cX6_eat 94 = .ok (.getfield 31, 3) := by decide +kernel
theorem dX6_eat_97 : decode cX6_eat 97 = .ok (.iload_n 3, 1) := by decide +kernel
theorem dX6_eat_98 : decode cX6_eat 98 = .ok (.baload, 1) := by decide +kernel
theorem dX6_eat_99 : decode cX6_eat 99 = .ok (.ifCond .ne 12, 3) := by decide +kernel
theorem dX6_eat_102 : decode cX6_eat 102 = .ok (.aload_n 0, 1) := by decide +kernel
theorem dX6_eat_103 : decode cX6_eat 103 = .ok (.iload_n 3, 1) := by decide +kernel
theorem dX6_eat_104 : decode cX6_eat 104 = .ok (.iload_n 1, 1) := by decide +kernel
theorem dX6_eat_105 : decode cX6_eat 105 = .ok (.invokevirtual 143, 3) := by decide +kernel
theorem dX6_eat_108 : decode cX6_eat 108 = .ok (.ifCond .eq 7, 3) := by decide +kernel
theorem dX6_eat_111 : decode cX6_eat 111 = .ok (.iconst 1, 1) := by decide +kernel
theorem dX6_eat_112 : decode cX6_eat 112 = .ok (.goto 4, 3) := by decide +kernel
theorem dX6_eat_115 : decode cX6_eat 115 = .ok (.iconst 0, 1) := by decide +kernel
theorem dX6_eat_116 : decode cX6_eat 116 = .ok (.bastore, 1) := by decide +kernel
theorem dX6_eat_117 : decode cX6_eat 117 = .ok (.iinc 3 1, 3) := by decide +kernel
theorem dX6_eat_120 : decode cX6_eat 120 = .ok (.goto (-40), 3) := by decide +kernel
theorem dX6_eat_123 : decode cX6_eat 123 = .ok (.aload_n 0, 1) := by decide +kernel
theorem dX6_eat_124 : decode cX6_eat 124 = .ok (.dup, 1) := by decide +kernel
theorem dX6_eat_125 : decode cX6_eat 125 = .ok (.getfield 156, 3) := by decide +kernel
theorem dX6_eat_128 : decode cX6_eat 128 = .ok (.iconst 1, 1) := by decide +kernel
theorem dX6_eat_129 : decode cX6_eat 129 = .ok (.iadd, 1) := by decide +kernel
theorem dX6_eat_130 : decode cX6_eat 130 = .ok (.putfield 156, 3) := by decide +kernel
theorem dX6_eat_133 : decode cX6_eat 133 = .ok (.iload_n 2, 1) := by decide +kernel
theorem dX6_eat_134 : decode cX6_eat 134 = .ok (.ireturn, 1) := by decide +kernel
set_option maxRecDepth 20000 in
theorem ggX6_tableOf_X6_canBeEaten : GoodIn wsX6_tableOf wsX6_canBeEaten := goodIn_r _ [9, 1, 10, 11, 12, 13, 14, 15, 8, 16, 2, 3, 17, 18, 19, 20, 21, 22, 23, 24, 25, 26, 27, 28, 29, 30, 31, 32, 33, 34, 35, 36, 37, 38, 39, 40, 41, 42, 43, 44] (by decide +kernel) (by decide +kernel)
set_option maxRecDepth 20000 in
theorem gX6_tableOf_X6_canBeEaten : GoodIn wsX6_tableOf (wsV RX6 159 RX6 yX6_canBeEaten wsX6_canBeEaten) := goodIn_app (goodIn_of _ (by decide +kernel)) ggX6_tableOf_X6_canBeEaten
set_option maxRecDepth 20000 in
theorem ggX6_tableOf_X6_eatersOf : GoodIn wsX6_tableOf wsX6_eatersOf := goodIn_r _ [16, 2, 3, 17, 18, 19, 8, 20, 10, 11, 21, 22, 23, 24, 25, 26, 27, 28, 29, 30, 31, 32, 33, 34, 35, 36, 37, 38, 39, 40, 41, 42, 43, 44] (by decide +kernel) (by decide +kernel)
set_option maxRecDepth 20000 in
theorem gX6_tableOf_X6_eatersOf : GoodIn wsX6_tableOf (wsV RX6 149 RX6 yX6_eatersOf wsX6_eatersOf) := goodIn_app (goodIn_of _ (by decide +kernel)) ggX6_tableOf_X6_eatersOf
theorem dX6_tableOf_0 : decode cX6_tableOf 0 = .ok (.iload_n 1, 1) := by decide +kernel
theorem dX6_tableOf_1 : decode cX6_tableOf 1 = .ok (.iconst 1, 1) := by decide +kernel
theorem dX6_tableOf_2 : decode cX6_tableOf 2 = .ok (.if_icmp .ne 8, 3) := by decide +kernel
theorem dX6_tableOf_5 : decode cX6_tableOf 5 = .ok (.aload_n 0, 1) := by decide +kernel
theorem dX6_tableOf_6 : decode cX6_tableOf 6 = .ok (.getfield 156, 3) := by decide +kernel
theorem dX6_tableOf_9 : decode cX6_tableOf 9 = .ok (.ireturn, 1) := by decide +kernel
theorem dX6_tableOf_10 : decode cX6_tableOf 10 = .ok (.iload_n 1, 1) := by decide +kernel
theorem dX6_tableOf_11 : decode cX6_tableOf 11 = .ok (.ifCond .ne 40, 3) := by decide +kernel
theorem dX6_tableOf_14 : decode cX6_tableOf 14 = .ok (.iconst 0, 1) := by decide +kernel
theorem dX6_tableOf_15 : decode cX6_tableOf 15 = .ok (.istore_n 2, 1) := by decide +kernel
theorem dX6_tableOf_16 : decode cX6_tableOf 16 = .ok (.iconst 0, 1) := by decide +kernel
theorem dX6_tableOf_17 : decode cX6_tableOf 17 = .ok (.istore_n 3, 1) := by decide +kernel
theorem dX6_tableOf_18 : decode cX6_tableOf 18 = .ok (.iload_n 3, 1) := by decide +kernel
theorem dX6_tableOf_19 : decode cX6_tableOf 19 = .ok (.aload_n 0, 1) := by decide +kernel
theorem dX6_tableOf_20 : decode cX6_tableOf 20 = .ok (.getfield 64, 3) := by decide +kernel
theorem dX6_tableOf_23 : decode cX6_tableOf 23 = .ok (.if_icmp .ge 26, 3) := by decide +kernel
theorem dX6_tableOf_26 : decode cX6_tableOf 26 = .ok (.iload_n 2, 1) := by decide +kernel
theorem dX6_tableOf_27 : decode cX6_tableOf 27 = .ok (.aload_n 0, 1) := by decide +kernel
theorem dX6_tableOf_28 : decode cX6_tableOf 28 = .ok (.getfield 31, 3) := by decide +kernel
theorem dX6_tableOf_31 : decode cX6_tableOf 31 = .ok (.iload_n 3, 1) := by decide +kernel
theorem dX6_tableOf_32 : decode cX6_tableOf 32 = .ok (.baload, 1) := by decide +kernel
theorem dX6_tableOf_33 : decode cX6_tableOf 33 = .ok (.ifCond .eq 7, 3) := by decide +kernel
theorem dX6_tableOf_36 : decode cX6_tableOf 36 = .ok (.iconst 0, 1) := by decide +kernel
theorem dX6_tableOf_37 : decode cX6_tableOf 37 = .ok (.goto 4, 3) := by decide +kernel
theorem dX6_tableOf_40 : decode cX6_tableOf 40 = .ok (.iconst 1, 1) := by decide +kernel
theorem dX6_tableOf_41 : decode cX6_tableOf 41 = .ok (.iadd, 1) := by decide +kernel
theorem dX6_tableOf_42 : decode cX6_tableOf 42 = .ok (.istore_n 2, 1) := by decide +kernel
theorem dX6_tableOf_43 : decode cX6_tableOf 43 = .ok (.iinc 3 1, 3) := by decide +kernel
theorem dX6_tableOf_46 : decode cX6_tableOf 46 = .ok (.goto (-28), 3) := by decide +kernel
theorem dX6_tableOf_49 : decode cX6_tableOf 49 = .ok (.iload_n 2, 1) := by decide +kernel
theorem dX6_tableOf_50 : decode cX6_tableOf 50 = .ok (.ireturn, 1) := by decide +kernel
theorem dX6_tableOf_51 : decode cX6_tableOf 51 = .ok (.iconst (-1), 1) := by decide +kernel
theorem dX6_tableOf_52 : decode cX6_tableOf 52 = .ok (.istore_n 2, 1) := by decide +kernel
theorem dX6_tableOf_53 : decode cX6_tableOf 53 = .ok (.iconst 0, 1) := by decide +kernel
theorem dX6_tableOf_54 : decode cX6_tableOf 54 = .ok (.istore_n 3, 1) := by decide +kernel
theorem dX6_tableOf_55 : decode cX6_tableOf 55 = .ok (.iload_n 3, 1) := by decide +kernel
theorem dX6_tableOf_56 : decode cX6_tableOf 56 = .ok (.aload_n 0, 1) := by decide +kernel
theorem dX6_tableOf_57 : decode cX6_tableOf 57 = .ok (.getfield 73, 3) := by decide +kernel
theorem dX6_tableOf_60 : decode cX6_tableOf 60 = .ok (.if_icmp .ge 39, 3) := by decide +kernel
theorem dX6_tableOf_63 : decode cX6_tableOf 63 = .ok (.aload_n 0, 1) := by decide +kernel
theorem dX6_tableOf_64 : decode cX6_tableOf 64 = .ok (.iload_n 3, 1) := by decide +kernel
theorem dX6_tableOf_65 : decode cX6_tableOf 65 = .ok (.invokevirtual 159, 3) := by decide +kernel
theorem dX6_tableOf_68 : decode cX6_tableOf 68 = .ok (.ifCond .eq 25, 3) := by decide +kernel
theorem dX6_tableOf_71 : decode cX6_tableOf 71 = .ok (.iload_n 2, 1) := by decide +kernel
theorem dX6_tableOf_72 : decode cX6_tableOf 72 = .ok (.iconst (-1), 1) := by decide +kernel
theorem dX6_tableOf_73 : decode cX6_tableOf 73 = .ok (.if_icmp .eq 18, 3) := by decide +kernel
theorem dX6_tableOf_76 : decode cX6_tableOf 76 = .ok (.aload_n 0, 1) := by decide +kernel
theorem dX6_tableOf_77 : decode cX6_tableOf 77 = .ok (.iload_n 3, 1) := by decide +kernel
theorem dX6_tableOf_78 : decode cX6_tableOf 78 = .ok (.iconst 1, 1) := by decide +kernel
theorem dX6_tableOf_79 : decode cX6_tableOf 79 = .ok (.invokevirtual 149, 3) := by decide +kernel
theorem dX6_tableOf_82 : decode cX6_tableOf 82 = .ok (.aload_n 0, 1) := by decide +kernel
theorem dX6_tableOf_83 : decode cX6_tableOf 83 = .ok (.iload_n 2, 1) := by decide +kernel
theorem dX6_tableOf_84 : decode cX6_tableOf 84 = .ok (.iconst 1, 1) := by decide +kernel
theorem dX6_tableOf_85 : decode cX6_tableOf 85 = .ok (.invokevirtual 149, 3) := by decide +kernel
theorem dX6_tableOf_88 : decode cX6_tableOf 88 = .ok (.if_icmp .le 5, 3) := by decide +kernel
theorem dX6_tableOf_91 : decode cX6_tableOf 91 = .ok (.iload_n 3, 1) := by decide +kernel
theorem dX6_tableOf_92 : decode cX6_tableOf 92 = .ok (.istore_n 2, 1) := by decide +kernel
theorem dX6_tableOf_93 : decode cX6_tableOf 93 = .ok (.iinc 3 1, 3) := by decide +kernel
theorem dX6_tableOf_96 : decode cX6_tableOf 96 = .ok (.goto (-41), 3) := by decide +kernel
theorem dX6_tableOf_99 : decode cX6_tableOf 99 = .ok (.iload_n 2, 1) := by decide +kernel
theorem dX6_tableOf_100 : decode cX6_tableOf 100 = .ok (.ireturn, 1) := by decide +kernel
set_option maxRecDepth 20000 in
theorem ggX6_table_X6_isIn : GoodIn wsX6_table wsX6_isIn := goodIn_r _ [5] (by decide +kernel) (by decide +kernel)
set_option maxRecDepth 20000 in
theorem gX6_table_X6_isIn : GoodIn wsX6_table (va_wsS RX6 60 yX6_isIn wsX6_isIn) := goodIn_app (goodIn_of _ (by decide +kernel)) ggX6_table_X6_isIn
set_option maxRecDepth 20000 in
theorem ggX6_table_X6_tableOf : GoodIn wsX6_table wsX6_tableOf := goodIn_r _ [9, 10, 11, 12, 13, 14, 15, 16, 4, 17, 18, 19, 20, 21, 22, 23, 24, 25, 26, 27, 28, 29, 34, 35, 36, 37, 38, 39, 40, 41, 42, 43, 44, 45, 46, 47, 48, 49, 50, 51, 52, 53, 54, 55, 56] (by decide +kernel) (by decide +kernel)
set_option maxRecDepth 20000 in
theorem gX6_table_X6_tableOf : GoodIn wsX6_table (wsV RX6 162 RX6 yX6_tableOf wsX6_tableOf) := goodIn_app (goodIn_of _ (by decide +kernel)) ggX6_table_X6_tableOf
set_option maxRecDepth 20000 in
theorem ggX6_table_X6_no : GoodIn wsX6_table wsX6_no := goodIn_r _ [33, 1, 34, 35, 36, 37, 38, 39, 40, 41, 42, 43, 44, 45, 46, 47, 48, 49, 50, 51, 52, 53, 54, 55, 56] (by decide +kernel) (by decide +kernel)
set_option maxRecDepth 20000 in
theorem gX6_table_X6_no : GoodIn wsX6_table (wsV RX6 79 RX6 yX6_no wsX6_no) := goodIn_app (goodIn_of _ (by decide +kernel)) ggX6_table_X6_no
theorem dX6_table_0 : decode cX6_table 0 = .ok (.aload_n 0, 1) := by decide +kernel
theorem dX6_table_1 : decode cX6_table 1 = .ok (.iconst 0, 1) := by decide +kernel
theorem dX6_table_2 : decode cX6_table 2 = .ok (.putfield 53, 3) := by decide +kernel
theorem dX6_table_5 : decode cX6_table 5 = .ok (.iload_n 1, 1) := by decide +kernel
theorem dX6_table_6 : decode cX6_table 6 = .ok (.iconst 0, 1) := by decide +kernel
theorem dX6_table_7 : decode cX6_table 7 = .ok (.iconst 2, 1) := by decide +kernel
theorem dX6_table_8 : decode cX6_table 8 = .ok (.invokestatic 60, 3) := by decide +kernel
theorem dX6_table_11 : decode cX6_table 11 = .ok (.ifCond .eq 11, 3) := by decide +kernel
theorem dX6_table_14 : decode cX6_table 14 = .ok (.aload_n 0, 1) := by decide +kernel
theorem dX6_table_15 : decode cX6_table 15 = .ok (.iload_n 1, 1) := by decide +kernel
theorem dX6_table_16 : decode cX6_table 16 = .ok (.invokevirtual 162, 3) := by decide +kernel
theorem dX6_table_19 : decode cX6_table 19 = .ok (.goto 8, 3) := by decide +kernel
theorem dX6_table_22 : decode cX6_table 22 = .ok (.aload_n 0, 1) := by decide +kernel
theorem dX6_table_23 : decode cX6_table 23 = .ok (.iconst 1, 1) := by decide +kernel
theorem dX6_table_24 : decode cX6_table 24 = .ok (.invokevirtual 79, 3) := by decide +kernel
theorem dX6_table_27 : decode cX6_table 27 = .ok (.ireturn, 1) := by decide +kernel
set_option maxRecDepth 20000 in
theorem ggX6_addBadge_X6_isIn : GoodIn wsX6_addBadge wsX6_isIn := goodIn_r _ [7] (by decide +kernel) (by decide +kernel)
set_option maxRecDepth 20000 in
theorem gX6_addBadge_X6_isIn : GoodIn wsX6_addBadge (va_wsS RX6 60 yX6_isIn wsX6_isIn) := goodIn_app (goodIn_of _ (by decide +kernel)) ggX6_addBadge_X6_isIn
set_option maxRecDepth 20000 in
theorem ggX6_addBadge_X6_no : GoodIn wsX6_addBadge wsX6_no := goodIn_r _ [11, 1, 12, 13, 14, 15, 16, 17, 18, 19, 20, 21, 22, 23, 24, 25, 26, 27, 28, 29, 30, 31, 32, 33, 34] (by decide +kernel) (by decide +kernel)
set_option maxRecDepth 20000 in
theorem gX6_addBadge_X6_no : GoodIn wsX6_addBadge (wsV RX6 79 RX6 yX6_no wsX6_no) := goodIn_app (goodIn_of _ (by decide +kernel)) ggX6_addBadge_X6_no
theorem dX6_addBadge_0 : decode cX6_addBadge 0 = .ok (.aload_n 0, 1) := by decide +kernel
theorem dX6_addBadge_1 : decode cX6_addBadge 1 = .ok (.iconst 0, 1) := by decide +kernel
theorem dX6_addBadge_2 : decode cX6_addBadge 2 = .ok (.putfield 53, 3) := by decide +kernel
theorem dX6_addBadge_5 : decode cX6_addBadge 5 = .ok (.iload_n 1, 1) := by decide +kernel
theorem dX6_addBadge_6 : decode cX6_addBadge 6 = .ok (.bipush 6, 2) := by decide +kernel
theorem dX6_addBadge_8 : decode cX6_addBadge 8 = .ok (.bipush 17, 2) := by decide +kernel
theorem dX6_addBadge_10 : decode cX6_addBadge 10 = .ok (.invokestatic 60, 3) := by decide +kernel
theorem dX6_addBadge_13 : decode cX6_addBadge 13 = .ok (.ifCond .ne 9, 3) := by decide +kernel
theorem dX6_addBadge_16 : decode cX6_addBadge 16 = .ok (.aload_n 0, 1) := by decide +kernel
theorem dX6_addBadge_17 : decode cX6_addBadge 17 = .ok (.iconst 1, 1) := by decide +kernel
theorem dX6_addBadge_18 : decode cX6_addBadge 18 = .ok (.invokevirtual 79, 3) := by decide +kernel
theorem dX6_addBadge_21 : decode cX6_addBadge 21 = .ok (.ireturn, 1) := by decide +kernel
theorem dX6_addBadge_22 : decode cX6_addBadge 22 = .ok (.aload_n 0, 1) := by decide +kernel
theorem dX6_addBadge_23 : decode cX6_addBadge 23 = .ok (.getfield 76, 3) := by decide +kernel
theorem dX6_addBadge_26 : decode cX6_addBadge 26 = .ok (.bipush 8, 2) := by decide +kernel
theorem dX6_addBadge_28 : decode cX6_addBadge 28 = .ok (.if_icmp .ne 9, 3) := by decide +kernel
theorem dX6_addBadge_31 : decode cX6_addBadge 31 = .ok (.aload_n 0, 1) := by decide +kernel
theorem dX6_addBadge_32 : decode cX6_addBadge 32 = .ok (.iconst 2, 1) := by decide +kernel
theorem dX6_addBadge_33 : decode cX6_addBadge 33 = .ok (.invokevirtual 79, 3) := by decide +kernel
theorem dX6_addBadge_36 : decode cX6_addBadge 36 = .ok (.ireturn, 1) := by decide +kernel
theorem dX6_addBadge_37 : decode cX6_addBadge 37 = .ok (.aload_n 0, 1) := by decide +kernel
theorem dX6_addBadge_38 : decode cX6_addBadge 38 = .ok (.getfield 47, 3) := by decide +kernel
theorem dX6_addBadge_41 : decode cX6_addBadge 41 = .ok (.aload_n 0, 1) := by decide +kernel
theorem dX6_addBadge_42 : decode cX6_addBadge 42 = .ok (.getfield 76, 3) := by decide +kernel
theorem dX6_addBadge_45 : decode cX6_addBadge 45 = .ok (.iload_n 1, 1) := by decide +kernel
theorem dX6_addBadge_46 : decode cX6_addBadge 46 = .ok (.iastore, 1) := by decide +kernel
theorem dX6_addBadge_47 : decode cX6_addBadge 47 = .ok (.aload_n 0, 1) := by decide +kernel
theorem dX6_addBadge_48 : decode cX6_addBadge 48 = .ok (.dup, 1) := by decide +kernel
theorem dX6_addBadge_49 : decode cX6_addBadge 49 = .ok (.getfield 76, 3) := by decide +kernel
theorem dX6_addBadge_52 : decode cX6_addBadge 52 = .ok (.iconst 1, 1) := by decide +kernel
theorem dX6_addBadge_53 : decode cX6_addBadge 53 = .ok (.iadd, 1) := by decide +kernel
theorem dX6_addBadge_54 : decode cX6_addBadge 54 = .ok (.putfield 76, 3) := by decide +kernel
theorem dX6_addBadge_57 : decode cX6_addBadge 57 = .ok (.aload_n 0, 1) := by decide +kernel
theorem dX6_addBadge_58 : decode cX6_addBadge 58 = .ok (.getfield 76, 3) := by decide +kernel
theorem dX6_addBadge_61 : decode cX6_addBadge 61 = .ok (.iconst 1, 1) := by decide +kernel
theorem dX6_addBadge_62 : decode cX6_addBadge 62 = .ok (.isub, 1) := by decide +kernel
theorem dX6_addBadge_63 : decode cX6_addBadge 63 = .ok (.ireturn, 1) := by decide +kernel
set_option maxRecDepth 20000 in
theorem ggX6_isActivity_X6_isIn : GoodIn wsX6_isActivity wsX6_isIn := goodIn_r _ [4] (by decide +kernel) (by decide +kernel)
set_option maxRecDepth 20000 in
theorem gX6_isActivity_X6_isIn : GoodIn wsX6_isActivity (va_wsS RX6 60 yX6_isIn wsX6_isIn) := goodIn_app (goodIn_of _ (by decide +kernel)) ggX6_isActivity_X6_isIn
theorem dX6_isActivity_0 : decode cX6_isActivity 0 = .ok (.iload_n 0, 1) := by decide +kernel
theorem dX6_isActivity_1 : decode cX6_isActivity 1 = .ok (.iconst 0, 1) := by decide +kernel
theorem dX6_isActivity_2 : decode cX6_isActivity 2 = .ok (.bipush 9, 2) := by decide +kernel
theorem dX6_isActivity_4 : decode cX6_isActivity 4 = .ok (.invokestatic 60, 3) := by decide +kernel
theorem dX6_isActivity_7 : decode cX6_isActivity 7 = .ok (.ireturn, 1) := by decide +kernel
set_option maxRecDepth 20000 in
theorem ggX6_want_X6_isBadge : GoodIn wsX6_want wsX6_isBadge := goodIn_r _ [7, 8, 9, 10, 6, 11, 19, 20, 21, 22, 23, 24, 25, 26, 27, 28, 29, 30, 31, 32, 33, 34, 35, 36, 37, 38, 39, 40, 41] (by decide +kernel) (by decide +kernel)
set_option maxRecDepth 20000 in
theorem gX6_want_X6_isBadge : GoodIn wsX6_want (wsV RX6 165 RX6 yX6_isBadge wsX6_isBadge) := goodIn_app (goodIn_of _ (by decide +kernel)) ggX6_want_X6_isBadge
set_option maxRecDepth 20000 in
theorem ggX6_want_X6_isActivity : GoodIn wsX6_want wsX6_isActivity := goodIn_r _ [14, 9, 10, 6, 11] (by decide +kernel) (by decide +kernel)
set_option maxRecDepth 20000 in
theorem gX6_want_X6_isActivity : GoodIn wsX6_want (va_wsS RX6 168 yX6_isActivity wsX6_isActivity) := goodIn_app (goodIn_of _ (by decide +kernel)) ggX6_want_X6_isActivity
set_option maxRecDepth 20000 in
theorem ggX6_want_X6_no : GoodIn wsX6_want wsX6_no := goodIn_r _ [18, 1, 19, 20, 21, 22, 23, 24, 25, 26, 27, 28, 29, 30, 31, 32, 33, 34, 35, 36, 37, 38, 39, 40, 41] (by decide +kernel) (by decide +kernel)
set_option maxRecDepth 20000 in
theorem gX6_want_X6_no : GoodIn wsX6_want (wsV RX6 79 RX6 yX6_no wsX6_no) := goodIn_app (goodIn_of _ (by decide +kernel)) ggX6_want_X6_no
set_option maxRecDepth 20000 in
theorem ggX6_want_X6_isIn : GoodIn wsX6_want wsX6_isIn := goodIn_r _ [11] (by decide +kernel) (by decide +kernel)
set_option maxRecDepth 20000 in
theorem gX6_want_X6_isIn : GoodIn wsX6_want (va_wsS RX6 60 yX6_isIn wsX6_isIn) := goodIn_app (goodIn_of _ (by decide +kernel)) ggX6_want_X6_isIn
theorem dX6_want_0 : decode cX6_want 0 = .ok (.aload_n 0, 1) := by decide +kernel
theorem dX6_want_1 : decode cX6_want 1 = .ok (.iconst 0, 1) := by decide +kernel
theorem dX6_want_2 : decode cX6_want 2 = .ok (.putfield 53, 3) := by decide +kernel
theorem dX6_want_5 : decode cX6_want 5 = .ok (.aload_n 0, 1) := by decide +kernel
theorem dX6_want_6 : decode cX6_want 6 = .ok (.iload_n 1, 1) := by decide +kernel
theorem dX6_want_7 : decode cX6_want 7 = .ok (.invokevirtual 165, 3) := by decide +kernel
theorem dX6_want_10 : decode cX6_want 10 = .ok (.ifCond .eq 10, 3) := by decide +kernel
theorem dX6_want_13 : decode cX6_want 13 = .ok (.iload_n 2, 1) := by decide +kernel
theorem dX6_want_14 : decode cX6_want 14 = .ok (.invokestatic 168, 3) := by decide +kernel
theorem dX6_want_17 : decode cX6_want 17 = .ok (.ifCond .ne 9, 3) := by decide +kernel
theorem dX6_want_20 : decode cX6_want 20 = .ok (.aload_n 0, 1) := by decide +kernel
theorem dX6_want_21 : decode cX6_want 21 = .ok (.iconst 1, 1) := by decide +kernel
theorem dX6_want_22 : decode cX6_want 22 = .ok (.invokevirtual 79, 3) := by decide +kernel
theorem dX6_want_25 : decode cX6_want 25 = .ok (.ireturn, 1) := by decide +kernel
theorem dX6_want_26 : decode cX6_want 26 = .ok (.iload_n 3, 1) := by decide +kernel
theorem dX6_want_27 : decode cX6_want 27 = .ok (.iconst 0, 1) := by decide +kernel
theorem dX6_want_28 : decode cX6_want 28 = .ok (.bipush 100, 2) := by decide +kernel
theorem dX6_want_30 : decode cX6_want 30 = .ok (.invokestatic 60, 3) := by decide +kernel
theorem dX6_want_33 : decode cX6_want 33 = .ok (.ifCond .ne 9, 3) := by decide +kernel
theorem dX6_want_36 : decode cX6_want 36 = .ok (.aload_n 0, 1) := by decide +kernel
theorem dX6_want_37 : decode cX6_want 37 = .ok (.iconst 2, 1) := by decide +kernel
theorem dX6_want_38 : decode cX6_want 38 = .ok (.invokevirtual 79, 3) := by decide +kernel
theorem dX6_want_41 : decode cX6_want 41 = .ok (.ireturn, 1) := by decide +kernel
theorem dX6_want_42 : decode cX6_want 42 = .ok (.aload_n 0, 1) := by decide +kernel
theorem dX6_want_43 : decode cX6_want 43 = .ok (.getfield 50, 3) := by decide +kernel
theorem dX6_want_46 : decode cX6_want 46 = .ok (.bipush 10, 2) := by decide +kernel
theorem dX6_want_48 : decode cX6_want 48 = .ok (.iload_n 1, 1) := by decide +kernel
theorem dX6_want_49 : decode cX6_want 49 = .ok (.imul, 1) := by decide +kernel
theorem dX6_want_50 : decode cX6_want 50 = .ok (.iload_n 2, 1) := by decide +kernel
theorem dX6_want_51 : decode cX6_want 51 = .ok (.iadd, 1) := by decide +kernel
theorem dX6_want_52 : decode cX6_want 52 = .ok (.iaload, 1) := by decide +kernel
theorem dX6_want_53 : decode cX6_want 53 = .ok (.istore 4, 2) := by decide +kernel
theorem dX6_want_55 : decode cX6_want 55 = .ok (.aload_n 0, 1) := by decide +kernel
theorem dX6_want_56 : decode cX6_want 56 = .ok (.getfield 50, 3) := by decide +kernel
theorem dX6_want_59 : decode cX6_want 59 = .ok (.bipush 10, 2) := by decide +kernel
theorem dX6_want_61 : decode cX6_want 61 = .ok (.iload_n 1, 1) := by decide +kernel
theorem dX6_want_62 : decode cX6_want 62 = .ok (.imul, 1) := by decide +kernel
theorem dX6_want_63 : decode cX6_want 63 = .ok (.iload_n 2, 1) := by decide +kernel
theorem dX6_want_64 : decode cX6_want 64 = .ok (.iadd, 1) := by decide +kernel
theorem dX6_want_65 : decode cX6_want 65 = .ok (.iload_n 3, 1) := by decide +kernel
theorem dX6_want_66 : decode cX6_want 66 = .ok (.iastore, 1) := by decide +kernel
theorem dX6_want_67 : decode cX6_want 67 = .ok (.iload 4, 2) := by decide +kernel
theorem dX6_want_69 : decode cX6_want 69 = .ok (.ireturn, 1) := by decide +kernel
set_option maxRecDepth 20000 in
theorem ggX6_practise_X6_isPatrol : GoodIn wsX6_practise wsX6_isPatrol := goodIn_r _ [9, 10, 11, 12, 8, 13, 21, 22, 23, 24, 25, 26, 27, 28, 29, 30, 31, 32, 33, 34, 35, 36, 37, 38, 39, 40, 41, 42, 43] (by decide +kernel) (by decide +kernel)
set_option maxRecDepth 20000 in
theorem gX6_practise_X6_isPatrol : GoodIn wsX6_practise (wsV RX6 83 RX6 yX6_isPatrol wsX6_isPatrol) := goodIn_app (goodIn_of _ (by decide +kernel)) ggX6_practise_X6_isPatrol
set_option maxRecDepth 20000 in
theorem ggX6_practise_X6_isActivity : GoodIn wsX6_practise wsX6_isActivity := goodIn_r _ [16, 11, 12, 8, 13] (by decide +kernel) (by decide +kernel)
set_option maxRecDepth 20000 in
theorem gX6_practise_X6_isActivity : GoodIn wsX6_practise (va_wsS RX6 168 yX6_isActivity wsX6_isActivity) := goodIn_app (goodIn_of _ (by decide +kernel)) ggX6_practise_X6_isActivity
set_option maxRecDepth 20000 in
theorem ggX6_practise_X6_no : GoodIn wsX6_practise wsX6_no := goodIn_r _ [20, 1, 21, 22, 23, 24, 25, 26, 27, 28, 29, 30, 31, 32, 33, 34, 35, 36, 37, 38, 39, 40, 41, 42, 43] (by decide +kernel) (by decide +kernel)
set_option maxRecDepth 20000 in
theorem gX6_practise_X6_no : GoodIn wsX6_practise (wsV RX6 79 RX6 yX6_no wsX6_no) := goodIn_app (goodIn_of _ (by decide +kernel)) ggX6_practise_X6_no
set_option maxRecDepth 20000 in
theorem ggX6_practise_X6_isIn : GoodIn wsX6_practise wsX6_isIn := goodIn_r _ [13] (by decide +kernel) (by decide +kernel)
set_option maxRecDepth 20000 in
theorem gX6_practise_X6_isIn : GoodIn wsX6_practise (va_wsS RX6 60 yX6_isIn wsX6_isIn) := goodIn_app (goodIn_of _ (by decide +kernel)) ggX6_practise_X6_isIn
theorem dX6_practise_0 : decode cX6_practise 0 = .ok (.aload_n 0, 1) := by decide +kernel
theorem dX6_practise_1 : decode cX6_practise 1 = .ok (.iconst 0, 1) := by decide +kernel
theorem dX6_practise_2 : decode cX6_practise 2 = .ok (.putfield 53, 3) := by decide +kernel
theorem dX6_practise_5 : decode cX6_practise 5 = .ok (.aload_n 0, 1) := by decide +kernel
theorem dX6_practise_6 : decode cX6_practise 6 = .ok (.iload_n 1, 1) := by decide +kernel
theorem dX6_practise_7 : decode cX6_practise 7 = .ok (.invokevirtual 83, 3) := by decide +kernel
theorem dX6_practise_10 : decode cX6_practise 10 = .ok (.ifCond .eq 10, 3) := by decide +kernel
theorem dX6_practise_13 : decode cX6_practise 13 = .ok (.iload_n 2, 1) := by decide +kernel
theorem dX6_practise_14 : decode cX6_practise 14 = .ok (.invokestatic 168, 3) := by decide +kernel
theorem dX6_practise_17 : decode cX6_practise 17 = .ok (.ifCond .ne 9, 3) := by decide +kernel
theorem dX6_practise_20 : decode cX6_practise 20 = .ok (.aload_n 0, 1) := by decide +kernel
theorem dX6_practise_21 : decode cX6_practise 21 = .ok (.iconst 1, 1) := by decide +kernel
theorem dX6_practise_22 : decode cX6_practise 22 = .ok (.invokevirtual 79, 3) := by decide +kernel
theorem dX6_practise_25 : decode cX6_practise 25 = .ok (.ireturn, 1) := by decide +kernel
theorem dX6_practise_26 : decode cX6_practise 26 = .ok (.iload_n 3, 1) := by decide +kernel
theorem dX6_practise_27 : decode cX6_practise 27 = .ok (.iconst 1, 1) := by decide +kernel
theorem dX6_practise_28 : decode cX6_practise 28 = .ok (.bipush 24, 2) := by decide +kernel
theorem dX6_practise_30 : decode cX6_practise 30 = .ok (.invokestatic 60, 3) := by decide +kernel
theorem dX6_practise_33 : decode cX6_practise 33 = .ok (.ifCond .ne 9, 3) := by decide +kernel
theorem dX6_practise_36 : decode cX6_practise 36 = .ok (.aload_n 0, 1) := by decide +kernel
theorem dX6_practise_37 : decode cX6_practise 37 = .ok (.iconst 2, 1) := by decide +kernel
theorem dX6_practise_38 : decode cX6_practise 38 = .ok (.invokevirtual 79, 3) := by decide +kernel
theorem dX6_practise_41 : decode cX6_practise 41 = .ok (.ireturn, 1) := by decide +kernel
theorem dX6_practise_42 : decode cX6_practise 42 = .ok (.iconst 0, 1) := by decide +kernel
theorem dX6_practise_43 : decode cX6_practise 43 = .ok (.istore 4, 2) := by decide +kernel
theorem dX6_practise_45 : decode cX6_practise 45 = .ok (.iconst 0, 1) := by decide +kernel
theorem dX6_practise_46 : decode cX6_practise 46 = .ok (.istore 5, 2) := by decide +kernel
theorem dX6_practise_48 : decode cX6_practise 48 = .ok (.iload 5, 2) := by decide +kernel
theorem dX6_practise_50 : decode cX6_practise 50 = .ok (.aload_n 0, 1) := by decide +kernel
theorem dX6_practise_51 : decode cX6_practise 51 = .ok (.getfield 64, 3) := by decide +kernel
theorem dX6_practise_54 : decode cX6_practise 54 = .ok (.if_icmp .ge 42, 3) := by decide +kernel
theorem dX6_practise_57 : decode cX6_practise 57 = .ok (.aload_n 0, 1) := by decide +kernel
theorem dX6_practise_58 : decode cX6_practise 58 = .ok (.getfield 9, 3) := by decide +kernel
theorem dX6_practise_61 : decode cX6_practise 61 = .ok (.iload 5, 2) := by decide +kernel
theorem dX6_practise_63 : decode cX6_practise 63 = .ok (.iaload, 1) := by decide +kernel
theorem dX6_practise_64 : decode cX6_practise 64 = .ok (.iload_n 1, 1) := by decide +kernel
theorem dX6_practise_65 : decode cX6_practise 65 = .ok (.if_icmp .eq 6, 3) := by decide +kernel
theorem dX6_practise_68 : decode cX6_practise 68 = .ok (.goto 22, 3) := by decide +kernel
theorem dX6_practise_71 : decode cX6_practise 71 = .ok (.aload_n 0, 1) := by decide +kernel
theorem dX6_practise_72 : decode cX6_practise 72 = .ok (.getfield 28, 3) := by decide +kernel
theorem dX6_practise_75 : decode cX6_practise 75 = .ok (.bipush 10, 2) := by decide +kernel
theorem dX6_practise_77 : decode cX6_practise 77 = .ok (.iload 5, 2) := by decide +kernel
theorem dX6_practise_79 : decode cX6_practise 79 = .ok (.imul, 1) := by decide +kernel
theorem dX6_practise_80 : decode cX6_practise 80 = .ok (.iload_n 2, 1) := by decide +kernel
theorem dX6_practise_81 : decode cX6_practise 81 = .ok (.iadd, 1) := by decide +kernel
theorem dX6_practise_82 : decode cX6_practise 82 = .ok (.dup2, 1) := by decide +kernel
theorem dX6_practise_83 : decode cX6_practise 83 = .ok (.iaload, 1) := by decide +kernel
theorem dX6_practise_84 : decode cX6_practise 84 = .ok (.iload_n 3, 1) := by decide +kernel
theorem dX6_practise_85 : decode cX6_practise 85 = .ok (.iadd, 1) := by decide +kernel
theorem dX6_practise_86 : decode cX6_practise 86 = .ok (.iastore, 1) := by decide +kernel
theorem dX6_practise_87 : decode cX6_practise 87 = .ok (.iinc 4 1, 3) := by decide +kernel
theorem dX6_practise_90 : decode cX6_practise 90 = .ok (.iinc 5 1, 3) := by decide +kernel
theorem dX6_practise_93 : decode cX6_practise 93 = .ok (.goto (-45), 3) := by decide +kernel
theorem dX6_practise_96 : decode cX6_practise 96 = .ok (.iload 4, 2) := by decide +kernel
theorem dX6_practise_98 : decode cX6_practise 98 = .ok (.ireturn, 1) := by decide +kernel
theorem dX6_awayFrom_0 : decode cX6_awayFrom 0 = .ok (.aload_n 0, 1) := by decide +kernel
theorem dX6_awayFrom_1 : decode cX6_awayFrom 1 = .ok (.getfield 25, 3) := by decide +kernel
theorem dX6_awayFrom_4 : decode cX6_awayFrom 4 = .ok (.iload_n 1, 1) := by decide +kernel
theorem dX6_awayFrom_5 : decode cX6_awayFrom 5 = .ok (.iaload, 1) := by decide +kernel
theorem dX6_awayFrom_6 : decode cX6_awayFrom 6 = .ok (.iload_n 2, 1) := by decide +kernel
theorem dX6_awayFrom_7 : decode cX6_awayFrom 7 = .ok (.ishr, 1) := by decide +kernel
theorem dX6_awayFrom_8 : decode cX6_awayFrom 8 = .ok (.iconst 1, 1) := by decide +kernel
theorem dX6_awayFrom_9 : decode cX6_awayFrom 9 = .ok (.iand, 1) := by decide +kernel
theorem dX6_awayFrom_10 : decode cX6_awayFrom 10 = .ok (.iconst 1, 1) := by decide +kernel
theorem dX6_awayFrom_11 : decode cX6_awayFrom 11 = .ok (.if_icmp .ne 6, 3) := by decide +kernel
theorem dX6_awayFrom_14 : decode cX6_awayFrom 14 = .ok (.bipush (-2), 2) := by decide +kernel
theorem dX6_awayFrom_16 : decode cX6_awayFrom 16 = .ok (.ireturn, 1) := by decide +kernel
theorem dX6_awayFrom_17 : decode cX6_awayFrom 17 = .ok (.aload_n 0, 1) := by decide +kernel
theorem dX6_awayFrom_18 : decode cX6_awayFrom 18 = .ok (.getfield 13, 3) := by decide +kernel
theorem dX6_awayFrom_21 : decode cX6_awayFrom 21 = .ok (.iload_n 1, 1) := by decide +kernel
theorem dX6_awayFrom_22 : decode cX6_awayFrom 22 = .ok (.iaload, 1) := by decide +kernel
theorem dX6_awayFrom_23 : decode cX6_awayFrom 23 = .ok (.aload_n 0, 1) := by decide +kernel
theorem dX6_awayFrom_24 : decode cX6_awayFrom 24 = .ok (.getfield 47, 3) := by decide +kernel
theorem dX6_awayFrom_27 : decode cX6_awayFrom 27 = .ok (.iload_n 2, 1) := by decide +kernel
theorem dX6_awayFrom_28 : decode cX6_awayFrom 28 = .ok (.iaload, 1) := by decide +kernel
theorem dX6_awayFrom_29 : decode cX6_awayFrom 29 = .ok (.if_icmp .ge 5, 3) := by decide +kernel
theorem dX6_awayFrom_32 : decode cX6_awayFrom 32 = .ok (.iconst (-1), 1) := by decide +kernel
theorem dX6_awayFrom_33 : decode cX6_awayFrom 33 = .ok (.ireturn, 1) := by decide +kernel
theorem dX6_awayFrom_34 : decode cX6_awayFrom 34 = .ok (.iconst 0, 1) := by decide +kernel
theorem dX6_awayFrom_35 : decode cX6_awayFrom 35 = .ok (.istore_n 3, 1) := by decide +kernel
theorem dX6_awayFrom_36 : decode cX6_awayFrom 36 = .ok (.iconst 0, 1) := by decide +kernel
theorem dX6_awayFrom_37 : decode cX6_awayFrom 37 = .ok (.istore 4, 2) := by decide +kernel
theorem dX6_awayFrom_39 : decode cX6_awayFrom 39 = .ok (.iload 4, 2) := by decide +kernel
theorem dX6_awayFrom_41 : decode cX6_awayFrom 41 = .ok (.bipush 10, 2) := by decide +kernel
theorem dX6_awayFrom_43 : decode cX6_awayFrom 43 = .ok (.if_icmp .ge 41, 3) := by decide +kernel
theorem dX6_awayFrom_46 : decode cX6_awayFrom 46 = .ok (.iload_n 3, 1) := by decide +kernel
theorem dX6_awayFrom_47 : decode cX6_awayFrom 47 = .ok (.iconst 0, 1) := by decide +kernel
theorem dX6_awayFrom_48 : decode cX6_awayFrom 48 = .ok (.aload_n 0, 1) := by decide +kernel
theorem dX6_awayFrom_49 : decode cX6_awayFrom 49 = .ok (.getfield 50, 3) := by decide +kernel
theorem dX6_awayFrom_52 : decode cX6_awayFrom 52 = .ok (.bipush 10, 2) := by decide +kernel
theorem dX6_awayFrom_54 : decode cX6_awayFrom 54 = .ok (.iload_n 2, 1) := by decide +kernel
theorem dX6_awayFrom_55 : decode cX6_awayFrom 55 = .ok (.imul, 1) := by decide +kernel
theorem dX6_awayFrom_56 : decode cX6_awayFrom 56 = .ok (.iload 4, 2) := by decide +kernel
theorem dX6_awayFrom_58 : decode cX6_awayFrom 58 = .ok (.iadd, 1) := by decide +kernel
theorem dX6_awayFrom_59 : decode cX6_awayFrom 59 = .ok (.iaload, 1) := by decide +kernel
theorem dX6_awayFrom_60 : decode cX6_awayFrom 60 = .ok (.aload_n 0, 1) := by decide +kernel
theorem dX6_awayFrom_61 : decode cX6_awayFrom 61 = .ok (.getfield 28, 3) := by decide +kernel
theorem dX6_awayFrom_64 : decode cX6_awayFrom 64 = .ok (.bipush 10, 2) := by decide +kernel
theorem dX6_awayFrom_66 : decode cX6_awayFrom 66 = .ok (.iload_n 1, 1) := by decide +kernel
theorem dX6_awayFrom_67 : decode cX6_awayFrom 67 = .ok (.imul, 1) := by decide +kernel
theorem dX6_awayFrom_68 : decode cX6_awayFrom 68 = .ok (.iload 4, 2) := by decide +kernel
theorem dX6_awayFrom_70 : decode cX6_awayFrom 70 = .ok (.iadd, 1) := by decide +kernel
theorem dX6_awayFrom_71 : decode cX6_awayFrom 71 = .ok (.iaload, 1) := by decide +kernel
theorem dX6_awayFrom_72 : decode cX6_awayFrom 72 = .ok (.isub, 1) := by decide +kernel
theorem dX6_awayFrom_73 : decode cX6_awayFrom 73 = .ok (.invokestatic 153, 3) := by decide +kernel
theorem dX6_awayFrom_76 : decode cX6_awayFrom 76 = .ok (.iadd, 1) := by decide +kernel
theorem dX6_awayFrom_77 : decode cX6_awayFrom 77 = .ok (.istore_n 3, 1) := by decide +kernel
theorem dX6_awayFrom_78 : decode cX6_awayFrom 78 = .ok (.iinc 4 1, 3) := by decide +kernel
theorem dX6_awayFrom_81 : decode cX6_awayFrom 81 = .ok (.goto (-42), 3) := by decide +kernel
theorem dX6_awayFrom_84 : decode cX6_awayFrom 84 = .ok (.iload_n 3, 1) := by decide +kernel
theorem dX6_awayFrom_85 : decode cX6_awayFrom 85 = .ok (.ireturn, 1) := by decide +kernel
set_option maxRecDepth 20000 in
theorem ggX6_away_X6_isScout : GoodIn wsX6_away wsX6_isScout := goodIn_r _ [6, 7, 8, 9, 5, 10, 33, 34, 35, 36, 37, 38, 39, 40, 41, 42, 43, 44, 45, 46, 47, 48, 49, 50, 51, 52, 53, 54, 55] (by decide +kernel) (by decide +kernel)
set_option maxRecDepth 20000 in
theorem gX6_away_X6_isScout : GoodIn wsX6_away (wsV RX6 90 RX6 yX6_isScout wsX6_isScout) := goodIn_app (goodIn_of _ (by decide +kernel)) ggX6_away_X6_isScout
set_option maxRecDepth 20000 in
theorem ggX6_away_X6_isBadge : GoodIn wsX6_away wsX6_isBadge := goodIn_r _ [14, 15, 8, 9, 5, 10, 33, 34, 35, 36, 37, 38, 39, 40, 41, 42, 43, 44, 45, 46, 47, 48, 49, 50, 51, 52, 53, 54, 55] (by decide +kernel) (by decide +kernel)
set_option maxRecDepth 20000 in
theorem gX6_away_X6_isBadge : GoodIn wsX6_away (wsV RX6 165 RX6 yX6_isBadge wsX6_isBadge) := goodIn_app (goodIn_of _ (by decide +kernel)) ggX6_away_X6_isBadge
set_option maxRecDepth 20000 in
theorem ggX6_away_X6_awayFrom : GoodIn wsX6_away wsX6_awayFrom := goodIn_r _ [19, 20, 21, 22, 23, 24, 25, 26, 27, 28, 33, 34, 35, 36, 37, 38, 39, 40, 41, 42, 43, 44, 45, 46, 47, 48, 49, 50, 51, 52, 53, 54, 55] (by decide +kernel) (by decide +kernel)
set_option maxRecDepth 20000 in
theorem gX6_away_X6_awayFrom : GoodIn wsX6_away (wsV RX6 171 RX6 yX6_awayFrom wsX6_awayFrom) := goodIn_app (goodIn_of _ (by decide +kernel)) ggX6_away_X6_awayFrom
set_option maxRecDepth 20000 in
theorem ggX6_away_X6_no : GoodIn wsX6_away wsX6_no := goodIn_r _ [32, 1, 33, 34, 35, 36, 37, 38, 39, 40, 41, 42, 43, 44, 45, 46, 47, 48, 49, 50, 51, 52, 53, 54, 55] (by decide +kernel) (by decide +kernel)
set_option maxRecDepth 20000 in
theorem gX6_away_X6_no : GoodIn wsX6_away (wsV RX6 79 RX6 yX6_no wsX6_no) := goodIn_app (goodIn_of _ (by decide +kernel)) ggX6_away_X6_no
theorem dX6_away_0 : decode cX6_away 0 = .ok (.aload_n 0, 1) := by decide +kernel
theorem dX6_away_1 : decode cX6_away 1 = .ok (.iconst 0, 1) := by decide +kernel
theorem dX6_away_2 : decode cX6_away 2 = .ok (.putfield 53, 3) := by decide +kernel
theorem dX6_away_5 : decode cX6_away 5 = .ok (.aload_n 0, 1) := by decide +kernel
theorem dX6_away_6 : decode cX6_away 6 = .ok (.iload_n 1, 1) := by decide +kernel
theorem dX6_away_7 : decode cX6_away 7 = .ok (.invokevirtual 90, 3) := by decide +kernel
theorem dX6_away_10 : decode cX6_away 10 = .ok (.ifCond .eq 20, 3) := by decide +kernel
theorem dX6_away_13 : decode cX6_away 13 = .ok (.aload_n 0, 1) := by decide +kernel
theorem dX6_away_14 : decode cX6_away 14 = .ok (.iload_n 2, 1) := by decide +kernel
theorem dX6_away_15 : decode cX6_away 15 = .ok (.invokevirtual 165, 3) := by decide +kernel
theorem dX6_away_18 : decode cX6_away 18 = .ok (.ifCond .eq 12, 3) := by decide +kernel
theorem dX6_away_21 : decode cX6_away 21 = .ok (.aload_n 0, 1) := by decide +kernel
theorem dX6_away_22 : decode cX6_away 22 = .ok (.iload_n 1, 1) := by decide +kernel
theorem dX6_away_23 : decode cX6_away 23 = .ok (.iload_n 2, 1) := by decide +kernel
theorem dX6_away_24 : decode cX6_away 24 = .ok (.invokevirtual 171, 3) := by decide +kernel
theorem dX6_away_27 : decode cX6_away 27 = .ok (.goto 8, 3) := by decide +kernel
theorem dX6_away_30 : decode cX6_away 30 = .ok (.aload_n 0, 1) := by decide +kernel
theorem dX6_away_31 : decode cX6_away 31 = .ok (.iconst 1, 1) := by decide +kernel
theorem dX6_away_32 : decode cX6_away 32 = .ok (.invokevirtual 79, 3) := by decide +kernel
theorem dX6_away_35 : decode cX6_away 35 = .ok (.ireturn, 1) := by decide +kernel
set_option maxRecDepth 20000 in
theorem ggX6_earn_X6_isScout : GoodIn wsX6_earn wsX6_isScout := goodIn_r _ [7, 8, 9, 10, 6, 11, 33, 34, 35, 36, 37, 38, 39, 40, 41, 42, 43, 44, 45, 46, 47, 48, 49, 50, 51, 52, 53, 54, 55] (by decide +kernel) (by decide +kernel)
set_option maxRecDepth 20000 in
theorem gX6_earn_X6_isScout : GoodIn wsX6_earn (wsV RX6 90 RX6 yX6_isScout wsX6_isScout) := goodIn_app (goodIn_of _ (by decide +kernel)) ggX6_earn_X6_isScout
set_option maxRecDepth 20000 in
theorem ggX6_earn_X6_isBadge : GoodIn wsX6_earn wsX6_isBadge := goodIn_r _ [15, 16, 9, 10, 6, 11, 33, 34, 35, 36, 37, 38, 39, 40, 41, 42, 43, 44, 45, 46, 47, 48, 49, 50, 51, 52, 53, 54, 55] (by decide +kernel) (by decide +kernel)
set_option maxRecDepth 20000 in
theorem gX6_earn_X6_isBadge : GoodIn wsX6_earn (wsV RX6 165 RX6 yX6_isBadge wsX6_isBadge) := goodIn_app (goodIn_of _ (by decide +kernel)) ggX6_earn_X6_isBadge
set_option maxRecDepth 20000 in
theorem ggX6_earn_X6_no : GoodIn wsX6_earn wsX6_no := goodIn_r _ [20, 1, 33, 34, 35, 36, 37, 38, 39, 40, 41, 42, 43, 44, 45, 46, 47, 48, 49, 50, 51, 52, 53, 54, 55] (by decide +kernel) (by decide +kernel)
set_option maxRecDepth 20000 in
theorem gX6_earn_X6_no : GoodIn wsX6_earn (wsV RX6 79 RX6 yX6_no wsX6_no) := goodIn_app (goodIn_of _ (by decide +kernel)) ggX6_earn_X6_no
set_option maxRecDepth 20000 in
theorem ggX6_earn_X6_awayFrom : GoodIn wsX6_earn wsX6_awayFrom := goodIn_r _ [24, 2, 25, 26, 27, 28, 29, 30, 31, 32, 33, 34, 35, 36, 37, 38, 39, 40, 41, 42, 43, 44, 45, 46, 47, 48, 49, 50, 51, 52, 53, 54, 55] (by decide +kernel) (by decide +kernel)
set_option maxRecDepth 20000 in
theorem gX6_earn_X6_awayFrom : GoodIn wsX6_earn (wsV RX6 171 RX6 yX6_awayFrom wsX6_awayFrom) := goodIn_app (goodIn_of _ (by decide +kernel)) ggX6_earn_X6_awayFrom
theorem dX6_earn_0 : decode cX6_earn 0 = .ok (.aload_n 0, 1) := by decide +kernel
theorem dX6_earn_1 : decode cX6_earn 1 = .ok (.iconst 0, 1) := by decide +kernel
theorem dX6_earn_2 : decode cX6_earn 2 = .ok (.putfield 53, 3) := by decide +kernel
theorem dX6_earn_5 : decode cX6_earn 5 = .ok (.aload_n 0, 1) := by decide +kernel
theorem dX6_earn_6 : decode cX6_earn 6 = .ok (.iload_n 1, 1) := by decide +kernel
theorem dX6_earn_7 : decode cX6_earn 7 = .ok (.invokevirtual 90, 3) := by decide +kernel
theorem dX6_earn_10 : decode cX6_earn 10 = .ok (.ifCond .eq 11, 3) := by decide +kernel
theorem dX6_earn_13 : decode cX6_earn 13 = .ok (.aload_n 0, 1) := by decide +kernel
theorem dX6_earn_14 : decode cX6_earn 14 = .ok (.iload_n 2, 1) := by decide +kernel
theorem dX6_earn_15 : decode cX6_earn 15 = .ok (.invokevirtual 165, 3) := by decide +kernel
theorem dX6_earn_18 : decode cX6_earn 18 = .ok (.ifCond .ne 9, 3) := by decide +kernel
theorem dX6_earn_21 : decode cX6_earn 21 = .ok (.aload_n 0, 1) := by decide +kernel
theorem dX6_earn_22 : decode cX6_earn 22 = .ok (.iconst 1, 1) := by decide +kernel
theorem dX6_earn_23 : decode cX6_earn 23 = .ok (.invokevirtual 79, 3) := by decide +kernel
theorem dX6_earn_26 : decode cX6_earn 26 = .ok (.ireturn, 1) := by decide +kernel
theorem dX6_earn_27 : decode cX6_earn 27 = .ok (.aload_n 0, 1) := by decide +kernel
theorem dX6_earn_28 : decode cX6_earn 28 = .ok (.iload_n 1, 1) := by decide +kernel
theorem dX6_earn_29 : decode cX6_earn 29 = .ok (.iload_n 2, 1) := by decide +kernel
theorem dX6_earn_30 : decode cX6_earn 30 = .ok (.invokevirtual 171, 3) := by decide +kernel
theorem dX6_earn_33 : decode cX6_earn 33 = .ok (.ifCond .eq 9, 3) := by decide +kernel
theorem dX6_earn_36 : decode cX6_earn 36 = .ok (.aload_n 0, 1) := by decide +kernel
theorem dX6_earn_37 : decode cX6_earn 37 = .ok (.iconst 2, 1) := by decide +kernel
theorem dX6_earn_38 : decode cX6_earn 38 = .ok (.invokevirtual 79, 3) := by decide +kernel
theorem dX6_earn_41 : decode cX6_earn 41 = .ok (.ireturn, 1) := by decide +kernel
theorem dX6_earn_42 : decode cX6_earn 42 = .ok (.aload_n 0, 1) := by decide +kernel
theorem dX6_earn_43 : decode cX6_earn 43 = .ok (.getfield 25, 3) := by decide +kernel
theorem dX6_earn_46 : decode cX6_earn 46 = .ok (.iload_n 1, 1) := by decide +kernel
theorem dX6_earn_47 : decode cX6_earn 47 = .ok (.dup2, 1) := by decide +kernel
theorem dX6_earn_48 : decode cX6_earn 48 = .ok (.iaload, 1) := by decide +kernel
theorem dX6_earn_49 : decode cX6_earn 49 = .ok (.iconst 1, 1) := by decide +kernel
theorem dX6_earn_50 : decode cX6_earn 50 = .ok (.iload_n 2, 1) := by decide +kernel
theorem dX6_earn_51 : decode cX6_earn 51 = .ok (.ishl, 1) := by decide +kernel
theorem dX6_earn_52 : decode cX6_earn 52 = .ok (.iadd, 1) := by decide +kernel
theorem dX6_earn_53 : decode cX6_earn 53 = .ok (.iastore, 1) := by decide +kernel
theorem dX6_earn_54 : decode cX6_earn 54 = .ok (.iconst 0, 1) := by decide +kernel
theorem dX6_earn_55 : decode cX6_earn 55 = .ok (.istore_n 3, 1) := by decide +kernel
theorem dX6_earn_56 : decode cX6_earn 56 = .ok (.iconst 0, 1) := by decide +kernel
theorem dX6_earn_57 : decode cX6_earn 57 = .ok (.istore 4, 2) := by decide +kernel
theorem dX6_earn_59 : decode cX6_earn 59 = .ok (.iload 4, 2) := by decide +kernel
theorem dX6_earn_61 : decode cX6_earn 61 = .ok (.bipush 8, 2) := by decide +kernel
theorem dX6_earn_63 : decode cX6_earn 63 = .ok (.if_icmp .ge 23, 3) := by decide +kernel
theorem dX6_earn_66 : decode cX6_earn 66 = .ok (.iload_n 3, 1) := by decide +kernel
theorem dX6_earn_67 : decode cX6_earn 67 = .ok (.aload_n 0, 1) := by decide +kernel
theorem dX6_earn_68 : decode cX6_earn 68 = .ok (.getfield 25, 3) := by decide +kernel
theorem dX6_earn_71 : decode cX6_earn 71 = .ok (.iload_n 1, 1) := by decide +kernel
theorem dX6_earn_72 : decode cX6_earn 72 = .ok (.iaload, 1) := by decide +kernel
theorem dX6_earn_73 : decode cX6_earn 73 = .ok (.iload 4, 2) := by decide +kernel
theorem dX6_earn_75 : decode cX6_earn 75 = .ok (.ishr, 1) := by decide +kernel
theorem dX6_earn_76 : decode cX6_earn 76 = .ok (.iconst 1, 1) := by decide +kernel
theorem dX6_earn_77 : decode cX6_earn 77 = .ok (.iand, 1) := by decide +kernel
theorem dX6_earn_78 : decode cX6_earn 78 = .ok (.iadd, 1) := by decide +kernel
theorem dX6_earn_79 : decode cX6_earn 79 = .ok (.istore_n 3, 1) := by decide +kernel
theorem dX6_earn_80 : decode cX6_earn 80 = .ok (.iinc 4 1, 3) := by decide +kernel
theorem dX6_earn_83 : decode cX6_earn 83 = .ok (.goto (-24), 3) := by decide +kernel
theorem dX6_earn_86 : decode cX6_earn 86 = .ok (.iload_n 3, 1) := by decide +kernel
theorem dX6_earn_87 : decode cX6_earn 87 = .ok (.ireturn, 1) := by decide +kernel
set_option maxRecDepth 20000 in
theorem ggX6_hike_X6_isIn : GoodIn wsX6_hike wsX6_isIn := goodIn_r _ [12] (by decide +kernel) (by decide +kernel)
set_option maxRecDepth 20000 in
theorem gX6_hike_X6_isIn : GoodIn wsX6_hike (va_wsS RX6 60 yX6_isIn wsX6_isIn) := goodIn_app (goodIn_of _ (by decide +kernel)) ggX6_hike_X6_isIn
set_option maxRecDepth 20000 in
theorem ggX6_hike_X6_no : GoodIn wsX6_hike wsX6_no := goodIn_r _ [16, 1, 17, 18, 19, 20, 21, 22, 23, 24, 25, 26, 27, 28, 29, 30, 31, 32, 33, 34, 35, 36, 37, 38, 39] (by decide +kernel) (by decide +kernel)
set_option maxRecDepth 20000 in
theorem gX6_hike_X6_no : GoodIn wsX6_hike (wsV RX6 79 RX6 yX6_no wsX6_no) := goodIn_app (goodIn_of _ (by decide +kernel)) ggX6_hike_X6_no
theorem dX6_hike_0 : decode cX6_hike 0 = .ok (.aload_n 0, 1) := by decide +kernel
theorem dX6_hike_1 : decode cX6_hike 1 = .ok (.iconst 0, 1) := by decide +kernel
theorem dX6_hike_2 : decode cX6_hike 2 = .ok (.putfield 53, 3) := by decide +kernel
theorem dX6_hike_5 : decode cX6_hike 5 = .ok (.lload_n 1, 1) := by decide +kernel
theorem dX6_hike_6 : decode cX6_hike 6 = .ok (.lconst 0, 1) := by decide +kernel
theorem dX6_hike_7 : decode cX6_hike 7 = .ok (.lcmp, 1) := by decide +kernel
theorem dX6_hike_8 : decode cX6_hike 8 = .ok (.ifCond .le 36, 3) := by decide +kernel
theorem dX6_hike_11 : decode cX6_hike 11 = .ok (.lload_n 1, 1) := by decide +kernel
theorem dX6_hike_12 : decode cX6_hike 12 = .ok (.aload_n 0, 1) := by decide +kernel
theorem dX6_hike_13 : decode cX6_hike 13 = .ok (.getfield 64, 3) := by decide +kernel
theorem dX6_hike_16 : decode cX6_hike 16 = .ok (.lshr, 1) := by decide +kernel
theorem dX6_hike_17 : decode cX6_hike 17 = .ok (.lconst 0, 1) := by decide +kernel
theorem dX6_hike_18 : decode cX6_hike 18 = .ok (.lcmp, 1) := by decide +kernel
theorem dX6_hike_19 : decode cX6_hike 19 = .ok (.ifCond .ne 25, 3) := by decide +kernel
theorem dX6_hike_22 : decode cX6_hike 22 = .ok (.iload_n 3, 1) := by decide +kernel
theorem dX6_hike_23 : decode cX6_hike 23 = .ok (.iconst 1, 1) := by decide +kernel
theorem dX6_hike_24 : decode cX6_hike 24 = .ok (.bipush 50, 2) := by decide +kernel
theorem dX6_hike_26 : decode cX6_hike 26 = .ok (.invokestatic 60, 3) := by decide +kernel
theorem dX6_hike_29 : decode cX6_hike 29 = .ok (.ifCond .eq 15, 3) := by decide +kernel
theorem dX6_hike_32 : decode cX6_hike 32 = .ok (.iload 4, 2) := by decide +kernel
theorem dX6_hike_34 : decode cX6_hike 34 = .ok (.iconst 0, 1) := by decide +kernel
theorem dX6_hike_35 : decode cX6_hike 35 = .ok (.sipush 3000, 3) := by decide +kernel
theorem dX6_hike_38 : decode cX6_hike 38 = .ok (.invokestatic 60, 3) := by decide +kernel
theorem dX6_hike_41 : decode cX6_hike 41 = .ok (.ifCond .ne 9, 3) := by decide +kernel
theorem dX6_hike_44 : decode cX6_hike 44 = .ok (.aload_n 0, 1) := by decide +kernel
theorem dX6_hike_45 : decode cX6_hike 45 = .ok (.iconst 1, 1) := by decide +kernel
theorem dX6_hike_46 : decode cX6_hike 46 = .ok (.invokevirtual 79, 3) := by decide +kernel
theorem dX6_hike_49 : decode cX6_hike 49 = .ok (.ireturn, 1) := by decide +kernel
theorem dX6_hike_50 : decode cX6_hike 50 = .ok (.iconst 0, 1) := by decide +kernel
theorem dX6_hike_51 : decode cX6_hike 51 = .ok (.istore 5, 2) := by decide +kernel
theorem dX6_hike_53 : decode cX6_hike 53 = .ok (.iconst 0, 1) := by decide +kernel
theorem dX6_hike_54 : decode cX6_hike 54 = .ok (.istore 6, 2) := by decide +kernel
theorem dX6_hike_56 : decode cX6_hike 56 = .ok (.iconst 0, 1) := by decide +kernel
theorem dX6_hike_57 : decode cX6_hike 57 = .ok (.istore 7, 2) := by decide +kernel
theorem dX6_hike_59 : decode cX6_hike 59 = .ok (.iconst 0, 1) := by decide +kernel
theorem dX6_hike_60 : decode cX6_hike 60 = .ok (.istore 8, 2) := by decide +kernel
theorem dX6_hike_62 : decode cX6_hike 62 = .ok (.iload 8, 2) := by decide +kernel
theorem dX6_hike_64 : decode cX6_hike 64 = .ok (.aload_n 0, 1) := by decide +kernel
theorem dX6_hike_65 : decode cX6_hike 65 = .ok (.getfield 64, 3) := by decide +kernel
end
section
theorem dX6_hike_68 : decode cX6_hike 68 = .ok (.if_icmp .ge 110, 3) := by decide +kernel
theorem dX6_hike_71 : decode cX6_hike 71 = .ok (.lload_n 1, 1) := by decide +kernel
theorem dX6_hike_72 : decode cX6_hike 72 = .ok (.iload 8, 2) := by decide +kernel
theorem dX6_hike_74 : decode cX6_hike 74 = .ok (.lshr, 1) := by decide +kernel
theorem dX6_hike_75 : decode cX6_hike 75 = .ok (.lconst 1, 1) := by decide +kernel
theorem dX6_hike_76 : decode cX6_hike 76 = .ok (.land, 1) := by decide +kernel
theorem dX6_hike_77 : decode cX6_hike 77 = .ok (.lconst 0, 1) := by decide +kernel
theorem dX6_hike_78 : decode cX6_hike 78 = .ok (.lcmp, 1) := by decide +kernel
theorem dX6_hike_79 : decode cX6_hike 79 = .ok (.ifCond .ne 6, 3) := by decide +kernel
theorem dX6_hike_82 : decode cX6_hike 82 = .ok (.goto 90, 3) := by decide +kernel
theorem dX6_hike_85 : decode cX6_hike 85 = .ok (.iload 5, 2) := by decide +kernel
theorem dX6_hike_87 : decode cX6_hike 87 = .ok (.bipush 12, 2) := by decide +kernel
theorem dX6_hike_89 : decode cX6_hike 89 = .ok (.iconst 0, 1) := by decide +kernel
theorem dX6_hike_90 : decode cX6_hike 90 = .ok (.bipush 14, 2) := by decide +kernel
theorem dX6_hike_92 : decode cX6_hike 92 = .ok (.aload_n 0, 1) := by decide +kernel
theorem dX6_hike_93 : decode cX6_hike 93 = .ok (.getfield 13, 3) := by decide +kernel
theorem dX6_hike_96 : decode cX6_hike 96 = .ok (.iload 8, 2) := by decide +kernel
theorem dX6_hike_98 : decode cX6_hike 98 = .ok (.iaload, 1) := by decide +kernel
theorem dX6_hike_99 : decode cX6_hike 99 = .ok (.isub, 1) := by decide +kernel
theorem dX6_hike_100 : decode cX6_hike 100 = .ok (.invokestatic 153, 3) := by decide +kernel
theorem dX6_hike_103 : decode cX6_hike 103 = .ok (.iadd, 1) := by decide +kernel
theorem dX6_hike_104 : decode cX6_hike 104 = .ok (.iconst 2, 1) := by decide +kernel
theorem dX6_hike_105 : decode cX6_hike 105 = .ok (.aload_n 0, 1) := by decide +kernel
theorem dX6_hike_106 : decode cX6_hike 106 = .ok (.getfield 16, 3) := by decide +kernel
theorem dX6_hike_109 : decode cX6_hike 109 = .ok (.iload 8, 2) := by decide +kernel
theorem dX6_hike_111 : decode cX6_hike 111 = .ok (.iaload, 1) := by decide +kernel
theorem dX6_hike_112 : decode cX6_hike 112 = .ok (.iconst 1, 1) := by decide +kernel
theorem dX6_hike_113 : decode cX6_hike 113 = .ok (.iand, 1) := by decide +kernel
theorem dX6_hike_114 : decode cX6_hike 114 = .ok (.imul, 1) := by decide +kernel
theorem dX6_hike_115 : decode cX6_hike 115 = .ok (.isub, 1) := by decide +kernel
theorem dX6_hike_116 : decode cX6_hike 116 = .ok (.invokestatic 153, 3) := by decide +kernel
theorem dX6_hike_119 : decode cX6_hike 119 = .ok (.istore 5, 2) := by decide +kernel
theorem dX6_hike_121 : decode cX6_hike 121 = .ok (.iload 6, 2) := by decide +kernel
theorem dX6_hike_123 : decode cX6_hike 123 = .ok (.ifCond .ne 15, 3) := by decide +kernel
theorem dX6_hike_126 : decode cX6_hike 126 = .ok (.aload_n 0, 1) := by decide +kernel
theorem dX6_hike_127 : decode cX6_hike 127 = .ok (.getfield 13, 3) := by decide +kernel
theorem dX6_hike_130 : decode cX6_hike 130 = .ok (.iload 8, 2) := by decide +kernel
theorem dX6_hike_132 : decode cX6_hike 132 = .ok (.iaload, 1) := by decide +kernel
theorem dX6_hike_133 : decode cX6_hike 133 = .ok (.bipush 14, 2) := by decide +kernel
theorem dX6_hike_135 : decode cX6_hike 135 = .ok (.if_icmp .lt 7, 3) := by decide +kernel
theorem dX6_hike_138 : decode cX6_hike 138 = .ok (.iconst 1, 1) := by decide +kernel
theorem dX6_hike_139 : decode cX6_hike 139 = .ok (.goto 4, 3) := by decide +kernel
theorem dX6_hike_142 : decode cX6_hike 142 = .ok (.iconst 0, 1) := by decide +kernel
theorem dX6_hike_143 : decode cX6_hike 143 = .ok (.istore 6, 2) := by decide +kernel
theorem dX6_hike_145 : decode cX6_hike 145 = .ok (.iload 7, 2) := by decide +kernel
theorem dX6_hike_147 : decode cX6_hike 147 = .ok (.ifCond .ne 18, 3) := by decide +kernel
theorem dX6_hike_150 : decode cX6_hike 150 = .ok (.aload_n 0, 1) := by decide +kernel
theorem dX6_hike_151 : decode cX6_hike 151 = .ok (.getfield 16, 3) := by decide +kernel
theorem dX6_hike_154 : decode cX6_hike 154 = .ok (.iload 8, 2) := by decide +kernel
theorem dX6_hike_156 : decode cX6_hike 156 = .ok (.iaload, 1) := by decide +kernel
theorem dX6_hike_157 : decode cX6_hike 157 = .ok (.iconst 1, 1) := by decide +kernel
theorem dX6_hike_158 : decode cX6_hike 158 = .ok (.ishr, 1) := by decide +kernel
theorem dX6_hike_159 : decode cX6_hike 159 = .ok (.iconst 1, 1) := by decide +kernel
theorem dX6_hike_160 : decode cX6_hike 160 = .ok (.iand, 1) := by decide +kernel
theorem dX6_hike_161 : decode cX6_hike 161 = .ok (.iconst 1, 1) := by decide +kernel
theorem dX6_hike_162 : decode cX6_hike 162 = .ok (.if_icmp .ne 7, 3) := by decide +kernel
theorem dX6_hike_165 : decode cX6_hike 165 = .ok (.iconst 1, 1) := by decide +kernel
theorem dX6_hike_166 : decode cX6_hike 166 = .ok (.goto 4, 3) := by decide +kernel
theorem dX6_hike_169 : decode cX6_hike 169 = .ok (.iconst 0, 1) := by decide +kernel
theorem dX6_hike_170 : decode cX6_hike 170 = .ok (.istore 7, 2) := by decide +kernel
theorem dX6_hike_172 : decode cX6_hike 172 = .ok (.iinc 8 1, 3) := by decide +kernel
theorem dX6_hike_175 : decode cX6_hike 175 = .ok (.goto (-113), 3) := by decide +kernel
theorem dX6_hike_178 : decode cX6_hike 178 = .ok (.iload 6, 2) := by decide +kernel
theorem dX6_hike_180 : decode cX6_hike 180 = .ok (.ifCond .eq 8, 3) := by decide +kernel
theorem dX6_hike_183 : decode cX6_hike 183 = .ok (.iload 7, 2) := by decide +kernel
theorem dX6_hike_185 : decode cX6_hike 185 = .ok (.ifCond .ne 9, 3) := by decide +kernel
theorem dX6_hike_188 : decode cX6_hike 188 = .ok (.aload_n 0, 1) := by decide +kernel
theorem dX6_hike_189 : decode cX6_hike 189 = .ok (.iconst 2, 1) := by decide +kernel
theorem dX6_hike_190 : decode cX6_hike 190 = .ok (.invokevirtual 79, 3) := by decide +kernel
theorem dX6_hike_193 : decode cX6_hike 193 = .ok (.ireturn, 1) := by decide +kernel
theorem dX6_hike_194 : decode cX6_hike 194 = .ok (.iload 5, 2) := by decide +kernel
theorem dX6_hike_196 : decode cX6_hike 196 = .ok (.iload_n 3, 1) := by decide +kernel
theorem dX6_hike_197 : decode cX6_hike 197 = .ok (.imul, 1) := by decide +kernel
theorem dX6_hike_198 : decode cX6_hike 198 = .ok (.iload 4, 2) := by decide +kernel
theorem dX6_hike_200 : decode cX6_hike 200 = .ok (.bipush 100, 2) := by decide +kernel
theorem dX6_hike_202 : decode cX6_hike 202 = .ok (.idiv, 1) := by decide +kernel
theorem dX6_hike_203 : decode cX6_hike 203 = .ok (.bipush 10, 2) := by decide +kernel
theorem dX6_hike_205 : decode cX6_hike 205 = .ok (.imul, 1) := by decide +kernel
theorem dX6_hike_206 : decode cX6_hike 206 = .ok (.iadd, 1) := by decide +kernel
theorem dX6_hike_207 : decode cX6_hike 207 = .ok (.istore 8, 2) := by decide +kernel
theorem dX6_hike_209 : decode cX6_hike 209 = .ok (.iload 8, 2) := by decide +kernel
theorem dX6_hike_211 : decode cX6_hike 211 = .ok (.iload 8, 2) := by decide +kernel
theorem dX6_hike_213 : decode cX6_hike 213 = .ok (.bipush 60, 2) := by decide +kernel
theorem dX6_hike_215 : decode cX6_hike 215 = .ok (.idiv, 1) := by decide +kernel
theorem dX6_hike_216 : decode cX6_hike 216 = .ok (.iconst 5, 1) := by decide +kernel
theorem dX6_hike_217 : decode cX6_hike 217 = .ok (.imul, 1) := by decide +kernel
theorem dX6_hike_218 : decode cX6_hike 218 = .ok (.iadd, 1) := by decide +kernel
theorem dX6_hike_219 : decode cX6_hike 219 = .ok (.ireturn, 1) := by decide +kernel
set_option maxRecDepth 20000 in
theorem ggX6_end_X6_no : GoodIn wsX6_end wsX6_no := goodIn_r _ [9, 1, 10, 11, 12, 13, 14, 15, 16, 17, 18, 19, 20, 21, 22, 23, 24, 25, 26, 27, 28, 29, 30, 31, 32] (by decide +kernel) (by decide +kernel)
set_option maxRecDepth 20000 in
theorem gX6_end_X6_no : GoodIn wsX6_end (wsV RX6 79 RX6 yX6_no wsX6_no) := goodIn_app (goodIn_of _ (by decide +kernel)) ggX6_end_X6_no
theorem dX6_end_0 : decode cX6_end 0 = .ok (.aload_n 0, 1) := by decide +kernel
theorem dX6_end_1 : decode cX6_end 1 = .ok (.iconst 0, 1) := by decide +kernel
theorem dX6_end_2 : decode cX6_end 2 = .ok (.putfield 53, 3) := by decide +kernel
theorem dX6_end_5 : decode cX6_end 5 = .ok (.aload_n 0, 1) := by decide +kernel
theorem dX6_end_6 : decode cX6_end 6 = .ok (.getfield 128, 3) := by decide +kernel
theorem dX6_end_9 : decode cX6_end 9 = .ok (.bipush 60, 2) := by decide +kernel
theorem dX6_end_11 : decode cX6_end 11 = .ok (.if_icmp .ne 9, 3) := by decide +kernel
theorem dX6_end_14 : decode cX6_end 14 = .ok (.aload_n 0, 1) := by decide +kernel
theorem dX6_end_15 : decode cX6_end 15 = .ok (.iconst 1, 1) := by decide +kernel
theorem dX6_end_16 : decode cX6_end 16 = .ok (.invokevirtual 79, 3) := by decide +kernel
theorem dX6_end_19 : decode cX6_end 19 = .ok (.ireturn, 1) := by decide +kernel
theorem dX6_end_20 : decode cX6_end 20 = .ok (.aload_n 0, 1) := by decide +kernel
theorem dX6_end_21 : decode cX6_end 21 = .ok (.dup, 1) := by decide +kernel
theorem dX6_end_22 : decode cX6_end 22 = .ok (.getfield 128, 3) := by decide +kernel
theorem dX6_end_25 : decode cX6_end 25 = .ok (.iconst 1, 1) := by decide +kernel
theorem dX6_end_26 : decode cX6_end 26 = .ok (.iadd, 1) := by decide +kernel
theorem dX6_end_27 : decode cX6_end 27 = .ok (.putfield 128, 3) := by decide +kernel
theorem dX6_end_30 : decode cX6_end 30 = .ok (.aload_n 0, 1) := by decide +kernel
theorem dX6_end_31 : decode cX6_end 31 = .ok (.iconst 0, 1) := by decide +kernel
theorem dX6_end_32 : decode cX6_end 32 = .ok (.putfield 156, 3) := by decide +kernel
theorem dX6_end_35 : decode cX6_end 35 = .ok (.iconst 0, 1) := by decide +kernel
theorem dX6_end_36 : decode cX6_end 36 = .ok (.istore_n 1, 1) := by decide +kernel
theorem dX6_end_37 : decode cX6_end 37 = .ok (.iload_n 1, 1) := by decide +kernel
theorem dX6_end_38 : decode cX6_end 38 = .ok (.bipush 30, 2) := by decide +kernel
theorem dX6_end_40 : decode cX6_end 40 = .ok (.if_icmp .ge 16, 3) := by decide +kernel
theorem dX6_end_43 : decode cX6_end 43 = .ok (.aload_n 0, 1) := by decide +kernel
theorem dX6_end_44 : decode cX6_end 44 = .ok (.getfield 31, 3) := by decide +kernel
theorem dX6_end_47 : decode cX6_end 47 = .ok (.iload_n 1, 1) := by decide +kernel
theorem dX6_end_48 : decode cX6_end 48 = .ok (.iconst 0, 1) := by decide +kernel
theorem dX6_end_49 : decode cX6_end 49 = .ok (.bastore, 1) := by decide +kernel
theorem dX6_end_50 : decode cX6_end 50 = .ok (.iinc 1 1, 3) := by decide +kernel
theorem dX6_end_53 : decode cX6_end 53 = .ok (.goto (-16), 3) := by decide +kernel
theorem dX6_end_56 : decode cX6_end 56 = .ok (.aload_n 0, 1) := by decide +kernel
theorem dX6_end_57 : decode cX6_end 57 = .ok (.getfield 128, 3) := by decide +kernel
theorem dX6_end_60 : decode cX6_end 60 = .ok (.ireturn, 1) := by decide +kernel
theorem dX6_day_0 : decode cX6_day 0 = .ok (.aload_n 0, 1) := by decide +kernel
theorem dX6_day_1 : decode cX6_day 1 = .ok (.iconst 0, 1) := by decide +kernel
theorem dX6_day_2 : decode cX6_day 2 = .ok (.putfield 53, 3) := by decide +kernel
theorem dX6_day_5 : decode cX6_day 5 = .ok (.aload_n 0, 1) := by decide +kernel
theorem dX6_day_6 : decode cX6_day 6 = .ok (.getfield 128, 3) := by decide +kernel
theorem dX6_day_9 : decode cX6_day 9 = .ok (.ireturn, 1) := by decide +kernel
theorem dX6_meanAge_0 : decode cX6_meanAge 0 = .ok (.aload_n 0, 1) := by decide +kernel
theorem dX6_meanAge_1 : decode cX6_meanAge 1 = .ok (.iconst 0, 1) := by decide +kernel
theorem dX6_meanAge_2 : decode cX6_meanAge 2 = .ok (.putfield 53, 3) := by decide +kernel
theorem dX6_meanAge_5 : decode cX6_meanAge 5 = .ok (.iconst 0, 1) := by decide +kernel
theorem dX6_meanAge_6 : decode cX6_meanAge 6 = .ok (.istore_n 1, 1) := by decide +kernel
theorem dX6_meanAge_7 : decode cX6_meanAge 7 = .ok (.iconst 0, 1) := by decide +kernel
theorem dX6_meanAge_8 : decode cX6_meanAge 8 = .ok (.istore_n 2, 1) := by decide +kernel
theorem dX6_meanAge_9 : decode cX6_meanAge 9 = .ok (.iload_n 2, 1) := by decide +kernel
theorem dX6_meanAge_10 : decode cX6_meanAge 10 = .ok (.aload_n 0, 1) := by decide +kernel
theorem dX6_meanAge_11 : decode cX6_meanAge 11 = .ok (.getfield 64, 3) := by decide +kernel
theorem dX6_meanAge_14 : decode cX6_meanAge 14 = .ok (.if_icmp .ge 18, 3) := by decide +kernel
theorem dX6_meanAge_17 : decode cX6_meanAge 17 = .ok (.iload_n 1, 1) := by decide +kernel
theorem dX6_meanAge_18 : decode cX6_meanAge 18 = .ok (.aload_n 0, 1) := by decide +kernel
theorem dX6_meanAge_19 : decode cX6_meanAge 19 = .ok (.getfield 13, 3) := by decide +kernel
theorem dX6_meanAge_22 : decode cX6_meanAge 22 = .ok (.iload_n 2, 1) := by decide +kernel
theorem dX6_meanAge_23 : decode cX6_meanAge 23 = .ok (.iaload, 1) := by decide +kernel
theorem dX6_meanAge_24 : decode cX6_meanAge 24 = .ok (.iadd, 1) := by decide +kernel
theorem dX6_meanAge_25 : decode cX6_meanAge 25 = .ok (.istore_n 1, 1) := by decide +kernel
theorem dX6_meanAge_26 : decode cX6_meanAge 26 = .ok (.iinc 2 1, 3) := by decide +kernel
theorem dX6_meanAge_29 : decode cX6_meanAge 29 = .ok (.goto (-20), 3) := by decide +kernel
theorem dX6_meanAge_32 : decode cX6_meanAge 32 = .ok (.aload_n 0, 1) := by decide +kernel
theorem dX6_meanAge_33 : decode cX6_meanAge 33 = .ok (.getfield 64, 3) := by decide +kernel
theorem dX6_meanAge_36 : decode cX6_meanAge 36 = .ok (.ifCond .ne 7, 3) := by decide +kernel
theorem dX6_meanAge_39 : decode cX6_meanAge 39 = .ok (.dconst 0, 1) := by decide +kernel
theorem dX6_meanAge_40 : decode cX6_meanAge 40 = .ok (.goto 11, 3) := by decide +kernel
theorem dX6_meanAge_43 : decode cX6_meanAge 43 = .ok (.iload_n 1, 1) := by decide +kernel
theorem dX6_meanAge_44 : decode cX6_meanAge 44 = .ok (.i2d, 1) := by decide +kernel
theorem dX6_meanAge_45 : decode cX6_meanAge 45 = .ok (.aload_n 0, 1) := by decide +kernel
theorem dX6_meanAge_46 : decode cX6_meanAge 46 = .ok (.getfield 64, 3) := by decide +kernel
theorem dX6_meanAge_49 : decode cX6_meanAge 49 = .ok (.i2d, 1) := by decide +kernel
theorem dX6_meanAge_50 : decode cX6_meanAge 50 = .ok (.ddiv, 1) := by decide +kernel
theorem dX6_meanAge_51 : decode cX6_meanAge 51 = .ok (.dreturn, 1) := by decide +kernel
set_option maxRecDepth 20000 in
theorem ggX6_digest_X6_counted : GoodIn wsX6_digest wsX6_counted := goodIn_r _ [15, 16, 5, 6, 7, 8, 10, 17, 18, 19, 20, 14, 21, 22, 23, 76, 77, 78, 79, 80, 81, 82, 83, 84, 85, 86, 87, 88, 89, 90, 91, 92, 93, 94, 95, 96, 97, 98] (by decide +kernel) (by decide +kernel)
set_option maxRecDepth 20000 in
theorem gX6_digest_X6_counted : GoodIn wsX6_digest (wsV RX6 119 RX6 yX6_counted wsX6_counted) := goodIn_app (goodIn_of _ (by decide +kernel)) ggX6_digest_X6_counted
set_option maxRecDepth 20000 in
theorem ggX6_digest_X6_pointsOf : GoodIn wsX6_digest wsX6_pointsOf := goodIn_r _ [27, 16, 28, 76, 77, 78, 79, 80, 81, 82, 83, 84, 85, 86, 87, 88, 89, 90, 91, 92, 93, 94, 95, 96, 97, 98] (by decide +kernel) (by decide +kernel)
set_option maxRecDepth 20000 in
theorem gX6_digest_X6_pointsOf : GoodIn wsX6_digest (wsV RX6 134 RX6 yX6_pointsOf wsX6_pointsOf) := goodIn_app (goodIn_of _ (by decide +kernel)) ggX6_digest_X6_pointsOf
set_option maxRecDepth 20000 in
theorem ggX6_digest_X6_told : GoodIn wsX6_digest wsX6_told := goodIn_r _ [32, 16, 23, 33, 34, 35, 22, 36, 37, 38, 39, 14, 40, 41, 76, 77, 78, 79, 80, 81, 82, 83, 84, 85, 86, 87, 88, 89, 90, 91, 92, 93, 94, 95, 96, 97, 98] (by decide +kernel) (by decide +kernel)
set_option maxRecDepth 20000 in
theorem gX6_digest_X6_told : GoodIn wsX6_digest (wsV RX6 93 RX6 yX6_told wsX6_told) := goodIn_app (goodIn_of _ (by decide +kernel)) ggX6_digest_X6_told
set_option maxRecDepth 20000 in
theorem ggX6_digest_X6_in : GoodIn wsX6_digest wsX6_in := goodIn_r _ [45, 6, 22, 76, 77, 78, 79, 80, 81, 82, 83, 84, 85, 86, 87, 88, 89, 90, 91, 92, 93, 94, 95, 96, 97, 98] (by decide +kernel) (by decide +kernel)
set_option maxRecDepth 20000 in
theorem gX6_digest_X6_in : GoodIn wsX6_digest (wsV RX6 112 RX6 yX6_in wsX6_in) := goodIn_app (goodIn_of _ (by decide +kernel)) ggX6_digest_X6_in
set_option maxRecDepth 20000 in
theorem ggX6_digest_X6_at : GoodIn wsX6_digest wsX6_at := goodIn_r _ [49, 28, 50, 51, 14, 52, 76, 77, 78, 79, 80, 81, 82, 83, 84, 85, 86, 87, 88, 89, 90, 91, 92, 93, 94, 95, 96, 97, 98] (by decide +kernel) (by decide +kernel)
set_option maxRecDepth 20000 in
theorem gX6_digest_X6_at : GoodIn wsX6_digest (wsV RX6 125 RX6 yX6_at wsX6_at) := goodIn_app (goodIn_of _ (by decide +kernel)) ggX6_digest_X6_at
set_option maxRecDepth 20000 in
theorem ggX6_digest_X6_setOf : GoodIn wsX6_digest wsX6_setOf := goodIn_r _ [56, 6, 57, 58, 59, 14, 60, 8, 61, 35, 76, 77, 78, 79, 80, 81, 82, 83, 84, 85, 86, 87, 88, 89, 90, 91, 92, 93, 94, 95, 96, 97, 98] (by decide +kernel) (by decide +kernel)
set_option maxRecDepth 20000 in
theorem gX6_digest_X6_setOf : GoodIn wsX6_digest (wsV RX6 146 RX6 yX6_setOf wsX6_setOf) := goodIn_app (goodIn_of _ (by decide +kernel)) ggX6_digest_X6_setOf
set_option maxRecDepth 20000 in
theorem ggX6_digest_X6_tableOf : GoodIn wsX6_digest wsX6_tableOf := goodIn_r _ [65, 66, 6, 67, 10, 68, 69, 70, 14, 71, 8, 61, 9, 72, 73, 74, 75, 57, 58, 59, 60, 35, 76, 77, 78, 79, 80, 81, 82, 83, 84, 85, 86, 87, 88, 89, 90, 91, 92, 93, 94, 95, 96, 97, 98] (by decide +kernel) (by decide +kernel)
set_option maxRecDepth 20000 in
theorem gX6_digest_X6_tableOf : GoodIn wsX6_digest (wsV RX6 162 RX6 yX6_tableOf wsX6_tableOf) := goodIn_app (goodIn_of _ (by decide +kernel)) ggX6_digest_X6_tableOf
theorem dX6_digest_0 : decode cX6_digest 0 = .ok (.aload_n 0, 1) := by decide +kernel
theorem dX6_digest_1 : decode cX6_digest 1 = .ok (.iconst 0, 1) := by decide +kernel
theorem dX6_digest_2 : decode cX6_digest 2 = .ok (.putfield 53, 3) := by decide +kernel
theorem dX6_digest_5 : decode cX6_digest 5 = .ok (.ldc2_w 174, 3) := by decide +kernel
theorem dX6_digest_8 : decode cX6_digest 8 = .ok (.aload_n 0, 1) := by decide +kernel
theorem dX6_digest_9 : decode cX6_digest 9 = .ok (.getfield 128, 3) := by decide +kernel
theorem dX6_digest_12 : decode cX6_digest 12 = .ok (.i2l, 1) := by decide +kernel
theorem dX6_digest_13 : decode cX6_digest 13 = .ok (.ladd, 1) := by decide +kernel
theorem dX6_digest_14 : decode cX6_digest 14 = .ok (.lstore_n 1, 1) := by decide +kernel
theorem dX6_digest_15 : decode cX6_digest 15 = .ok (.iconst 0, 1) := by decide +kernel
theorem dX6_digest_16 : decode cX6_digest 16 = .ok (.istore_n 3, 1) := by decide +kernel
theorem dX6_digest_17 : decode cX6_digest 17 = .ok (.iload_n 3, 1) := by decide +kernel
theorem dX6_digest_18 : decode cX6_digest 18 = .ok (.bipush 7, 2) := by decide +kernel
theorem dX6_digest_20 : decode cX6_digest 20 = .ok (.if_icmp .ge 22, 3) := by decide +kernel
theorem dX6_digest_23 : decode cX6_digest 23 = .ok (.lload_n 1, 1) := by decide +kernel
theorem dX6_digest_24 : decode cX6_digest 24 = .ok (.ldc2_w 176, 3) := by decide +kernel
theorem dX6_digest_27 : decode cX6_digest 27 = .ok (.lmul, 1) := by decide +kernel
theorem dX6_digest_28 : decode cX6_digest 28 = .ok (.aload_n 0, 1) := by decide +kernel
theorem dX6_digest_29 : decode cX6_digest 29 = .ok (.iload_n 3, 1) := by decide +kernel
theorem dX6_digest_30 : decode cX6_digest 30 = .ok (.invokevirtual 119, 3) := by decide +kernel
theorem dX6_digest_33 : decode cX6_digest 33 = .ok (.i2l, 1) := by decide +kernel
theorem dX6_digest_34 : decode cX6_digest 34 = .ok (.ladd, 1) := by decide +kernel
theorem dX6_digest_35 : decode cX6_digest 35 = .ok (.lstore_n 1, 1) := by decide +kernel
theorem dX6_digest_36 : decode cX6_digest 36 = .ok (.iinc 3 1, 3) := by decide +kernel
theorem dX6_digest_39 : decode cX6_digest 39 = .ok (.goto (-22), 3) := by decide +kernel
theorem dX6_digest_42 : decode cX6_digest 42 = .ok (.iconst 0, 1) := by decide +kernel
theorem dX6_digest_43 : decode cX6_digest 43 = .ok (.istore_n 3, 1) := by decide +kernel
theorem dX6_digest_44 : decode cX6_digest 44 = .ok (.iload_n 3, 1) := by decide +kernel
theorem dX6_digest_45 : decode cX6_digest 45 = .ok (.aload_n 0, 1) := by decide +kernel
theorem dX6_digest_46 : decode cX6_digest 46 = .ok (.getfield 57, 3) := by decide +kernel
theorem dX6_digest_49 : decode cX6_digest 49 = .ok (.if_icmp .ge 22, 3) := by decide +kernel
theorem dX6_digest_52 : decode cX6_digest 52 = .ok (.lload_n 1, 1) := by decide +kernel
theorem dX6_digest_53 : decode cX6_digest 53 = .ok (.ldc2_w 176, 3) := by decide +kernel
theorem dX6_digest_56 : decode cX6_digest 56 = .ok (.lmul, 1) := by decide +kernel
theorem dX6_digest_57 : decode cX6_digest 57 = .ok (.aload_n 0, 1) := by decide +kernel
theorem dX6_digest_58 : decode cX6_digest 58 = .ok (.iload_n 3, 1) := by decide +kernel
theorem dX6_digest_59 : decode cX6_digest 59 = .ok (.invokevirtual 134, 3) := by decide +kernel
theorem dX6_digest_62 : decode cX6_digest 62 = .ok (.i2l, 1) := by decide +kernel
theorem dX6_digest_63 : decode cX6_digest 63 = .ok (.ladd, 1) := by decide +kernel
theorem dX6_digest_64 : decode cX6_digest 64 = .ok (.lstore_n 1, 1) := by decide +kernel
theorem dX6_digest_65 : decode cX6_digest 65 = .ok (.iinc 3 1, 3) := by decide +kernel
theorem dX6_digest_68 : decode cX6_digest 68 = .ok (.goto (-24), 3) := by decide +kernel
theorem dX6_digest_71 : decode cX6_digest 71 = .ok (.iconst 0, 1) := by decide +kernel
theorem dX6_digest_72 : decode cX6_digest 72 = .ok (.istore_n 3, 1) := by decide +kernel
theorem dX6_digest_73 : decode cX6_digest 73 = .ok (.iload_n 3, 1) := by decide +kernel
theorem dX6_digest_74 : decode cX6_digest 74 = .ok (.aload_n 0, 1) := by decide +kernel
theorem dX6_digest_75 : decode cX6_digest 75 = .ok (.getfield 64, 3) := by decide +kernel
theorem dX6_digest_78 : decode cX6_digest 78 = .ok (.if_icmp .ge 40, 3) := by decide +kernel
theorem dX6_digest_81 : decode cX6_digest 81 = .ok (.iconst 0, 1) := by decide +kernel
theorem dX6_digest_82 : decode cX6_digest 82 = .ok (.istore 4, 2) := by decide +kernel
theorem dX6_digest_84 : decode cX6_digest 84 = .ok (.iload 4, 2) := by decide +kernel
theorem dX6_digest_86 : decode cX6_digest 86 = .ok (.bipush 7, 2) := by decide +kernel
theorem dX6_digest_88 : decode cX6_digest 88 = .ok (.if_icmp .ge 24, 3) := by decide +kernel
theorem dX6_digest_91 : decode cX6_digest 91 = .ok (.lload_n 1, 1) := by decide +kernel
theorem dX6_digest_92 : decode cX6_digest 92 = .ok (.ldc2_w 176, 3) := by decide +kernel
theorem dX6_digest_95 : decode cX6_digest 95 = .ok (.lmul, 1) := by decide +kernel
theorem dX6_digest_96 : decode cX6_digest 96 = .ok (.aload_n 0, 1) := by decide +kernel
theorem dX6_digest_97 : decode cX6_digest 97 = .ok (.iload_n 3, 1) := by decide +kernel
theorem dX6_digest_98 : decode cX6_digest 98 = .ok (.iload 4, 2) := by decide +kernel
theorem dX6_digest_100 : decode cX6_digest 100 = .ok (.invokevirtual 93, 3) := by decide +kernel
theorem dX6_digest_103 : decode cX6_digest 103 = .ok (.i2l, 1) := by decide +kernel
theorem dX6_digest_104 : decode cX6_digest 104 = .ok (.ladd, 1) := by decide +kernel
theorem dX6_digest_105 : decode cX6_digest 105 = .ok (.lstore_n 1, 1) := by decide +kernel
theorem dX6_digest_106 : decode cX6_digest 106 = .ok (.iinc 4 1, 3) := by decide +kernel
theorem dX6_digest_109 : decode cX6_digest 109 = .ok (.goto (-25), 3) := by decide +kernel
theorem dX6_digest_112 : decode cX6_digest 112 = .ok (.iinc 3 1, 3) := by decide +kernel
theorem dX6_digest_115 : decode cX6_digest 115 = .ok (.goto (-42), 3) := by decide +kernel
theorem dX6_digest_118 : decode cX6_digest 118 = .ok (.iconst 0, 1) := by decide +kernel
theorem dX6_digest_119 : decode cX6_digest 119 = .ok (.istore_n 3, 1) := by decide +kernel
theorem dX6_digest_120 : decode cX6_digest 120 = .ok (.iload_n 3, 1) := by decide +kernel
theorem dX6_digest_121 : decode cX6_digest 121 = .ok (.aload_n 0, 1) := by decide +kernel
theorem dX6_digest_122 : decode cX6_digest 122 = .ok (.getfield 67, 3) := by decide +kernel
theorem dX6_digest_125 : decode cX6_digest 125 = .ok (.if_icmp .ge 21, 3) := by decide +kernel
theorem dX6_digest_128 : decode cX6_digest 128 = .ok (.lload_n 1, 1) := by decide +kernel
theorem dX6_digest_129 : decode cX6_digest 129 = .ok (.ldc2_w 176, 3) := by decide +kernel
theorem dX6_digest_132 : decode cX6_digest 132 = .ok (.lmul, 1) := by decide +kernel
theorem dX6_digest_133 : decode cX6_digest 133 = .ok (.aload_n 0, 1) := by decide +kernel
theorem dX6_digest_134 : decode cX6_digest 134 = .ok (.iload_n 3, 1) := by decide +kernel
theorem dX6_digest_135 : decode cX6_digest 135 = .ok (.invokevirtual 112, 3) := by decide +kernel
theorem dX6_digest_138 : decode cX6_digest 138 = .ok (.ladd, 1) := by decide +kernel
theorem dX6_digest_139 : decode cX6_digest 139 = .ok (.lstore_n 1, 1) := by decide +kernel
theorem dX6_digest_140 : decode cX6_digest 140 = .ok (.iinc 3 1, 3) := by decide +kernel
theorem dX6_digest_143 : decode cX6_digest 143 = .ok (.goto (-23), 3) := by decide +kernel
theorem dX6_digest_146 : decode cX6_digest 146 = .ok (.iconst 0, 1) := by decide +kernel
theorem dX6_digest_147 : decode cX6_digest 147 = .ok (.istore_n 3, 1) := by decide +kernel
theorem dX6_digest_148 : decode cX6_digest 148 = .ok (.iload_n 3, 1) := by decide +kernel
theorem dX6_digest_149 : decode cX6_digest 149 = .ok (.iconst 5, 1) := by decide +kernel
theorem dX6_digest_150 : decode cX6_digest 150 = .ok (.if_icmp .ge 26, 3) := by decide +kernel
theorem dX6_digest_153 : decode cX6_digest 153 = .ok (.lload_n 1, 1) := by decide +kernel
theorem dX6_digest_154 : decode cX6_digest 154 = .ok (.ldc2_w 176, 3) := by decide +kernel
theorem dX6_digest_157 : decode cX6_digest 157 = .ok (.lmul, 1) := by decide +kernel
theorem dX6_digest_158 : decode cX6_digest 158 = .ok (.aload_n 0, 1) := by decide +kernel
theorem dX6_digest_159 : decode cX6_digest 159 = .ok (.aload_n 0, 1) := by decide +kernel
theorem dX6_digest_160 : decode cX6_digest 160 = .ok (.getfield 128, 3) := by decide +kernel
theorem dX6_digest_163 : decode cX6_digest 163 = .ok (.iload_n 3, 1) := by decide +kernel
theorem dX6_digest_164 : decode cX6_digest 164 = .ok (.invokevirtual 125, 3) := by decide +kernel
theorem dX6_digest_167 : decode cX6_digest 167 = .ok (.i2l, 1) := by decide +kernel
theorem dX6_digest_168 : decode cX6_digest 168 = .ok (.ladd, 1) := by decide +kernel
theorem dX6_digest_169 : decode cX6_digest 169 = .ok (.lstore_n 1, 1) := by decide +kernel
theorem dX6_digest_170 : decode cX6_digest 170 = .ok (.iinc 3 1, 3) := by decide +kernel
theorem dX6_digest_173 : decode cX6_digest 173 = .ok (.goto (-25), 3) := by decide +kernel
theorem dX6_digest_176 : decode cX6_digest 176 = .ok (.iconst 0, 1) := by decide +kernel
theorem dX6_digest_177 : decode cX6_digest 177 = .ok (.istore_n 3, 1) := by decide +kernel
theorem dX6_digest_178 : decode cX6_digest 178 = .ok (.iload_n 3, 1) := by decide +kernel
theorem dX6_digest_179 : decode cX6_digest 179 = .ok (.aload_n 0, 1) := by decide +kernel
theorem dX6_digest_180 : decode cX6_digest 180 = .ok (.getfield 70, 3) := by decide +kernel
theorem dX6_digest_183 : decode cX6_digest 183 = .ok (.if_icmp .ge 23, 3) := by decide +kernel
theorem dX6_digest_186 : decode cX6_digest 186 = .ok (.lload_n 1, 1) := by decide +kernel
theorem dX6_digest_187 : decode cX6_digest 187 = .ok (.ldc2_w 176, 3) := by decide +kernel
theorem dX6_digest_190 : decode cX6_digest 190 = .ok (.lmul, 1) := by decide +kernel
theorem dX6_digest_191 : decode cX6_digest 191 = .ok (.aload_n 0, 1) := by decide +kernel
theorem dX6_digest_192 : decode cX6_digest 192 = .ok (.getfield 41, 3) := by decide +kernel
theorem dX6_digest_195 : decode cX6_digest 195 = .ok (.iload_n 3, 1) := by decide +kernel
theorem dX6_digest_196 : decode cX6_digest 196 = .ok (.iaload, 1) := by decide +kernel
theorem dX6_digest_197 : decode cX6_digest 197 = .ok (.i2l, 1) := by decide +kernel
theorem dX6_digest_198 : decode cX6_digest 198 = .ok (.ladd, 1) := by decide +kernel
theorem dX6_digest_199 : decode cX6_digest 199 = .ok (.lstore_n 1, 1) := by decide +kernel
theorem dX6_digest_200 : decode cX6_digest 200 = .ok (.iinc 3 1, 3) := by decide +kernel
theorem dX6_digest_203 : decode cX6_digest 203 = .ok (.goto (-25), 3) := by decide +kernel
theorem dX6_digest_206 : decode cX6_digest 206 = .ok (.iconst 0, 1) := by decide +kernel
theorem dX6_digest_207 : decode cX6_digest 207 = .ok (.istore_n 3, 1) := by decide +kernel
theorem dX6_digest_208 : decode cX6_digest 208 = .ok (.iload_n 3, 1) := by decide +kernel
theorem dX6_digest_209 : decode cX6_digest 209 = .ok (.aload_n 0, 1) := by decide +kernel
theorem dX6_digest_210 : decode cX6_digest 210 = .ok (.getfield 73, 3) := by decide +kernel
theorem dX6_digest_213 : decode cX6_digest 213 = .ok (.if_icmp .ge 21, 3) := by decide +kernel
theorem dX6_digest_216 : decode cX6_digest 216 = .ok (.lload_n 1, 1) := by decide +kernel
theorem dX6_digest_217 : decode cX6_digest 217 = .ok (.ldc2_w 176, 3) := by decide +kernel
theorem dX6_digest_220 : decode cX6_digest 220 = .ok (.lmul, 1) := by decide +kernel
theorem dX6_digest_221 : decode cX6_digest 221 = .ok (.aload_n 0, 1) := by decide +kernel
theorem dX6_digest_222 : decode cX6_digest 222 = .ok (.iload_n 3, 1) := by decide +kernel
theorem dX6_digest_223 : decode cX6_digest 223 = .ok (.invokevirtual 146, 3) := by decide +kernel
theorem dX6_digest_226 : decode cX6_digest 226 = .ok (.ladd, 1) := by decide +kernel
theorem dX6_digest_227 : decode cX6_digest 227 = .ok (.lstore_n 1, 1) := by decide +kernel
theorem dX6_digest_228 : decode cX6_digest 228 = .ok (.iinc 3 1, 3) := by decide +kernel
theorem dX6_digest_231 : decode cX6_digest 231 = .ok (.goto (-23), 3) := by decide +kernel
theorem dX6_digest_234 : decode cX6_digest 234 = .ok (.lload_n 1, 1) := by decide +kernel
theorem dX6_digest_235 : decode cX6_digest 235 = .ok (.ldc2_w 176, 3) := by decide +kernel
theorem dX6_digest_238 : decode cX6_digest 238 = .ok (.lmul, 1) := by decide +kernel
theorem dX6_digest_239 : decode cX6_digest 239 = .ok (.aload_n 0, 1) := by decide +kernel
theorem dX6_digest_240 : decode cX6_digest 240 = .ok (.iconst 0, 1) := by decide +kernel
theorem dX6_digest_241 : decode cX6_digest 241 = .ok (.invokevirtual 162, 3) := by decide +kernel
theorem dX6_digest_244 : decode cX6_digest 244 = .ok (.i2l, 1) := by decide +kernel
theorem dX6_digest_245 : decode cX6_digest 245 = .ok (.ladd, 1) := by decide +kernel
theorem dX6_digest_246 : decode cX6_digest 246 = .ok (.ldc2_w 176, 3) := by decide +kernel
theorem dX6_digest_249 : decode cX6_digest 249 = .ok (.lmul, 1) := by decide +kernel
theorem dX6_digest_250 : decode cX6_digest 250 = .ok (.aload_n 0, 1) := by decide +kernel
theorem dX6_digest_251 : decode cX6_digest 251 = .ok (.iconst 1, 1) := by decide +kernel
theorem dX6_digest_252 : decode cX6_digest 252 = .ok (.invokevirtual 162, 3) := by decide +kernel
theorem dX6_digest_255 : decode cX6_digest 255 = .ok (.i2l, 1) := by decide +kernel
theorem dX6_digest_256 : decode cX6_digest 256 = .ok (.ladd, 1) := by decide +kernel
theorem dX6_digest_257 : decode cX6_digest 257 = .ok (.lreturn, 1) := by decide +kernel
theorem dJ6_bitCount_0f7a4_0 : decode cJ6_bitCount_0f7a4 0 = .ok (.iload_n 0, 1) := by decide +kernel
theorem dJ6_bitCount_0f7a4_1 : decode cJ6_bitCount_0f7a4 1 = .ok (.iload_n 0, 1) := by decide +kernel
theorem dJ6_bitCount_0f7a4_2 : decode cJ6_bitCount_0f7a4 2 = .ok (.iconst 1, 1) := by decide +kernel
theorem dJ6_bitCount_0f7a4_3 : decode cJ6_bitCount_0f7a4 3 = .ok (.iushr, 1) := by decide +kernel
theorem dJ6_bitCount_0f7a4_4 : decode cJ6_bitCount_0f7a4 4 = .ok (.ldc_w 265, 3) := by decide +kernel
theorem dJ6_bitCount_0f7a4_7 : decode cJ6_bitCount_0f7a4 7 = .ok (.iand, 1) := by decide +kernel
theorem dJ6_bitCount_0f7a4_8 : decode cJ6_bitCount_0f7a4 8 = .ok (.isub, 1) := by decide +kernel
theorem dJ6_bitCount_0f7a4_9 : decode cJ6_bitCount_0f7a4 9 = .ok (.istore_n 0, 1) := by decide +kernel
theorem dJ6_bitCount_0f7a4_10 : decode cJ6_bitCount_0f7a4 10 = .ok (.iload_n 0, 1) := by decide +kernel
theorem dJ6_bitCount_0f7a4_11 : decode cJ6_bitCount_0f7a4 11 = .ok (.ldc_w 266, 3) := by decide +kernel
theorem dJ6_bitCount_0f7a4_14 : decode cJ6_bitCount_0f7a4 14 = .ok (.iand, 1) := by decide +kernel
theorem dJ6_bitCount_0f7a4_15 : decode cJ6_bitCount_0f7a4 15 = .ok (.iload_n 0, 1) := by decide +kernel
theorem dJ6_bitCount_0f7a4_16 : decode cJ6_bitCount_0f7a4 16 = .ok (.iconst 2, 1) := by decide +kernel
theorem dJ6_bitCount_0f7a4_17 : decode cJ6_bitCount_0f7a4 17 = .ok (.iushr, 1) := by decide +kernel
theorem dJ6_bitCount_0f7a4_18 : decode cJ6_bitCount_0f7a4 18 = .ok (.ldc_w 266, 3) := by decide +kernel
theorem dJ6_bitCount_0f7a4_21 : decode cJ6_bitCount_0f7a4 21 = .ok (.iand, 1) := by decide +kernel
theorem dJ6_bitCount_0f7a4_22 : decode cJ6_bitCount_0f7a4 22 = .ok (.iadd, 1) := by decide +kernel
theorem dJ6_bitCount_0f7a4_23 : decode cJ6_bitCount_0f7a4 23 = .ok (.istore_n 0, 1) := by decide +kernel
theorem dJ6_bitCount_0f7a4_24 : decode cJ6_bitCount_0f7a4 24 = .ok (.iload_n 0, 1) := by decide +kernel
theorem dJ6_bitCount_0f7a4_25 : decode cJ6_bitCount_0f7a4 25 = .ok (.iload_n 0, 1) := by decide +kernel
theorem dJ6_bitCount_0f7a4_26 : decode cJ6_bitCount_0f7a4 26 = .ok (.iconst 4, 1) := by decide +kernel
theorem dJ6_bitCount_0f7a4_27 : decode cJ6_bitCount_0f7a4 27 = .ok (.iushr, 1) := by decide +kernel
theorem dJ6_bitCount_0f7a4_28 : decode cJ6_bitCount_0f7a4 28 = .ok (.iadd, 1) := by decide +kernel
theorem dJ6_bitCount_0f7a4_29 : decode cJ6_bitCount_0f7a4 29 = .ok (.ldc_w 267, 3) := by decide +kernel
theorem dJ6_bitCount_0f7a4_32 : decode cJ6_bitCount_0f7a4 32 = .ok (.iand, 1) := by decide +kernel
theorem dJ6_bitCount_0f7a4_33 : decode cJ6_bitCount_0f7a4 33 = .ok (.istore_n 0, 1) := by decide +kernel
theorem dJ6_bitCount_0f7a4_34 : decode cJ6_bitCount_0f7a4 34 = .ok (.iload_n 0, 1) := by decide +kernel
theorem dJ6_bitCount_0f7a4_35 : decode cJ6_bitCount_0f7a4 35 = .ok (.iload_n 0, 1) := by decide +kernel
theorem dJ6_bitCount_0f7a4_36 : decode cJ6_bitCount_0f7a4 36 = .ok (.bipush 8, 2) := by decide +kernel
theorem dJ6_bitCount_0f7a4_38 : decode cJ6_bitCount_0f7a4 38 = .ok (.iushr, 1) := by decide +kernel
theorem dJ6_bitCount_0f7a4_39 : decode cJ6_bitCount_0f7a4 39 = .ok (.iadd, 1) := by decide +kernel
theorem dJ6_bitCount_0f7a4_40 : decode cJ6_bitCount_0f7a4 40 = .ok (.istore_n 0, 1) := by decide +kernel
theorem dJ6_bitCount_0f7a4_41 : decode cJ6_bitCount_0f7a4 41 = .ok (.iload_n 0, 1) := by decide +kernel
theorem dJ6_bitCount_0f7a4_42 : decode cJ6_bitCount_0f7a4 42 = .ok (.iload_n 0, 1) := by decide +kernel
theorem dJ6_bitCount_0f7a4_43 : decode cJ6_bitCount_0f7a4 43 = .ok (.bipush 16, 2) := by decide +kernel
theorem dJ6_bitCount_0f7a4_45 : decode cJ6_bitCount_0f7a4 45 = .ok (.iushr, 1) := by decide +kernel
theorem dJ6_bitCount_0f7a4_46 : decode cJ6_bitCount_0f7a4 46 = .ok (.iadd, 1) := by decide +kernel
theorem dJ6_bitCount_0f7a4_47 : decode cJ6_bitCount_0f7a4 47 = .ok (.istore_n 0, 1) := by decide +kernel
theorem dJ6_bitCount_0f7a4_48 : decode cJ6_bitCount_0f7a4 48 = .ok (.iload_n 0, 1) := by decide +kernel
theorem dJ6_bitCount_0f7a4_49 : decode cJ6_bitCount_0f7a4 49 = .ok (.bipush 63, 2) := by decide +kernel
theorem dJ6_bitCount_0f7a4_51 : decode cJ6_bitCount_0f7a4 51 = .ok (.iand, 1) := by decide +kernel
theorem dJ6_bitCount_0f7a4_52 : decode cJ6_bitCount_0f7a4 52 = .ok (.ireturn, 1) := by decide +kernel
theorem dJ13_bitCount_95d88_0 : decode cJ13_bitCount_95d88 0 = .ok (.lload_n 0, 1) := by decide +kernel
theorem dJ13_bitCount_95d88_1 : decode cJ13_bitCount_95d88 1 = .ok (.lload_n 0, 1) := by decide +kernel
theorem dJ13_bitCount_95d88_2 : decode cJ13_bitCount_95d88 2 = .ok (.iconst 1, 1) := by decide +kernel
theorem dJ13_bitCount_95d88_3 : decode cJ13_bitCount_95d88 3 = .ok (.lushr, 1) := by decide +kernel
theorem dJ13_bitCount_95d88_4 : decode cJ13_bitCount_95d88 4 = .ok (.ldc2_w 314, 3) := by decide +kernel
theorem dJ13_bitCount_95d88_7 : decode cJ13_bitCount_95d88 7 = .ok (.land, 1) := by decide +kernel
theorem dJ13_bitCount_95d88_8 : decode cJ13_bitCount_95d88 8 = .ok (.lsub, 1) := by decide +kernel
theorem dJ13_bitCount_95d88_9 : decode cJ13_bitCount_95d88 9 = .ok (.lstore_n 0, 1) := by decide +kernel
theorem dJ13_bitCount_95d88_10 : decode cJ13_bitCount_95d88 10 = .ok (.lload_n 0, 1) := by decide +kernel
theorem dJ13_bitCount_95d88_11 : decode cJ13_bitCount_95d88 11 = .ok (.ldc2_w 316, 3) := by decide +kernel
theorem dJ13_bitCount_95d88_14 : decode cJ13_bitCount_95d88 14 = .ok (.land, 1) := by decide +kernel
theorem dJ13_bitCount_95d88_15 : decode cJ13_bitCount_95d88 15 = .ok (.lload_n 0, 1) := by decide +kernel
theorem dJ13_bitCount_95d88_16 : decode cJ13_bitCount_95d88 16 = .ok (.iconst 2, 1) := by decide +kernel
theorem dJ13_bitCount_95d88_17 : decode cJ13_bitCount_95d88 17 = .ok (.lushr, 1) := by decide +kernel
theorem dJ13_bitCount_95d88_18 : decode cJ13_bitCount_95d88 18 = .ok (.ldc2_w 316, 3) := by decide +kernel
theorem dJ13_bitCount_95d88_21 : decode cJ13_bitCount_95d88 21 = .ok (.land, 1) := by decide +kernel
theorem dJ13_bitCount_95d88_22 : decode cJ13_bitCount_95d88 22 = .ok (.ladd, 1) := by decide +kernel
theorem dJ13_bitCount_95d88_23 : decode cJ13_bitCount_95d88 23 = .ok (.lstore_n 0, 1) := by decide +kernel
theorem dJ13_bitCount_95d88_24 : decode cJ13_bitCount_95d88 24 = .ok (.lload_n 0, 1) := by decide +kernel
theorem dJ13_bitCount_95d88_25 : decode cJ13_bitCount_95d88 25 = .ok (.lload_n 0, 1) := by decide +kernel
theorem dJ13_bitCount_95d88_26 : decode cJ13_bitCount_95d88 26 = .ok (.iconst 4, 1) := by decide +kernel
theorem dJ13_bitCount_95d88_27 : decode cJ13_bitCount_95d88 27 = .ok (.lushr, 1) := by decide +kernel
theorem dJ13_bitCount_95d88_28 : decode cJ13_bitCount_95d88 28 = .ok (.ladd, 1) := by decide +kernel
theorem dJ13_bitCount_95d88_29 : decode cJ13_bitCount_95d88 29 = .ok (.ldc2_w 318, 3) := by decide +kernel
theorem dJ13_bitCount_95d88_32 : decode cJ13_bitCount_95d88 32 = .ok (.land, 1) := by decide +kernel
theorem dJ13_bitCount_95d88_33 : decode cJ13_bitCount_95d88 33 = .ok (.lstore_n 0, 1) := by decide +kernel
theorem dJ13_bitCount_95d88_34 : decode cJ13_bitCount_95d88 34 = .ok (.lload_n 0, 1) := by decide +kernel
theorem dJ13_bitCount_95d88_35 : decode cJ13_bitCount_95d88 35 = .ok (.lload_n 0, 1) := by decide +kernel
theorem dJ13_bitCount_95d88_36 : decode cJ13_bitCount_95d88 36 = .ok (.bipush 8, 2) := by decide +kernel
theorem dJ13_bitCount_95d88_38 : decode cJ13_bitCount_95d88 38 = .ok (.lushr, 1) := by decide +kernel
theorem dJ13_bitCount_95d88_39 : decode cJ13_bitCount_95d88 39 = .ok (.ladd, 1) := by decide +kernel
theorem dJ13_bitCount_95d88_40 : decode cJ13_bitCount_95d88 40 = .ok (.lstore_n 0, 1) := by decide +kernel
theorem dJ13_bitCount_95d88_41 : decode cJ13_bitCount_95d88 41 = .ok (.lload_n 0, 1) := by decide +kernel
theorem dJ13_bitCount_95d88_42 : decode cJ13_bitCount_95d88 42 = .ok (.lload_n 0, 1) := by decide +kernel
theorem dJ13_bitCount_95d88_43 : decode cJ13_bitCount_95d88 43 = .ok (.bipush 16, 2) := by decide +kernel
theorem dJ13_bitCount_95d88_45 : decode cJ13_bitCount_95d88 45 = .ok (.lushr, 1) := by decide +kernel
theorem dJ13_bitCount_95d88_46 : decode cJ13_bitCount_95d88 46 = .ok (.ladd, 1) := by decide +kernel
theorem dJ13_bitCount_95d88_47 : decode cJ13_bitCount_95d88 47 = .ok (.lstore_n 0, 1) := by decide +kernel
theorem dJ13_bitCount_95d88_48 : decode cJ13_bitCount_95d88 48 = .ok (.lload_n 0, 1) := by decide +kernel
theorem dJ13_bitCount_95d88_49 : decode cJ13_bitCount_95d88 49 = .ok (.lload_n 0, 1) := by decide +kernel
theorem dJ13_bitCount_95d88_50 : decode cJ13_bitCount_95d88 50 = .ok (.bipush 32, 2) := by decide +kernel
theorem dJ13_bitCount_95d88_52 : decode cJ13_bitCount_95d88 52 = .ok (.lushr, 1) := by decide +kernel
theorem dJ13_bitCount_95d88_53 : decode cJ13_bitCount_95d88 53 = .ok (.ladd, 1) := by decide +kernel
theorem dJ13_bitCount_95d88_54 : decode cJ13_bitCount_95d88 54 = .ok (.lstore_n 0, 1) := by decide +kernel
theorem dJ13_bitCount_95d88_55 : decode cJ13_bitCount_95d88 55 = .ok (.lload_n 0, 1) := by decide +kernel
theorem dJ13_bitCount_95d88_56 : decode cJ13_bitCount_95d88 56 = .ok (.l2i, 1) := by decide +kernel
theorem dJ13_bitCount_95d88_57 : decode cJ13_bitCount_95d88 57 = .ok (.bipush 127, 2) := by decide +kernel
theorem dJ13_bitCount_95d88_59 : decode cJ13_bitCount_95d88 59 = .ok (.iand, 1) := by decide +kernel
theorem dJ13_bitCount_95d88_60 : decode cJ13_bitCount_95d88 60 = .ok (.ireturn, 1) := by decide +kernel
theorem dJ9_abs_0f7a4_0 : decode cJ9_abs_0f7a4 0 = .ok (.iload_n 0, 1) := by decide +kernel
theorem dJ9_abs_0f7a4_1 : decode cJ9_abs_0f7a4 1 = .ok (.ifCond .ge 8, 3) := by decide +kernel
theorem dJ9_abs_0f7a4_4 : decode cJ9_abs_0f7a4 4 = .ok (.iload_n 0, 1) := by decide +kernel
theorem dJ9_abs_0f7a4_5 : decode cJ9_abs_0f7a4 5 = .ok (.ineg, 1) := by decide +kernel
theorem dJ9_abs_0f7a4_6 : decode cJ9_abs_0f7a4 6 = .ok (.goto 4, 3) := by decide +kernel
theorem dJ9_abs_0f7a4_9 : decode cJ9_abs_0f7a4 9 = .ok (.iload_n 0, 1) := by decide +kernel
theorem dJ9_abs_0f7a4_10 : decode cJ9_abs_0f7a4 10 = .ok (.ireturn, 1) := by decide +kernel
theorem dJ9_max_7cf53_0 : decode cJ9_max_7cf53 0 = .ok (.iload_n 0, 1) := by decide +kernel
theorem dJ9_max_7cf53_1 : decode cJ9_max_7cf53 1 = .ok (.iload_n 1, 1) := by decide +kernel
theorem dJ9_max_7cf53_2 : decode cJ9_max_7cf53 2 = .ok (.if_icmp .lt 7, 3) := by decide +kernel
theorem dJ9_max_7cf53_5 : decode cJ9_max_7cf53 5 = .ok (.iload_n 0, 1) := by decide +kernel
theorem dJ9_max_7cf53_6 : decode cJ9_max_7cf53 6 = .ok (.goto 4, 3) := by decide +kernel
theorem dJ9_max_7cf53_9 : decode cJ9_max_7cf53 9 = .ok (.iload_n 1, 1) := by decide +kernel
theorem dJ9_max_7cf53_10 : decode cJ9_max_7cf53 10 = .ok (.ireturn, 1) := by decide +kernel
theorem dJ7_fill_53178_0 : decode cJ7_fill_53178 0 = .ok (.iconst 0, 1) := by decide +kernel
theorem dJ7_fill_53178_1 : decode cJ7_fill_53178 1 = .ok (.istore_n 2, 1) := by decide +kernel
theorem dJ7_fill_53178_2 : decode cJ7_fill_53178 2 = .ok (.aload_n 0, 1) := by decide +kernel
theorem dJ7_fill_53178_3 : decode cJ7_fill_53178 3 = .ok (.arraylength, 1) := by decide +kernel
theorem dJ7_fill_53178_4 : decode cJ7_fill_53178 4 = .ok (.istore_n 3, 1) := by decide +kernel
theorem dJ7_fill_53178_5 : decode cJ7_fill_53178 5 = .ok (.iload_n 2, 1) := by decide +kernel
theorem dJ7_fill_53178_6 : decode cJ7_fill_53178 6 = .ok (.iload_n 3, 1) := by decide +kernel
theorem dJ7_fill_53178_7 : decode cJ7_fill_53178 7 = .ok (.if_icmp .ge 13, 3) := by decide +kernel
theorem dJ7_fill_53178_10 : decode cJ7_fill_53178 10 = .ok (.aload_n 0, 1) := by decide +kernel
theorem dJ7_fill_53178_11 : decode cJ7_fill_53178 11 = .ok (.iload_n 2, 1) := by decide +kernel
theorem dJ7_fill_53178_12 : decode cJ7_fill_53178 12 = .ok (.iload_n 1, 1) := by decide +kernel
theorem dJ7_fill_53178_13 : decode cJ7_fill_53178 13 = .ok (.iastore, 1) := by decide +kernel
theorem dJ7_fill_53178_14 : decode cJ7_fill_53178 14 = .ok (.iinc 2 1, 3) := by decide +kernel
theorem dJ7_fill_53178_17 : decode cJ7_fill_53178 17 = .ok (.goto (-12), 3) := by decide +kernel
theorem dJ7_fill_53178_20 : decode cJ7_fill_53178 20 = .ok (.return_, 1) := by decide +kernel
set_option maxRecDepth 20000 in
theorem ggL_addPatrol_X5_addPatrol : GoodIn wsL_addPatrol wsX5_addPatrol := goodIn_ca (goodIn_r _ [6, 7, 8, 9, 10, 11, 12, 13, 14, 15, 16, 17, 18, 19, 20, 21, 22, 23, 24] (by decide +kernel) (by decide +kernel)) (goodIn_sub (fun _ h => List.mem_cons_of_mem _ (List.mem_append_right _ h)) (by decide +kernel))
set_option maxRecDepth 20000 in
theorem gL_addPatrol_X5_addPatrol : GoodIn wsL_addPatrol (wsV RL 7 RX5 yX5_addPatrol wsX5_addPatrol) := goodIn_app (goodIn_of _ (by decide +kernel)) ggL_addPatrol_X5_addPatrol
theorem dL_addPatrol_0 : decode cL_addPatrol 0 = .ok (.aload_n 1, 1) := by decide +kernel
theorem dL_addPatrol_1 : decode cL_addPatrol 1 = .ok (.iconst 0, 1) := by decide +kernel
theorem dL_addPatrol_2 : decode cL_addPatrol 2 = .ok (.aload_n 0, 1) := by decide +kernel
theorem dL_addPatrol_3 : decode cL_addPatrol 3 = .ok (.invokevirtual 7, 3) := by decide +kernel
theorem dL_addPatrol_6 : decode cL_addPatrol 6 = .ok (.i2l, 1) := by decide +kernel
theorem dL_addPatrol_7 : decode cL_addPatrol 7 = .ok (.lastore, 1) := by decide +kernel
theorem dL_addPatrol_8 : decode cL_addPatrol 8 = .ok (.goto 6, 3) := by decide +kernel
theorem dL_addPatrol_11 : decode cL_addPatrol 11 = .ok (.astore_n 2, 1) := by decide +kernel
theorem dL_addPatrol_12 : decode cL_addPatrol 12 = .ok (.iconst 1, 1) := by decide +kernel
theorem dL_addPatrol_13 : decode cL_addPatrol 13 = .ok (.ireturn, 1) := by decide +kernel
theorem dL_addPatrol_14 : decode cL_addPatrol 14 = .ok (.iconst 0, 1) := by decide +kernel
theorem dL_addPatrol_15 : decode cL_addPatrol 15 = .ok (.ireturn, 1) := by decide +kernel
set_option maxRecDepth 20000 in
theorem ggL_addScout_X5_addScout : GoodIn wsL_addScout wsX5_addScout := goodIn_ca (goodIn_ca (goodIn_ca (goodIn_r _ [8, 9, 10, 11, 12, 13, 14, 15, 7, 16, 17, 18, 19, 20, 21, 22, 23, 24, 25, 26, 27, 28, 29, 30, 31, 32, 33, 34, 35, 36, 37, 38, 39, 40, 41, 42, 43, 44, 45, 46] (by decide +kernel) (by decide +kernel)) (goodIn_sub (fun _ h => List.mem_cons_of_mem _ (List.mem_append_left _ (List.mem_append_left _ (List.mem_append_right _ h)))) (by decide +kernel))) (goodIn_sub (fun _ h => List.mem_cons_of_mem _ (List.mem_append_left _ (List.mem_append_right _ h))) (by decide +kernel))) (goodIn_sub (fun _ h => List.mem_cons_of_mem _ (List.mem_append_right _ h)) (by decide +kernel))
set_option maxRecDepth 20000 in
theorem gL_addScout_X5_addScout : GoodIn wsL_addScout (wsV RL 15 RX5 yX5_addScout wsX5_addScout) := goodIn_app (goodIn_of _ (by decide +kernel)) ggL_addScout_X5_addScout
theorem dL_addScout_0 : decode cL_addScout 0 = .ok (.aload 4, 2) := by decide +kernel
theorem dL_addScout_2 : decode cL_addScout 2 = .ok (.iconst 0, 1) := by decide +kernel
theorem dL_addScout_3 : decode cL_addScout 3 = .ok (.aload_n 0, 1) := by decide +kernel
theorem dL_addScout_4 : decode cL_addScout 4 = .ok (.iload_n 1, 1) := by decide +kernel
theorem dL_addScout_5 : decode cL_addScout 5 = .ok (.iload_n 2, 1) := by decide +kernel
theorem dL_addScout_6 : decode cL_addScout 6 = .ok (.iload_n 3, 1) := by decide +kernel
theorem dL_addScout_7 : decode cL_addScout 7 = .ok (.invokevirtual 15, 3) := by decide +kernel
theorem dL_addScout_10 : decode cL_addScout 10 = .ok (.i2l, 1) := by decide +kernel
theorem dL_addScout_11 : decode cL_addScout 11 = .ok (.lastore, 1) := by decide +kernel
theorem dL_addScout_12 : decode cL_addScout 12 = .ok (.goto 15, 3) := by decide +kernel
theorem dL_addScout_15 : decode cL_addScout 15 = .ok (.astore 5, 2) := by decide +kernel
theorem dL_addScout_17 : decode cL_addScout 17 = .ok (.iconst 1, 1) := by decide +kernel
theorem dL_addScout_18 : decode cL_addScout 18 = .ok (.ireturn, 1) := by decide +kernel
theorem dL_addScout_19 : decode cL_addScout 19 = .ok (.astore 5, 2) := by decide +kernel
theorem dL_addScout_21 : decode cL_addScout 21 = .ok (.iconst 2, 1) := by decide +kernel
theorem dL_addScout_22 : decode cL_addScout 22 = .ok (.ireturn, 1) := by decide +kernel
theorem dL_addScout_23 : decode cL_addScout 23 = .ok (.astore 5, 2) := by decide +kernel
theorem dL_addScout_25 : decode cL_addScout 25 = .ok (.iconst 3, 1) := by decide +kernel
theorem dL_addScout_26 : decode cL_addScout 26 = .ok (.ireturn, 1) := by decide +kernel
theorem dL_addScout_27 : decode cL_addScout 27 = .ok (.iconst 0, 1) := by decide +kernel
theorem dL_addScout_28 : decode cL_addScout 28 = .ok (.ireturn, 1) := by decide +kernel
set_option maxRecDepth 20000 in
theorem ggL_scout_X5_scout : GoodIn wsL_scout wsX5_scout := goodIn_ca (goodIn_r _ [6, 7, 8, 9, 10, 5, 11, 12, 13, 14, 15, 16, 17, 18, 19, 20, 21, 22, 23, 24, 25, 26, 27, 28, 29, 30, 31, 32, 33, 34, 35, 36, 37, 38, 39, 40, 41, 42, 43, 44, 45, 46, 47, 48, 49, 50, 51, 52, 53, 54, 55, 56, 57] (by decide +kernel) (by decide +kernel)) (goodIn_sub (fun _ h => List.mem_cons_of_mem _ (List.mem_append_right _ h)) (by decide +kernel))
set_option maxRecDepth 20000 in
theorem gL_scout_X5_scout : GoodIn wsL_scout (wsV RL 23 RX5 yX5_scout wsX5_scout) := goodIn_app (goodIn_of _ (by decide +kernel)) ggL_scout_X5_scout
theorem dL_scout_0 : decode cL_scout 0 = .ok (.aload_n 3, 1) := by decide +kernel
theorem dL_scout_1 : decode cL_scout 1 = .ok (.iconst 0, 1) := by decide +kernel
theorem dL_scout_2 : decode cL_scout 2 = .ok (.aload_n 0, 1) := by decide +kernel
theorem dL_scout_3 : decode cL_scout 3 = .ok (.iload_n 1, 1) := by decide +kernel
theorem dL_scout_4 : decode cL_scout 4 = .ok (.iload_n 2, 1) := by decide +kernel
theorem dL_scout_5 : decode cL_scout 5 = .ok (.invokevirtual 23, 3) := by decide +kernel
theorem dL_scout_8 : decode cL_scout 8 = .ok (.i2l, 1) := by decide +kernel
theorem dL_scout_9 : decode cL_scout 9 = .ok (.lastore, 1) := by decide +kernel
theorem dL_scout_10 : decode cL_scout 10 = .ok (.goto 7, 3) := by decide +kernel
theorem dL_scout_13 : decode cL_scout 13 = .ok (.astore 4, 2) := by decide +kernel
theorem dL_scout_15 : decode cL_scout 15 = .ok (.iconst 1, 1) := by decide +kernel
theorem dL_scout_16 : decode cL_scout 16 = .ok (.ireturn, 1) := by decide +kernel
theorem dL_scout_17 : decode cL_scout 17 = .ok (.iconst 0, 1) := by decide +kernel
theorem dL_scout_18 : decode cL_scout 18 = .ok (.ireturn, 1) := by decide +kernel
set_option maxRecDepth 20000 in
theorem ggL_addTent_X5_addTent : GoodIn wsL_addTent wsX5_addTent := goodIn_ca (goodIn_ca (goodIn_r _ [7, 8, 9, 10, 11, 12, 13, 6, 14, 15, 16, 17, 18, 19, 20, 21, 22, 23, 24, 25, 26, 27, 28, 29, 30, 31, 32] (by decide +kernel) (by decide +kernel)) (goodIn_sub (fun _ h => List.mem_cons_of_mem _ (List.mem_append_left _ (List.mem_append_right _ h))) (by decide +kernel))) (goodIn_sub (fun _ h => List.mem_cons_of_mem _ (List.mem_append_right _ h)) (by decide +kernel))
set_option maxRecDepth 20000 in
theorem gL_addTent_X5_addTent : GoodIn wsL_addTent (wsV RL 27 RX5 yX5_addTent wsX5_addTent) := goodIn_app (goodIn_of _ (by decide +kernel)) ggL_addTent_X5_addTent
theorem dL_addTent_0 : decode cL_addTent 0 = .ok (.aload_n 2, 1) := by decide +kernel
theorem dL_addTent_1 : decode cL_addTent 1 = .ok (.iconst 0, 1) := by decide +kernel
theorem dL_addTent_2 : decode cL_addTent 2 = .ok (.aload_n 0, 1) := by decide +kernel
theorem dL_addTent_3 : decode cL_addTent 3 = .ok (.iload_n 1, 1) := by decide +kernel
theorem dL_addTent_4 : decode cL_addTent 4 = .ok (.invokevirtual 27, 3) := by decide +kernel
theorem dL_addTent_7 : decode cL_addTent 7 = .ok (.i2l, 1) := by decide +kernel
theorem dL_addTent_8 : decode cL_addTent 8 = .ok (.lastore, 1) := by decide +kernel
theorem dL_addTent_9 : decode cL_addTent 9 = .ok (.goto 9, 3) := by decide +kernel
theorem dL_addTent_12 : decode cL_addTent 12 = .ok (.astore_n 3, 1) := by decide +kernel
theorem dL_addTent_13 : decode cL_addTent 13 = .ok (.iconst 1, 1) := by decide +kernel
theorem dL_addTent_14 : decode cL_addTent 14 = .ok (.ireturn, 1) := by decide +kernel
theorem dL_addTent_15 : decode cL_addTent 15 = .ok (.astore_n 3, 1) := by decide +kernel
theorem dL_addTent_16 : decode cL_addTent 16 = .ok (.iconst 2, 1) := by decide +kernel
theorem dL_addTent_17 : decode cL_addTent 17 = .ok (.ireturn, 1) := by decide +kernel
theorem dL_addTent_18 : decode cL_addTent 18 = .ok (.iconst 0, 1) := by decide +kernel
theorem dL_addTent_19 : decode cL_addTent 19 = .ok (.ireturn, 1) := by decide +kernel
set_option maxRecDepth 20000 in
theorem ggL_sleep_X5_sleep : GoodIn wsL_sleep wsX5_sleep := goodIn_ca (goodIn_ca (goodIn_r _ [7, 8, 9, 10, 11, 12, 13, 14, 15, 6, 16, 17, 18, 19, 20, 21, 22, 23, 24, 25, 26, 27, 28, 29, 30, 31, 32, 33, 34, 35, 36, 37, 38, 39, 40, 41, 42, 43, 44, 45, 46, 47, 48, 49, 50, 51, 52, 53, 54, 55, 56, 57, 58, 59, 60, 61, 62, 63, 64, 65, 66, 67, 68, 69, 70, 71, 72, 73, 74, 75, 76] (by decide +kernel) (by decide +kernel)) (goodIn_sub (fun _ h => List.mem_cons_of_mem _ (List.mem_append_left _ (List.mem_append_right _ h))) (by decide +kernel))) (goodIn_sub (fun _ h => List.mem_cons_of_mem _ (List.mem_append_right _ h)) (by decide +kernel))
set_option maxRecDepth 20000 in
theorem gL_sleep_X5_sleep : GoodIn wsL_sleep (wsV RL 31 RX5 yX5_sleep wsX5_sleep) := goodIn_app (goodIn_of _ (by decide +kernel)) ggL_sleep_X5_sleep
theorem dL_sleep_0 : decode cL_sleep 0 = .ok (.aload_n 3, 1) := by decide +kernel
theorem dL_sleep_1 : decode cL_sleep 1 = .ok (.iconst 0, 1) := by decide +kernel
theorem dL_sleep_2 : decode cL_sleep 2 = .ok (.aload_n 0, 1) := by decide +kernel
theorem dL_sleep_3 : decode cL_sleep 3 = .ok (.iload_n 1, 1) := by decide +kernel
theorem dL_sleep_4 : decode cL_sleep 4 = .ok (.iload_n 2, 1) := by decide +kernel
theorem dL_sleep_5 : decode cL_sleep 5 = .ok (.invokevirtual 31, 3) := by decide +kernel
theorem dL_sleep_8 : decode cL_sleep 8 = .ok (.i2l, 1) := by decide +kernel
theorem dL_sleep_9 : decode cL_sleep 9 = .ok (.lastore, 1) := by decide +kernel
theorem dL_sleep_10 : decode cL_sleep 10 = .ok (.goto 11, 3) := by decide +kernel
theorem dL_sleep_13 : decode cL_sleep 13 = .ok (.astore 4, 2) := by decide +kernel
theorem dL_sleep_15 : decode cL_sleep 15 = .ok (.iconst 1, 1) := by decide +kernel
theorem dL_sleep_16 : decode cL_sleep 16 = .ok (.ireturn, 1) := by decide +kernel
theorem dL_sleep_17 : decode cL_sleep 17 = .ok (.astore 4, 2) := by decide +kernel
theorem dL_sleep_19 : decode cL_sleep 19 = .ok (.iconst 2, 1) := by decide +kernel
theorem dL_sleep_20 : decode cL_sleep 20 = .ok (.ireturn, 1) := by decide +kernel
theorem dL_sleep_21 : decode cL_sleep 21 = .ok (.iconst 0, 1) := by decide +kernel
theorem dL_sleep_22 : decode cL_sleep 22 = .ok (.ireturn, 1) := by decide +kernel
set_option maxRecDepth 20000 in
theorem ggL_inTent_X5_inTent : GoodIn wsL_inTent wsX5_inTent := goodIn_ca (goodIn_r _ [6, 7, 8, 9, 10, 11, 5, 12, 13, 14, 15, 16, 17, 18, 19, 20, 21, 22, 23] (by decide +kernel) (by decide +kernel)) (goodIn_sub (fun _ h => List.mem_cons_of_mem _ (List.mem_append_right _ h)) (by decide +kernel))
set_option maxRecDepth 20000 in
theorem gL_inTent_X5_inTent : GoodIn wsL_inTent (wsV RL 34 RX5 yX5_inTent wsX5_inTent) := goodIn_app (goodIn_of _ (by decide +kernel)) ggL_inTent_X5_inTent
theorem dL_inTent_0 : decode cL_inTent 0 = .ok (.aload_n 2, 1) := by decide +kernel
theorem dL_inTent_1 : decode cL_inTent 1 = .ok (.iconst 0, 1) := by decide +kernel
theorem dL_inTent_2 : decode cL_inTent 2 = .ok (.aload_n 0, 1) := by decide +kernel
theorem dL_inTent_3 : decode cL_inTent 3 = .ok (.iload_n 1, 1) := by decide +kernel
theorem dL_inTent_4 : decode cL_inTent 4 = .ok (.invokevirtual 34, 3) := by decide +kernel
theorem dL_inTent_7 : decode cL_inTent 7 = .ok (.lastore, 1) := by decide +kernel
theorem dL_inTent_8 : decode cL_inTent 8 = .ok (.goto 6, 3) := by decide +kernel
theorem dL_inTent_11 : decode cL_inTent 11 = .ok (.astore_n 3, 1) := by decide +kernel
theorem dL_inTent_12 : decode cL_inTent 12 = .ok (.iconst 1, 1) := by decide +kernel
theorem dL_inTent_13 : decode cL_inTent 13 = .ok (.ireturn, 1) := by decide +kernel
theorem dL_inTent_14 : decode cL_inTent 14 = .ok (.iconst 0, 1) := by decide +kernel
theorem dL_inTent_15 : decode cL_inTent 15 = .ok (.ireturn, 1) := by decide +kernel
set_option maxRecDepth 20000 in
theorem ggL_count_X5_count : GoodIn wsL_count wsX5_count := goodIn_ca (goodIn_r _ [6, 7, 8, 5, 9, 10, 11, 12, 13, 14, 15, 16, 17, 18, 19, 20, 21, 22, 23, 24, 25, 26, 27, 28, 29, 30, 31, 32, 33, 34, 35, 36, 37, 38, 39, 40, 41, 42, 43, 44, 45, 46, 47, 48, 49, 50, 51, 52, 53, 54, 55, 56, 57, 58, 59, 60, 61, 62, 63, 64, 65, 66, 67, 68, 69] (by decide +kernel) (by decide +kernel)) (goodIn_sub (fun _ h => List.mem_cons_of_mem _ (List.mem_append_right _ h)) (by decide +kernel))
set_option maxRecDepth 20000 in
theorem gL_count_X5_count : GoodIn wsL_count (wsV RL 38 RX5 yX5_count wsX5_count) := goodIn_app (goodIn_of _ (by decide +kernel)) ggL_count_X5_count
theorem dL_count_0 : decode cL_count 0 = .ok (.aload_n 2, 1) := by decide +kernel
theorem dL_count_1 : decode cL_count 1 = .ok (.iconst 0, 1) := by decide +kernel
theorem dL_count_2 : decode cL_count 2 = .ok (.aload_n 0, 1) := by decide +kernel
theorem dL_count_3 : decode cL_count 3 = .ok (.iload_n 1, 1) := by decide +kernel
theorem dL_count_4 : decode cL_count 4 = .ok (.invokevirtual 38, 3) := by decide +kernel
theorem dL_count_7 : decode cL_count 7 = .ok (.i2l, 1) := by decide +kernel
theorem dL_count_8 : decode cL_count 8 = .ok (.lastore, 1) := by decide +kernel
theorem dL_count_9 : decode cL_count 9 = .ok (.goto 6, 3) := by decide +kernel
theorem dL_count_12 : decode cL_count 12 = .ok (.astore_n 3, 1) := by decide +kernel
theorem dL_count_13 : decode cL_count 13 = .ok (.iconst 1, 1) := by decide +kernel
theorem dL_count_14 : decode cL_count 14 = .ok (.ireturn, 1) := by decide +kernel
theorem dL_count_15 : decode cL_count 15 = .ok (.iconst 0, 1) := by decide +kernel
theorem dL_count_16 : decode cL_count 16 = .ok (.ireturn, 1) := by decide +kernel
set_option maxRecDepth 20000 in
theorem ggL_giveDuty_X5_giveDuty : GoodIn wsL_giveDuty wsX5_giveDuty := goodIn_ca (goodIn_ca (goodIn_ca (goodIn_r _ [8, 9, 10, 11, 12, 13, 14, 15, 16, 7, 17, 18, 19, 20, 21, 22, 23, 24, 25, 26, 27, 28, 29, 30, 31, 32, 33, 34, 35, 36, 37, 38, 39, 40, 41, 42, 43, 44, 45, 46, 47, 48, 49, 50, 51, 52, 53, 54, 55, 56, 57, 58, 59, 60, 61, 62, 63, 64, 65, 66, 67, 68, 69, 70, 71, 72, 73, 74, 75, 76, 77, 78, 79, 80] (by decide +kernel) (by decide +kernel)) (goodIn_sub (fun _ h => List.mem_cons_of_mem _ (List.mem_append_left _ (List.mem_append_left _ (List.mem_append_right _ h)))) (by decide +kernel))) (goodIn_sub (fun _ h => List.mem_cons_of_mem _ (List.mem_append_left _ (List.mem_append_right _ h))) (by decide +kernel))) (goodIn_sub (fun _ h => List.mem_cons_of_mem _ (List.mem_append_right _ h)) (by decide +kernel))
set_option maxRecDepth 20000 in
theorem gL_giveDuty_X5_giveDuty : GoodIn wsL_giveDuty (wsV RL 41 RX5 yX5_giveDuty wsX5_giveDuty) := goodIn_app (goodIn_of _ (by decide +kernel)) ggL_giveDuty_X5_giveDuty
theorem dL_giveDuty_0 : decode cL_giveDuty 0 = .ok (.aload 4, 2) := by decide +kernel
theorem dL_giveDuty_2 : decode cL_giveDuty 2 = .ok (.iconst 0, 1) := by decide +kernel
theorem dL_giveDuty_3 : decode cL_giveDuty 3 = .ok (.aload_n 0, 1) := by decide +kernel
theorem dL_giveDuty_4 : decode cL_giveDuty 4 = .ok (.iload_n 1, 1) := by decide +kernel
theorem dL_giveDuty_5 : decode cL_giveDuty 5 = .ok (.iload_n 2, 1) := by decide +kernel
theorem dL_giveDuty_6 : decode cL_giveDuty 6 = .ok (.iload_n 3, 1) := by decide +kernel
theorem dL_giveDuty_7 : decode cL_giveDuty 7 = .ok (.invokevirtual 41, 3) := by decide +kernel
theorem dL_giveDuty_10 : decode cL_giveDuty 10 = .ok (.i2l, 1) := by decide +kernel
theorem dL_giveDuty_11 : decode cL_giveDuty 11 = .ok (.lastore, 1) := by decide +kernel
theorem dL_giveDuty_12 : decode cL_giveDuty 12 = .ok (.goto 15, 3) := by decide +kernel
theorem dL_giveDuty_15 : decode cL_giveDuty 15 = .ok (.astore 5, 2) := by decide +kernel
theorem dL_giveDuty_17 : decode cL_giveDuty 17 = .ok (.iconst 1, 1) := by decide +kernel
theorem dL_giveDuty_18 : decode cL_giveDuty 18 = .ok (.ireturn, 1) := by decide +kernel
theorem dL_giveDuty_19 : decode cL_giveDuty 19 = .ok (.astore 5, 2) := by decide +kernel
theorem dL_giveDuty_21 : decode cL_giveDuty 21 = .ok (.iconst 2, 1) := by decide +kernel
theorem dL_giveDuty_22 : decode cL_giveDuty 22 = .ok (.ireturn, 1) := by decide +kernel
theorem dL_giveDuty_23 : decode cL_giveDuty 23 = .ok (.astore 5, 2) := by decide +kernel
theorem dL_giveDuty_25 : decode cL_giveDuty 25 = .ok (.iconst 3, 1) := by decide +kernel
theorem dL_giveDuty_26 : decode cL_giveDuty 26 = .ok (.ireturn, 1) := by decide +kernel
theorem dL_giveDuty_27 : decode cL_giveDuty 27 = .ok (.iconst 0, 1) := by decide +kernel
theorem dL_giveDuty_28 : decode cL_giveDuty 28 = .ok (.ireturn, 1) := by decide +kernel
set_option maxRecDepth 20000 in
theorem ggL_duty_X5_duty : GoodIn wsL_duty wsX5_duty := goodIn_ca (goodIn_r _ [6, 7, 8, 9, 5, 10, 11, 12, 13, 14, 15, 16, 17, 18, 19, 20, 21, 22, 23, 24, 25, 26] (by decide +kernel) (by decide +kernel)) (goodIn_sub (fun _ h => List.mem_cons_of_mem _ (List.mem_append_right _ h)) (by decide +kernel))
set_option maxRecDepth 20000 in
theorem gL_duty_X5_duty : GoodIn wsL_duty (wsV RL 44 RX5 yX5_duty wsX5_duty) := goodIn_app (goodIn_of _ (by decide +kernel)) ggL_duty_X5_duty
theorem dL_duty_0 : decode cL_duty 0 = .ok (.aload_n 3, 1) := by decide +kernel
theorem dL_duty_1 : decode cL_duty 1 = .ok (.iconst 0, 1) := by decide +kernel
theorem dL_duty_2 : decode cL_duty 2 = .ok (.aload_n 0, 1) := by decide +kernel
theorem dL_duty_3 : decode cL_duty 3 = .ok (.iload_n 1, 1) := by decide +kernel
theorem dL_duty_4 : decode cL_duty 4 = .ok (.iload_n 2, 1) := by decide +kernel
theorem dL_duty_5 : decode cL_duty 5 = .ok (.invokevirtual 44, 3) := by decide +kernel
theorem dL_duty_8 : decode cL_duty 8 = .ok (.i2l, 1) := by decide +kernel
theorem dL_duty_9 : decode cL_duty 9 = .ok (.lastore, 1) := by decide +kernel
theorem dL_duty_10 : decode cL_duty 10 = .ok (.goto 7, 3) := by decide +kernel
theorem dL_duty_13 : decode cL_duty 13 = .ok (.astore 4, 2) := by decide +kernel
theorem dL_duty_15 : decode cL_duty 15 = .ok (.iconst 1, 1) := by decide +kernel
theorem dL_duty_16 : decode cL_duty 16 = .ok (.ireturn, 1) := by decide +kernel
theorem dL_duty_17 : decode cL_duty 17 = .ok (.iconst 0, 1) := by decide +kernel
theorem dL_duty_18 : decode cL_duty 18 = .ok (.ireturn, 1) := by decide +kernel
set_option maxRecDepth 20000 in
theorem ggL_points_X5_points : GoodIn wsL_points wsX5_points := goodIn_ca (goodIn_r _ [6, 7, 8, 9, 10, 11, 12, 5, 13, 14, 15, 16, 17, 18, 19, 20, 21, 22, 23, 24, 25, 26, 27, 28, 29, 30, 31] (by decide +kernel) (by decide +kernel)) (goodIn_sub (fun _ h => List.mem_cons_of_mem _ (List.mem_append_right _ h)) (by decide +kernel))
set_option maxRecDepth 20000 in
theorem gL_points_X5_points : GoodIn wsL_points (wsV RL 47 RX5 yX5_points wsX5_points) := goodIn_app (goodIn_of _ (by decide +kernel)) ggL_points_X5_points
theorem dL_points_0 : decode cL_points 0 = .ok (.aload_n 2, 1) := by decide +kernel
theorem dL_points_1 : decode cL_points 1 = .ok (.iconst 0, 1) := by decide +kernel
theorem dL_points_2 : decode cL_points 2 = .ok (.aload_n 0, 1) := by decide +kernel
theorem dL_points_3 : decode cL_points 3 = .ok (.iload_n 1, 1) := by decide +kernel
theorem dL_points_4 : decode cL_points 4 = .ok (.invokevirtual 47, 3) := by decide +kernel
theorem dL_points_7 : decode cL_points 7 = .ok (.i2l, 1) := by decide +kernel
theorem dL_points_8 : decode cL_points 8 = .ok (.lastore, 1) := by decide +kernel
theorem dL_points_9 : decode cL_points 9 = .ok (.goto 6, 3) := by decide +kernel
theorem dL_points_12 : decode cL_points 12 = .ok (.astore_n 3, 1) := by decide +kernel
theorem dL_points_13 : decode cL_points 13 = .ok (.iconst 1, 1) := by decide +kernel
theorem dL_points_14 : decode cL_points 14 = .ok (.ireturn, 1) := by decide +kernel
theorem dL_points_15 : decode cL_points 15 = .ok (.iconst 0, 1) := by decide +kernel
theorem dL_points_16 : decode cL_points 16 = .ok (.ireturn, 1) := by decide +kernel
set_option maxRecDepth 20000 in
theorem ggL_addFood_X5_addFood : GoodIn wsL_addFood wsX5_addFood := goodIn_ca (goodIn_ca (goodIn_r _ [7, 8, 9, 10, 11, 12, 13, 14, 6, 15, 16, 17, 18, 19, 20, 21, 22, 23, 24, 25, 26, 27, 28, 29] (by decide +kernel) (by decide +kernel)) (goodIn_sub (fun _ h => List.mem_cons_of_mem _ (List.mem_append_left _ (List.mem_append_right _ h))) (by decide +kernel))) (goodIn_sub (fun _ h => List.mem_cons_of_mem _ (List.mem_append_right _ h)) (by decide +kernel))
set_option maxRecDepth 20000 in
theorem gL_addFood_X5_addFood : GoodIn wsL_addFood (wsV RL 50 RX5 yX5_addFood wsX5_addFood) := goodIn_app (goodIn_of _ (by decide +kernel)) ggL_addFood_X5_addFood
theorem dL_addFood_0 : decode cL_addFood 0 = .ok (.aload_n 2, 1) := by decide +kernel
theorem dL_addFood_1 : decode cL_addFood 1 = .ok (.iconst 0, 1) := by decide +kernel
theorem dL_addFood_2 : decode cL_addFood 2 = .ok (.aload_n 0, 1) := by decide +kernel
theorem dL_addFood_3 : decode cL_addFood 3 = .ok (.iload_n 1, 1) := by decide +kernel
theorem dL_addFood_4 : decode cL_addFood 4 = .ok (.invokevirtual 50, 3) := by decide +kernel
theorem dL_addFood_7 : decode cL_addFood 7 = .ok (.i2l, 1) := by decide +kernel
theorem dL_addFood_8 : decode cL_addFood 8 = .ok (.lastore, 1) := by decide +kernel
theorem dL_addFood_9 : decode cL_addFood 9 = .ok (.goto 9, 3) := by decide +kernel
theorem dL_addFood_12 : decode cL_addFood 12 = .ok (.astore_n 3, 1) := by decide +kernel
theorem dL_addFood_13 : decode cL_addFood 13 = .ok (.iconst 1, 1) := by decide +kernel
theorem dL_addFood_14 : decode cL_addFood 14 = .ok (.ireturn, 1) := by decide +kernel
theorem dL_addFood_15 : decode cL_addFood 15 = .ok (.astore_n 3, 1) := by decide +kernel
theorem dL_addFood_16 : decode cL_addFood 16 = .ok (.iconst 2, 1) := by decide +kernel
theorem dL_addFood_17 : decode cL_addFood 17 = .ok (.ireturn, 1) := by decide +kernel
theorem dL_addFood_18 : decode cL_addFood 18 = .ok (.iconst 0, 1) := by decide +kernel
theorem dL_addFood_19 : decode cL_addFood 19 = .ok (.ireturn, 1) := by decide +kernel
set_option maxRecDepth 20000 in
theorem ggL_buy_X5_buy : GoodIn wsL_buy wsX5_buy := goodIn_ca (goodIn_ca (goodIn_ca (goodIn_r _ [8, 9, 10, 11, 12, 13, 14, 15, 7, 16, 17, 18, 19, 20, 21, 22, 23, 24, 25, 26, 27, 28, 29, 30, 31, 32, 33, 34, 35] (by decide +kernel) (by decide +kernel)) (goodIn_sub (fun _ h => List.mem_cons_of_mem _ (List.mem_append_left _ (List.mem_append_left _ (List.mem_append_right _ h)))) (by decide +kernel))) (goodIn_sub (fun _ h => List.mem_cons_of_mem _ (List.mem_append_left _ (List.mem_append_right _ h))) (by decide +kernel))) (goodIn_sub (fun _ h => List.mem_cons_of_mem _ (List.mem_append_right _ h)) (by decide +kernel))
set_option maxRecDepth 20000 in
theorem gL_buy_X5_buy : GoodIn wsL_buy (wsV RL 53 RX5 yX5_buy wsX5_buy) := goodIn_app (goodIn_of _ (by decide +kernel)) ggL_buy_X5_buy
theorem dL_buy_0 : decode cL_buy 0 = .ok (.aload_n 3, 1) := by decide +kernel
theorem dL_buy_1 : decode cL_buy 1 = .ok (.iconst 0, 1) := by decide +kernel
theorem dL_buy_2 : decode cL_buy 2 = .ok (.aload_n 0, 1) := by decide +kernel
theorem dL_buy_3 : decode cL_buy 3 = .ok (.iload_n 1, 1) := by decide +kernel
theorem dL_buy_4 : decode cL_buy 4 = .ok (.iload_n 2, 1) := by decide +kernel
theorem dL_buy_5 : decode cL_buy 5 = .ok (.invokevirtual 53, 3) := by decide +kernel
theorem dL_buy_8 : decode cL_buy 8 = .ok (.i2l, 1) := by decide +kernel
theorem dL_buy_9 : decode cL_buy 9 = .ok (.lastore, 1) := by decide +kernel
theorem dL_buy_10 : decode cL_buy 10 = .ok (.goto 15, 3) := by decide +kernel
theorem dL_buy_13 : decode cL_buy 13 = .ok (.astore 4, 2) := by decide +kernel
theorem dL_buy_15 : decode cL_buy 15 = .ok (.iconst 1, 1) := by decide +kernel
theorem dL_buy_16 : decode cL_buy 16 = .ok (.ireturn, 1) := by decide +kernel
theorem dL_buy_17 : decode cL_buy 17 = .ok (.astore 4, 2) := by decide +kernel
theorem dL_buy_19 : decode cL_buy 19 = .ok (.iconst 2, 1) := by decide +kernel
theorem dL_buy_20 : decode cL_buy 20 = .ok (.ireturn, 1) := by decide +kernel
theorem dL_buy_21 : decode cL_buy 21 = .ok (.astore 4, 2) := by decide +kernel
theorem dL_buy_23 : decode cL_buy 23 = .ok (.iconst 3, 1) := by decide +kernel
theorem dL_buy_24 : decode cL_buy 24 = .ok (.ireturn, 1) := by decide +kernel
theorem dL_buy_25 : decode cL_buy 25 = .ok (.iconst 0, 1) := by decide +kernel
theorem dL_buy_26 : decode cL_buy 26 = .ok (.ireturn, 1) := by decide +kernel
set_option maxRecDepth 20000 in
theorem ggL_store_X5_store : GoodIn wsL_store wsX5_store := goodIn_ca (goodIn_r _ [6, 7, 8, 9, 10, 11, 5, 12, 13, 14, 15, 16, 17, 18, 19, 20, 21, 22, 23, 24, 25, 26] (by decide +kernel) (by decide +kernel)) (goodIn_sub (fun _ h => List.mem_cons_of_mem _ (List.mem_append_right _ h)) (by decide +kernel))
set_option maxRecDepth 20000 in
theorem gL_store_X5_store : GoodIn wsL_store (wsV RL 56 RX5 yX5_store wsX5_store) := goodIn_app (goodIn_of _ (by decide +kernel)) ggL_store_X5_store
theorem dL_store_0 : decode cL_store 0 = .ok (.aload_n 2, 1) := by decide +kernel
theorem dL_store_1 : decode cL_store 1 = .ok (.iconst 0, 1) := by decide +kernel
theorem dL_store_2 : decode cL_store 2 = .ok (.aload_n 0, 1) := by decide +kernel
theorem dL_store_3 : decode cL_store 3 = .ok (.iload_n 1, 1) := by decide +kernel
theorem dL_store_4 : decode cL_store 4 = .ok (.invokevirtual 56, 3) := by decide +kernel
theorem dL_store_7 : decode cL_store 7 = .ok (.i2l, 1) := by decide +kernel
theorem dL_store_8 : decode cL_store 8 = .ok (.lastore, 1) := by decide +kernel
theorem dL_store_9 : decode cL_store 9 = .ok (.goto 6, 3) := by decide +kernel
theorem dL_store_12 : decode cL_store 12 = .ok (.astore_n 3, 1) := by decide +kernel
theorem dL_store_13 : decode cL_store 13 = .ok (.iconst 1, 1) := by decide +kernel
theorem dL_store_14 : decode cL_store 14 = .ok (.ireturn, 1) := by decide +kernel
theorem dL_store_15 : decode cL_store 15 = .ok (.iconst 0, 1) := by decide +kernel
theorem dL_store_16 : decode cL_store 16 = .ok (.ireturn, 1) := by decide +kernel
set_option maxRecDepth 20000 in
theorem ggL_diet_X5_diet : GoodIn wsL_diet wsX5_diet := goodIn_ca (goodIn_r _ [6, 7, 8, 9, 10, 11, 12, 13, 5, 14, 15, 16, 17, 18, 19, 20, 21, 22, 23, 24, 25, 26, 27, 28, 29, 30, 31, 32, 33, 34, 35, 36] (by decide +kernel) (by decide +kernel)) (goodIn_sub (fun _ h => List.mem_cons_of_mem _ (List.mem_append_right _ h)) (by decide +kernel))
set_option maxRecDepth 20000 in
theorem gL_diet_X5_diet : GoodIn wsL_diet (wsV RL 59 RX5 yX5_diet wsX5_diet) := goodIn_app (goodIn_of _ (by decide +kernel)) ggL_diet_X5_diet
theorem dL_diet_0 : decode cL_diet 0 = .ok (.aload 4, 2) := by decide +kernel
theorem dL_diet_2 : decode cL_diet 2 = .ok (.iconst 0, 1) := by decide +kernel
theorem dL_diet_3 : decode cL_diet 3 = .ok (.aload_n 0, 1) := by decide +kernel
theorem dL_diet_4 : decode cL_diet 4 = .ok (.iload_n 1, 1) := by decide +kernel
theorem dL_diet_5 : decode cL_diet 5 = .ok (.iload_n 2, 1) := by decide +kernel
theorem dL_diet_6 : decode cL_diet 6 = .ok (.iload_n 3, 1) := by decide +kernel
theorem dL_diet_7 : decode cL_diet 7 = .ok (.invokevirtual 59, 3) := by decide +kernel
theorem dL_diet_10 : decode cL_diet 10 = .ok (.ifCond .eq 7, 3) := by decide +kernel
theorem dL_diet_13 : decode cL_diet 13 = .ok (.lconst 1, 1) := by decide +kernel
theorem dL_diet_14 : decode cL_diet 14 = .ok (.goto 4, 3) := by decide +kernel
theorem dL_diet_17 : decode cL_diet 17 = .ok (.lconst 0, 1) := by decide +kernel
theorem dL_diet_18 : decode cL_diet 18 = .ok (.lastore, 1) := by decide +kernel
theorem dL_diet_19 : decode cL_diet 19 = .ok (.goto 7, 3) := by decide +kernel
theorem dL_diet_22 : decode cL_diet 22 = .ok (.astore 5, 2) := by decide +kernel
theorem dL_diet_24 : decode cL_diet 24 = .ok (.iconst 1, 1) := by decide +kernel
theorem dL_diet_25 : decode cL_diet 25 = .ok (.ireturn, 1) := by decide +kernel
theorem dL_diet_26 : decode cL_diet 26 = .ok (.iconst 0, 1) := by decide +kernel
theorem dL_diet_27 : decode cL_diet 27 = .ok (.ireturn, 1) := by decide +kernel
set_option maxRecDepth 20000 in
theorem ggL_addMeal_X5_addMeal : GoodIn wsL_addMeal wsX5_addMeal := goodIn_ca (goodIn_r _ [6, 7, 8, 9, 10, 11, 12, 13, 14, 15, 16, 17, 18, 19, 20, 21, 22] (by decide +kernel) (by decide +kernel)) (goodIn_sub (fun _ h => List.mem_cons_of_mem _ (List.mem_append_right _ h)) (by decide +kernel))
set_option maxRecDepth 20000 in
theorem gL_addMeal_X5_addMeal : GoodIn wsL_addMeal (wsV RL 63 RX5 yX5_addMeal wsX5_addMeal) := goodIn_app (goodIn_of _ (by decide +kernel)) ggL_addMeal_X5_addMeal
theorem dL_addMeal_0 : decode cL_addMeal 0 = .ok (.aload_n 1, 1) := by decide +kernel
theorem dL_addMeal_1 : decode cL_addMeal 1 = .ok (.iconst 0, 1) := by decide +kernel
theorem dL_addMeal_2 : decode cL_addMeal 2 = .ok (.aload_n 0, 1) := by decide +kernel
theorem dL_addMeal_3 : decode cL_addMeal 3 = .ok (.invokevirtual 63, 3) := by decide +kernel
theorem dL_addMeal_6 : decode cL_addMeal 6 = .ok (.i2l, 1) := by decide +kernel
theorem dL_addMeal_7 : decode cL_addMeal 7 = .ok (.lastore, 1) := by decide +kernel
theorem dL_addMeal_8 : decode cL_addMeal 8 = .ok (.goto 6, 3) := by decide +kernel
theorem dL_addMeal_11 : decode cL_addMeal 11 = .ok (.astore_n 2, 1) := by decide +kernel
theorem dL_addMeal_12 : decode cL_addMeal 12 = .ok (.iconst 1, 1) := by decide +kernel
theorem dL_addMeal_13 : decode cL_addMeal 13 = .ok (.ireturn, 1) := by decide +kernel
theorem dL_addMeal_14 : decode cL_addMeal 14 = .ok (.iconst 0, 1) := by decide +kernel
theorem dL_addMeal_15 : decode cL_addMeal 15 = .ok (.ireturn, 1) := by decide +kernel
set_option maxRecDepth 20000 in
theorem ggL_need_X5_need : GoodIn wsL_need wsX5_need := goodIn_ca (goodIn_ca (goodIn_r _ [7, 8, 9, 10, 11, 12, 13, 6, 14, 15, 16, 17, 18, 19, 20, 21, 22, 23, 24, 25, 26, 27, 28, 29, 30, 31, 32, 33, 34, 35, 36, 37, 38, 39] (by decide +kernel) (by decide +kernel)) (goodIn_sub (fun _ h => List.mem_cons_of_mem _ (List.mem_append_left _ (List.mem_append_right _ h))) (by decide +kernel))) (goodIn_sub (fun _ h => List.mem_cons_of_mem _ (List.mem_append_right _ h)) (by decide +kernel))
set_option maxRecDepth 20000 in
theorem gL_need_X5_need : GoodIn wsL_need (wsV RL 66 RX5 yX5_need wsX5_need) := goodIn_app (goodIn_of _ (by decide +kernel)) ggL_need_X5_need
theorem dL_need_0 : decode cL_need 0 = .ok (.aload 4, 2) := by decide +kernel
theorem dL_need_2 : decode cL_need 2 = .ok (.iconst 0, 1) := by decide +kernel
theorem dL_need_3 : decode cL_need 3 = .ok (.aload_n 0, 1) := by decide +kernel
theorem dL_need_4 : decode cL_need 4 = .ok (.iload_n 1, 1) := by decide +kernel
theorem dL_need_5 : decode cL_need 5 = .ok (.iload_n 2, 1) := by decide +kernel
theorem dL_need_6 : decode cL_need 6 = .ok (.iload_n 3, 1) := by decide +kernel
theorem dL_need_7 : decode cL_need 7 = .ok (.invokevirtual 66, 3) := by decide +kernel
theorem dL_need_10 : decode cL_need 10 = .ok (.i2l, 1) := by decide +kernel
theorem dL_need_11 : decode cL_need 11 = .ok (.lastore, 1) := by decide +kernel
theorem dL_need_12 : decode cL_need 12 = .ok (.goto 11, 3) := by decide +kernel
theorem dL_need_15 : decode cL_need 15 = .ok (.astore 5, 2) := by decide +kernel
theorem dL_need_17 : decode cL_need 17 = .ok (.iconst 1, 1) := by decide +kernel
theorem dL_need_18 : decode cL_need 18 = .ok (.ireturn, 1) := by decide +kernel
theorem dL_need_19 : decode cL_need 19 = .ok (.astore 5, 2) := by decide +kernel
theorem dL_need_21 : decode cL_need 21 = .ok (.iconst 2, 1) := by decide +kernel
theorem dL_need_22 : decode cL_need 22 = .ok (.ireturn, 1) := by decide +kernel
theorem dL_need_23 : decode cL_need 23 = .ok (.iconst 0, 1) := by decide +kernel
theorem dL_need_24 : decode cL_need 24 = .ok (.ireturn, 1) := by decide +kernel
set_option maxRecDepth 20000 in
theorem ggL_eaters_X5_eaters : GoodIn wsL_eaters wsX5_eaters := goodIn_ca (goodIn_r _ [6, 7, 8, 9, 10, 11, 5, 12, 13, 14, 15, 16, 17, 18, 19, 20, 21, 22, 23, 24, 25, 26, 27, 28, 29, 30, 31, 32, 33, 34, 35, 36, 37, 38, 39, 40, 41, 42, 43, 44, 45, 46, 47, 48, 49, 50, 51] (by decide +kernel) (by decide +kernel)) (goodIn_sub (fun _ h => List.mem_cons_of_mem _ (List.mem_append_right _ h)) (by decide +kernel))
set_option maxRecDepth 20000 in
theorem gL_eaters_X5_eaters : GoodIn wsL_eaters (wsV RL 69 RX5 yX5_eaters wsX5_eaters) := goodIn_app (goodIn_of _ (by decide +kernel)) ggL_eaters_X5_eaters
theorem dL_eaters_0 : decode cL_eaters 0 = .ok (.aload_n 2, 1) := by decide +kernel
theorem dL_eaters_1 : decode cL_eaters 1 = .ok (.iconst 0, 1) := by decide +kernel
theorem dL_eaters_2 : decode cL_eaters 2 = .ok (.aload_n 0, 1) := by decide +kernel
theorem dL_eaters_3 : decode cL_eaters 3 = .ok (.iload_n 1, 1) := by decide +kernel
theorem dL_eaters_4 : decode cL_eaters 4 = .ok (.invokevirtual 69, 3) := by decide +kernel
theorem dL_eaters_7 : decode cL_eaters 7 = .ok (.lastore, 1) := by decide +kernel
theorem dL_eaters_8 : decode cL_eaters 8 = .ok (.goto 6, 3) := by decide +kernel
theorem dL_eaters_11 : decode cL_eaters 11 = .ok (.astore_n 3, 1) := by decide +kernel
theorem dL_eaters_12 : decode cL_eaters 12 = .ok (.iconst 1, 1) := by decide +kernel
theorem dL_eaters_13 : decode cL_eaters 13 = .ok (.ireturn, 1) := by decide +kernel
theorem dL_eaters_14 : decode cL_eaters 14 = .ok (.iconst 0, 1) := by decide +kernel
theorem dL_eaters_15 : decode cL_eaters 15 = .ok (.ireturn, 1) := by decide +kernel
set_option maxRecDepth 20000 in
theorem ggL_lacks_X5_lacks : GoodIn wsL_lacks wsX5_lacks := goodIn_ca (goodIn_ca (goodIn_r _ [7, 8, 9, 10, 11, 12, 13, 14, 15, 16, 17, 18, 6, 19, 20, 21, 22, 23, 24, 25, 26, 27, 28, 29, 30, 31, 32, 33, 34, 35, 36, 37, 38, 39, 40, 41, 42, 43, 44, 45, 46, 47, 48, 49, 50, 51, 52, 53, 54, 55, 56, 57, 58, 59, 60, 61, 62, 63, 64, 65, 66, 67, 68, 69, 70, 71] (by decide +kernel) (by decide +kernel)) (goodIn_sub (fun _ h => List.mem_cons_of_mem _ (List.mem_append_left _ (List.mem_append_right _ h))) (by decide +kernel))) (goodIn_sub (fun _ h => List.mem_cons_of_mem _ (List.mem_append_right _ h)) (by decide +kernel))
set_option maxRecDepth 20000 in
theorem gL_lacks_X5_lacks : GoodIn wsL_lacks (wsV RL 72 RX5 yX5_lacks wsX5_lacks) := goodIn_app (goodIn_of _ (by decide +kernel)) ggL_lacks_X5_lacks
theorem dL_lacks_0 : decode cL_lacks 0 = .ok (.aload 4, 2) := by decide +kernel
theorem dL_lacks_2 : decode cL_lacks 2 = .ok (.iconst 0, 1) := by decide +kernel
theorem dL_lacks_3 : decode cL_lacks 3 = .ok (.aload_n 0, 1) := by decide +kernel
theorem dL_lacks_4 : decode cL_lacks 4 = .ok (.iload_n 1, 1) := by decide +kernel
theorem dL_lacks_5 : decode cL_lacks 5 = .ok (.iload_n 2, 1) := by decide +kernel
theorem dL_lacks_6 : decode cL_lacks 6 = .ok (.iload_n 3, 1) := by decide +kernel
theorem dL_lacks_7 : decode cL_lacks 7 = .ok (.invokevirtual 72, 3) := by decide +kernel
theorem dL_lacks_10 : decode cL_lacks 10 = .ok (.i2l, 1) := by decide +kernel
theorem dL_lacks_11 : decode cL_lacks 11 = .ok (.lastore, 1) := by decide +kernel
theorem dL_lacks_12 : decode cL_lacks 12 = .ok (.goto 11, 3) := by decide +kernel
theorem dL_lacks_15 : decode cL_lacks 15 = .ok (.astore 5, 2) := by decide +kernel
theorem dL_lacks_17 : decode cL_lacks 17 = .ok (.iconst 1, 1) := by decide +kernel
theorem dL_lacks_18 : decode cL_lacks 18 = .ok (.ireturn, 1) := by decide +kernel
theorem dL_lacks_19 : decode cL_lacks 19 = .ok (.astore 5, 2) := by decide +kernel
theorem dL_lacks_21 : decode cL_lacks 21 = .ok (.iconst 2, 1) := by decide +kernel
theorem dL_lacks_22 : decode cL_lacks 22 = .ok (.ireturn, 1) := by decide +kernel
theorem dL_lacks_23 : decode cL_lacks 23 = .ok (.iconst 0, 1) := by decide +kernel
theorem dL_lacks_24 : decode cL_lacks 24 = .ok (.ireturn, 1) := by decide +kernel
set_option maxRecDepth 20000 in
theorem ggL_eat_X5_eat : GoodIn wsL_eat wsX5_eat := goodIn_ca (goodIn_ca (goodIn_r _ [7, 8, 9, 10, 11, 12, 13, 14, 6, 15, 16, 17, 18, 19, 20, 21, 22, 23, 24, 25, 26, 27, 28, 29, 30, 31, 32, 33, 34, 35, 36, 37, 38, 39, 40, 41, 42, 43, 44, 45, 46, 47, 48, 49, 50, 51, 52, 53, 54, 55, 56, 57, 58, 59, 60, 61, 62, 63, 64, 65, 66, 67, 68, 69, 70, 71, 72, 73, 74, 75, 76] (by decide +kernel) (by decide +kernel)) (goodIn_sub (fun _ h => List.mem_cons_of_mem _ (List.mem_append_left _ (List.mem_append_right _ h))) (by decide +kernel))) (goodIn_sub (fun _ h => List.mem_cons_of_mem _ (List.mem_append_right _ h)) (by decide +kernel))
set_option maxRecDepth 20000 in
theorem gL_eat_X5_eat : GoodIn wsL_eat (wsV RL 75 RX5 yX5_eat wsX5_eat) := goodIn_app (goodIn_of _ (by decide +kernel)) ggL_eat_X5_eat
theorem dL_eat_0 : decode cL_eat 0 = .ok (.aload_n 2, 1) := by decide +kernel
theorem dL_eat_1 : decode cL_eat 1 = .ok (.iconst 0, 1) := by decide +kernel
theorem dL_eat_2 : decode cL_eat 2 = .ok (.aload_n 0, 1) := by decide +kernel
theorem dL_eat_3 : decode cL_eat 3 = .ok (.iload_n 1, 1) := by decide +kernel
theorem dL_eat_4 : decode cL_eat 4 = .ok (.invokevirtual 75, 3) := by decide +kernel
theorem dL_eat_7 : decode cL_eat 7 = .ok (.i2l, 1) := by decide +kernel
theorem dL_eat_8 : decode cL_eat 8 = .ok (.lastore, 1) := by decide +kernel
theorem dL_eat_9 : decode cL_eat 9 = .ok (.goto 9, 3) := by decide +kernel
theorem dL_eat_12 : decode cL_eat 12 = .ok (.astore_n 3, 1) := by decide +kernel
theorem dL_eat_13 : decode cL_eat 13 = .ok (.iconst 1, 1) := by decide +kernel
theorem dL_eat_14 : decode cL_eat 14 = .ok (.ireturn, 1) := by decide +kernel
theorem dL_eat_15 : decode cL_eat 15 = .ok (.astore_n 3, 1) := by decide +kernel
theorem dL_eat_16 : decode cL_eat 16 = .ok (.iconst 2, 1) := by decide +kernel
theorem dL_eat_17 : decode cL_eat 17 = .ok (.ireturn, 1) := by decide +kernel
theorem dL_eat_18 : decode cL_eat 18 = .ok (.iconst 0, 1) := by decide +kernel
theorem dL_eat_19 : decode cL_eat 19 = .ok (.ireturn, 1) := by decide +kernel
set_option maxRecDepth 20000 in
theorem ggL_table_X5_table : GoodIn wsL_table wsX5_table := goodIn_ca (goodIn_r _ [6, 7, 8, 9, 10, 11, 5, 12, 13, 14, 15, 16, 17, 18, 19, 20, 21, 22, 23, 24, 25, 26, 27, 28, 29, 30, 31, 32, 33, 34, 35, 36, 37, 38, 39, 40, 41, 42, 43, 44, 45, 46, 47, 48, 49, 50, 51, 52, 53, 54, 55, 56, 57, 58, 59, 60, 61, 62, 63, 64, 65, 66, 67, 68, 69, 70, 71, 72, 73, 74, 75, 76, 77, 78, 79, 80, 81, 82] (by decide +kernel) (by decide +kernel)) (goodIn_sub (fun _ h => List.mem_cons_of_mem _ (List.mem_append_right _ h)) (by decide +kernel))
set_option maxRecDepth 20000 in
theorem gL_table_X5_table : GoodIn wsL_table (wsV RL 78 RX5 yX5_table wsX5_table) := goodIn_app (goodIn_of _ (by decide +kernel)) ggL_table_X5_table
theorem dL_table_0 : decode cL_table 0 = .ok (.aload_n 2, 1) := by decide +kernel
theorem dL_table_1 : decode cL_table 1 = .ok (.iconst 0, 1) := by decide +kernel
theorem dL_table_2 : decode cL_table 2 = .ok (.aload_n 0, 1) := by decide +kernel
theorem dL_table_3 : decode cL_table 3 = .ok (.iload_n 1, 1) := by decide +kernel
theorem dL_table_4 : decode cL_table 4 = .ok (.invokevirtual 78, 3) := by decide +kernel
theorem dL_table_7 : decode cL_table 7 = .ok (.i2l, 1) := by decide +kernel
theorem dL_table_8 : decode cL_table 8 = .ok (.lastore, 1) := by decide +kernel
theorem dL_table_9 : decode cL_table 9 = .ok (.goto 6, 3) := by decide +kernel
theorem dL_table_12 : decode cL_table 12 = .ok (.astore_n 3, 1) := by decide +kernel
theorem dL_table_13 : decode cL_table 13 = .ok (.iconst 1, 1) := by decide +kernel
theorem dL_table_14 : decode cL_table 14 = .ok (.ireturn, 1) := by decide +kernel
theorem dL_table_15 : decode cL_table 15 = .ok (.iconst 0, 1) := by decide +kernel
theorem dL_table_16 : decode cL_table 16 = .ok (.ireturn, 1) := by decide +kernel
set_option maxRecDepth 20000 in
theorem ggL_addBadge_X5_addBadge : GoodIn wsL_addBadge wsX5_addBadge := goodIn_ca (goodIn_ca (goodIn_r _ [7, 8, 9, 10, 11, 12, 13, 14, 6, 15, 16, 17, 18, 19, 20, 21, 22, 23, 24, 25, 26] (by decide +kernel) (by decide +kernel)) (goodIn_sub (fun _ h => List.mem_cons_of_mem _ (List.mem_append_left _ (List.mem_append_right _ h))) (by decide +kernel))) (goodIn_sub (fun _ h => List.mem_cons_of_mem _ (List.mem_append_right _ h)) (by decide +kernel))
set_option maxRecDepth 20000 in
theorem gL_addBadge_X5_addBadge : GoodIn wsL_addBadge (wsV RL 81 RX5 yX5_addBadge wsX5_addBadge) := goodIn_app (goodIn_of _ (by decide +kernel)) ggL_addBadge_X5_addBadge
theorem dL_addBadge_0 : decode cL_addBadge 0 = .ok (.aload_n 2, 1) := by decide +kernel
theorem dL_addBadge_1 : decode cL_addBadge 1 = .ok (.iconst 0, 1) := by decide +kernel
theorem dL_addBadge_2 : decode cL_addBadge 2 = .ok (.aload_n 0, 1) := by decide +kernel
theorem dL_addBadge_3 : decode cL_addBadge 3 = .ok (.iload_n 1, 1) := by decide +kernel
theorem dL_addBadge_4 : decode cL_addBadge 4 = .ok (.invokevirtual 81, 3) := by decide +kernel
theorem dL_addBadge_7 : decode cL_addBadge 7 = .ok (.i2l, 1) := by decide +kernel
theorem dL_addBadge_8 : decode cL_addBadge 8 = .ok (.lastore, 1) := by decide +kernel
theorem dL_addBadge_9 : decode cL_addBadge 9 = .ok (.goto 9, 3) := by decide +kernel
theorem dL_addBadge_12 : decode cL_addBadge 12 = .ok (.astore_n 3, 1) := by decide +kernel
theorem dL_addBadge_13 : decode cL_addBadge 13 = .ok (.iconst 1, 1) := by decide +kernel
theorem dL_addBadge_14 : decode cL_addBadge 14 = .ok (.ireturn, 1) := by decide +kernel
theorem dL_addBadge_15 : decode cL_addBadge 15 = .ok (.astore_n 3, 1) := by decide +kernel
theorem dL_addBadge_16 : decode cL_addBadge 16 = .ok (.iconst 2, 1) := by decide +kernel
theorem dL_addBadge_17 : decode cL_addBadge 17 = .ok (.ireturn, 1) := by decide +kernel
theorem dL_addBadge_18 : decode cL_addBadge 18 = .ok (.iconst 0, 1) := by decide +kernel
theorem dL_addBadge_19 : decode cL_addBadge 19 = .ok (.ireturn, 1) := by decide +kernel
set_option maxRecDepth 20000 in
theorem ggL_want_X5_want : GoodIn wsL_want wsX5_want := goodIn_ca (goodIn_ca (goodIn_r _ [7, 8, 9, 10, 11, 12, 6, 13, 14, 15, 16, 17, 18, 19, 20, 21, 22, 23, 24, 25, 26, 27, 28, 29] (by decide +kernel) (by decide +kernel)) (goodIn_sub (fun _ h => List.mem_cons_of_mem _ (List.mem_append_left _ (List.mem_append_right _ h))) (by decide +kernel))) (goodIn_sub (fun _ h => List.mem_cons_of_mem _ (List.mem_append_right _ h)) (by decide +kernel))
set_option maxRecDepth 20000 in
theorem gL_want_X5_want : GoodIn wsL_want (wsV RL 84 RX5 yX5_want wsX5_want) := goodIn_app (goodIn_of _ (by decide +kernel)) ggL_want_X5_want
theorem dL_want_0 : decode cL_want 0 = .ok (.aload 4, 2) := by decide +kernel
theorem dL_want_2 : decode cL_want 2 = .ok (.iconst 0, 1) := by decide +kernel
theorem dL_want_3 : decode cL_want 3 = .ok (.aload_n 0, 1) := by decide +kernel
theorem dL_want_4 : decode cL_want 4 = .ok (.iload_n 1, 1) := by decide +kernel
theorem dL_want_5 : decode cL_want 5 = .ok (.iload_n 2, 1) := by decide +kernel
theorem dL_want_6 : decode cL_want 6 = .ok (.iload_n 3, 1) := by decide +kernel
theorem dL_want_7 : decode cL_want 7 = .ok (.invokevirtual 84, 3) := by decide +kernel
theorem dL_want_10 : decode cL_want 10 = .ok (.i2l, 1) := by decide +kernel
theorem dL_want_11 : decode cL_want 11 = .ok (.lastore, 1) := by decide +kernel
theorem dL_want_12 : decode cL_want 12 = .ok (.goto 11, 3) := by decide +kernel
theorem dL_want_15 : decode cL_want 15 = .ok (.astore 5, 2) := by decide +kernel
theorem dL_want_17 : decode cL_want 17 = .ok (.iconst 1, 1) := by decide +kernel
theorem dL_want_18 : decode cL_want 18 = .ok (.ireturn, 1) := by decide +kernel
theorem dL_want_19 : decode cL_want 19 = .ok (.astore 5, 2) := by decide +kernel
theorem dL_want_21 : decode cL_want 21 = .ok (.iconst 2, 1) := by decide +kernel
theorem dL_want_22 : decode cL_want 22 = .ok (.ireturn, 1) := by decide +kernel
theorem dL_want_23 : decode cL_want 23 = .ok (.iconst 0, 1) := by decide +kernel
theorem dL_want_24 : decode cL_want 24 = .ok (.ireturn, 1) := by decide +kernel
set_option maxRecDepth 20000 in
theorem ggL_practise_X5_practise : GoodIn wsL_practise wsX5_practise := goodIn_ca (goodIn_ca (goodIn_r _ [7, 8, 9, 10, 11, 6, 12, 13, 14, 15, 16, 17, 18, 19, 20, 21, 22, 23, 24, 25, 26, 27, 28, 29, 30, 31, 32, 33, 34, 35, 36, 37, 38, 39, 40, 41] (by decide +kernel) (by decide +kernel)) (goodIn_sub (fun _ h => List.mem_cons_of_mem _ (List.mem_append_left _ (List.mem_append_right _ h))) (by decide +kernel))) (goodIn_sub (fun _ h => List.mem_cons_of_mem _ (List.mem_append_right _ h)) (by decide +kernel))
set_option maxRecDepth 20000 in
theorem gL_practise_X5_practise : GoodIn wsL_practise (wsV RL 87 RX5 yX5_practise wsX5_practise) := goodIn_app (goodIn_of _ (by decide +kernel)) ggL_practise_X5_practise
theorem dL_practise_0 : decode cL_practise 0 = .ok (.aload 4, 2) := by decide +kernel
theorem dL_practise_2 : decode cL_practise 2 = .ok (.iconst 0, 1) := by decide +kernel
theorem dL_practise_3 : decode cL_practise 3 = .ok (.aload_n 0, 1) := by decide +kernel
theorem dL_practise_4 : decode cL_practise 4 = .ok (.iload_n 1, 1) := by decide +kernel
theorem dL_practise_5 : decode cL_practise 5 = .ok (.iload_n 2, 1) := by decide +kernel
theorem dL_practise_6 : decode cL_practise 6 = .ok (.iload_n 3, 1) := by decide +kernel
theorem dL_practise_7 : decode cL_practise 7 = .ok (.invokevirtual 87, 3) := by decide +kernel
theorem dL_practise_10 : decode cL_practise 10 = .ok (.i2l, 1) := by decide +kernel
theorem dL_practise_11 : decode cL_practise 11 = .ok (.lastore, 1) := by decide +kernel
theorem dL_practise_12 : decode cL_practise 12 = .ok (.goto 11, 3) := by decide +kernel
theorem dL_practise_15 : decode cL_practise 15 = .ok (.astore 5, 2) := by decide +kernel
theorem dL_practise_17 : decode cL_practise 17 = .ok (.iconst 1, 1) := by decide +kernel
theorem dL_practise_18 : decode cL_practise 18 = .ok (.ireturn, 1) := by decide +kernel
theorem dL_practise_19 : decode cL_practise 19 = .ok (.astore 5, 2) := by decide +kernel
theorem dL_practise_21 : decode cL_practise 21 = .ok (.iconst 2, 1) := by decide +kernel
theorem dL_practise_22 : decode cL_practise 22 = .ok (.ireturn, 1) := by decide +kernel
theorem dL_practise_23 : decode cL_practise 23 = .ok (.iconst 0, 1) := by decide +kernel
theorem dL_practise_24 : decode cL_practise 24 = .ok (.ireturn, 1) := by decide +kernel
set_option maxRecDepth 20000 in
theorem ggL_away_X5_away : GoodIn wsL_away wsX5_away := goodIn_ca (goodIn_r _ [6, 7, 8, 9, 10, 11, 12, 5, 13, 14, 15, 16, 17, 18, 19, 20, 21, 22, 23, 24, 25, 26, 27, 28, 29, 30, 31, 32, 33, 34, 35, 36, 37, 38, 39, 40, 41, 42, 43, 44, 45, 46, 47, 48, 49, 50, 51, 52, 53, 54, 55] (by decide +kernel) (by decide +kernel)) (goodIn_sub (fun _ h => List.mem_cons_of_mem _ (List.mem_append_right _ h)) (by decide +kernel))
set_option maxRecDepth 20000 in
theorem gL_away_X5_away : GoodIn wsL_away (wsV RL 90 RX5 yX5_away wsX5_away) := goodIn_app (goodIn_of _ (by decide +kernel)) ggL_away_X5_away
theorem dL_away_0 : decode cL_away 0 = .ok (.aload_n 3, 1) := by decide +kernel
theorem dL_away_1 : decode cL_away 1 = .ok (.iconst 0, 1) := by decide +kernel
theorem dL_away_2 : decode cL_away 2 = .ok (.aload_n 0, 1) := by decide +kernel
theorem dL_away_3 : decode cL_away 3 = .ok (.iload_n 1, 1) := by decide +kernel
theorem dL_away_4 : decode cL_away 4 = .ok (.iload_n 2, 1) := by decide +kernel
theorem dL_away_5 : decode cL_away 5 = .ok (.invokevirtual 90, 3) := by decide +kernel
theorem dL_away_8 : decode cL_away 8 = .ok (.i2l, 1) := by decide +kernel
theorem dL_away_9 : decode cL_away 9 = .ok (.lastore, 1) := by decide +kernel
theorem dL_away_10 : decode cL_away 10 = .ok (.goto 7, 3) := by decide +kernel
theorem dL_away_13 : decode cL_away 13 = .ok (.astore 4, 2) := by decide +kernel
theorem dL_away_15 : decode cL_away 15 = .ok (.iconst 1, 1) := by decide +kernel
theorem dL_away_16 : decode cL_away 16 = .ok (.ireturn, 1) := by decide +kernel
theorem dL_away_17 : decode cL_away 17 = .ok (.iconst 0, 1) := by decide +kernel
theorem dL_away_18 : decode cL_away 18 = .ok (.ireturn, 1) := by decide +kernel
set_option maxRecDepth 20000 in
theorem ggL_earn_X5_earn : GoodIn wsL_earn wsX5_earn := goodIn_ca (goodIn_ca (goodIn_r _ [7, 8, 9, 10, 11, 12, 13, 14, 15, 16, 6, 17, 18, 19, 20, 21, 22, 23, 24, 25, 26, 27, 28, 29, 30, 31, 32, 33, 34, 35, 36, 37, 38, 39, 40, 41, 42, 43, 44, 45, 46, 47, 48, 49, 50, 51, 52, 53, 54, 55, 56, 57, 58, 59, 60, 61, 62, 63, 64, 65, 66] (by decide +kernel) (by decide +kernel)) (goodIn_sub (fun _ h => List.mem_cons_of_mem _ (List.mem_append_left _ (List.mem_append_right _ h))) (by decide +kernel))) (goodIn_sub (fun _ h => List.mem_cons_of_mem _ (List.mem_append_right _ h)) (by decide +kernel))
set_option maxRecDepth 20000 in
theorem gL_earn_X5_earn : GoodIn wsL_earn (wsV RL 93 RX5 yX5_earn wsX5_earn) := goodIn_app (goodIn_of _ (by decide +kernel)) ggL_earn_X5_earn
theorem dL_earn_0 : decode cL_earn 0 = .ok (.aload_n 3, 1) := by decide +kernel
theorem dL_earn_1 : decode cL_earn 1 = .ok (.iconst 0, 1) := by decide +kernel
theorem dL_earn_2 : decode cL_earn 2 = .ok (.aload_n 0, 1) := by decide +kernel
theorem dL_earn_3 : decode cL_earn 3 = .ok (.iload_n 1, 1) := by decide +kernel
theorem dL_earn_4 : decode cL_earn 4 = .ok (.iload_n 2, 1) := by decide +kernel
theorem dL_earn_5 : decode cL_earn 5 = .ok (.invokevirtual 93, 3) := by decide +kernel
theorem dL_earn_8 : decode cL_earn 8 = .ok (.i2l, 1) := by decide +kernel
theorem dL_earn_9 : decode cL_earn 9 = .ok (.lastore, 1) := by decide +kernel
theorem dL_earn_10 : decode cL_earn 10 = .ok (.goto 11, 3) := by decide +kernel
theorem dL_earn_13 : decode cL_earn 13 = .ok (.astore 4, 2) := by decide +kernel
theorem dL_earn_15 : decode cL_earn 15 = .ok (.iconst 1, 1) := by decide +kernel
theorem dL_earn_16 : decode cL_earn 16 = .ok (.ireturn, 1) := by decide +kernel
theorem dL_earn_17 : decode cL_earn 17 = .ok (.astore 4, 2) := by decide +kernel
theorem dL_earn_19 : decode cL_earn 19 = .ok (.iconst 2, 1) := by decide +kernel
theorem dL_earn_20 : decode cL_earn 20 = .ok (.ireturn, 1) := by decide +kernel
theorem dL_earn_21 : decode cL_earn 21 = .ok (.iconst 0, 1) := by decide +kernel
theorem dL_earn_22 : decode cL_earn 22 = .ok (.ireturn, 1) := by decide +kernel
set_option maxRecDepth 20000 in
theorem ggL_hike_X5_hike : GoodIn wsL_hike wsX5_hike := goodIn_ca (goodIn_ca (goodIn_r _ [7, 8, 9, 10, 11, 12, 13, 14, 15, 16, 17, 18, 19, 20, 21, 6, 22, 23, 24, 25, 26, 27, 28, 29, 30, 31, 32, 33, 34, 35, 36, 37, 38, 39, 40, 41, 42, 43, 44, 45, 46, 47, 48, 49, 50, 51, 52, 53, 54, 55, 56, 57, 58] (by decide +kernel) (by decide +kernel)) (goodIn_sub (fun _ h => List.mem_cons_of_mem _ (List.mem_append_left _ (List.mem_append_right _ h))) (by decide +kernel))) (goodIn_sub (fun _ h => List.mem_cons_of_mem _ (List.mem_append_right _ h)) (by decide +kernel))
set_option maxRecDepth 20000 in
theorem gL_hike_X5_hike : GoodIn wsL_hike (wsV RL 96 RX5 yX5_hike wsX5_hike) := goodIn_app (goodIn_of _ (by decide +kernel)) ggL_hike_X5_hike
theorem dL_hike_0 : decode cL_hike 0 = .ok (.aload 5, 2) := by decide +kernel
theorem dL_hike_2 : decode cL_hike 2 = .ok (.iconst 0, 1) := by decide +kernel
theorem dL_hike_3 : decode cL_hike 3 = .ok (.aload_n 0, 1) := by decide +kernel
theorem dL_hike_4 : decode cL_hike 4 = .ok (.lload_n 1, 1) := by decide +kernel
theorem dL_hike_5 : decode cL_hike 5 = .ok (.iload_n 3, 1) := by decide +kernel
theorem dL_hike_6 : decode cL_hike 6 = .ok (.iload 4, 2) := by decide +kernel
theorem dL_hike_8 : decode cL_hike 8 = .ok (.invokevirtual 96, 3) := by decide +kernel
theorem dL_hike_11 : decode cL_hike 11 = .ok (.i2l, 1) := by decide +kernel
theorem dL_hike_12 : decode cL_hike 12 = .ok (.lastore, 1) := by decide +kernel
theorem dL_hike_13 : decode cL_hike 13 = .ok (.goto 11, 3) := by decide +kernel
theorem dL_hike_16 : decode cL_hike 16 = .ok (.astore 6, 2) := by decide +kernel
theorem dL_hike_18 : decode cL_hike 18 = .ok (.iconst 1, 1) := by decide +kernel
theorem dL_hike_19 : decode cL_hike 19 = .ok (.ireturn, 1) := by decide +kernel
theorem dL_hike_20 : decode cL_hike 20 = .ok (.astore 6, 2) := by decide +kernel
theorem dL_hike_22 : decode cL_hike 22 = .ok (.iconst 2, 1) := by decide +kernel
theorem dL_hike_23 : decode cL_hike 23 = .ok (.ireturn, 1) := by decide +kernel
theorem dL_hike_24 : decode cL_hike 24 = .ok (.iconst 0, 1) := by decide +kernel
theorem dL_hike_25 : decode cL_hike 25 = .ok (.ireturn, 1) := by decide +kernel
set_option maxRecDepth 20000 in
theorem ggL_end_X5_end : GoodIn wsL_end wsX5_end := goodIn_ca (goodIn_r _ [6, 7, 8, 9, 10, 11, 12, 13, 14, 15, 16, 17, 18, 19, 20, 21, 22, 23, 24, 25, 26, 27, 28, 29] (by decide +kernel) (by decide +kernel)) (goodIn_sub (fun _ h => List.mem_cons_of_mem _ (List.mem_append_right _ h)) (by decide +kernel))
set_option maxRecDepth 20000 in
theorem gL_end_X5_end : GoodIn wsL_end (wsV RL 100 RX5 yX5_end wsX5_end) := goodIn_app (goodIn_of _ (by decide +kernel)) ggL_end_X5_end
theorem dL_end_0 : decode cL_end 0 = .ok (.aload_n 1, 1) := by decide +kernel
theorem dL_end_1 : decode cL_end 1 = .ok (.iconst 0, 1) := by decide +kernel
theorem dL_end_2 : decode cL_end 2 = .ok (.aload_n 0, 1) := by decide +kernel
theorem dL_end_3 : decode cL_end 3 = .ok (.invokevirtual 100, 3) := by decide +kernel
theorem dL_end_6 : decode cL_end 6 = .ok (.i2l, 1) := by decide +kernel
theorem dL_end_7 : decode cL_end 7 = .ok (.lastore, 1) := by decide +kernel
theorem dL_end_8 : decode cL_end 8 = .ok (.goto 6, 3) := by decide +kernel
theorem dL_end_11 : decode cL_end 11 = .ok (.astore_n 2, 1) := by decide +kernel
theorem dL_end_12 : decode cL_end 12 = .ok (.iconst 1, 1) := by decide +kernel
theorem dL_end_13 : decode cL_end 13 = .ok (.ireturn, 1) := by decide +kernel
theorem dL_end_14 : decode cL_end 14 = .ok (.iconst 0, 1) := by decide +kernel
theorem dL_end_15 : decode cL_end 15 = .ok (.ireturn, 1) := by decide +kernel
set_option maxRecDepth 20000 in
theorem ggL_law_X5_init : GoodIn wsL_law wsX5_init := goodIn_r _ [10, 11, 12, 13, 14, 15, 16, 17, 18, 19, 20, 21, 22, 23, 24, 25, 26, 27, 28, 29, 30, 31, 32, 33, 34, 35, 36, 37, 38, 39, 40, 41, 42, 43, 44, 45, 46, 47, 48, 6, 49, 50, 51, 52, 53, 54, 55, 56, 57, 58, 59, 60, 61, 62, 63, 64, 65, 66, 67, 68, 69, 837, 838, 839, 840, 841, 842, 843, 844, 808, 809, 810, 811, 812, 813, 845, 846, 847, 848, 849, 850, 851, 852, 853, 854, 855, 856, 857, 858] (by decide +kernel) (by decide +kernel)
set_option maxRecDepth 20000 in
theorem gL_law_X5_init : GoodIn wsL_law (wsX5_init) := ggL_law_X5_init
set_option maxRecDepth 20000 in
theorem ggL_law_X6_init : GoodIn wsL_law wsX6_init := goodIn_r _ [72, 73, 12, 13, 38, 74, 75, 76, 77, 78, 79, 80, 81, 82, 83, 84, 85, 86, 87, 88, 814, 815, 816, 817, 818, 819, 820, 821, 822, 823, 824, 825, 826, 827, 828, 829, 830, 831, 832, 833, 834, 835, 836] (by decide +kernel) (by decide +kernel)
end
section
set_option maxRecDepth 20000 in
theorem gL_law_X6_init : GoodIn wsL_law (wsX6_init) := ggL_law_X6_init
set_option maxRecDepth 20000 in
theorem ggL_law_L_addPatrol : GoodIn wsL_law wsL_addPatrol := goodIn_ca (goodIn_r _ [92, 93, 94, 95, 96, 2, 97, 98, 99, 17, 100, 808, 809, 810, 811, 812, 813, 837, 838, 839, 840, 841, 842, 843, 844] (by decide +kernel) (by decide +kernel)) (goodIn_sub (fun _ h => List.mem_append_left _ (List.mem_append_left _ (List.mem_append_right _ h))) (by decide +kernel))
set_option maxRecDepth 20000 in
theorem gL_law_L_addPatrol : GoodIn wsL_law (va_wsS RL 107 yL_addPatrol wsL_addPatrol) := goodIn_app (goodIn_of _ (by decide +kernel)) ggL_law_L_addPatrol
set_option maxRecDepth 20000 in
theorem ggL_law_X6_addPatrol : GoodIn wsL_law wsX6_addPatrol := goodIn_r _ [104, 105, 106, 107, 108, 109, 5, 110, 814, 815, 816, 817, 818, 819, 820, 821, 822, 823, 824, 825, 826, 827, 828, 829, 830, 831, 832, 833, 834, 835, 836] (by decide +kernel) (by decide +kernel)
set_option maxRecDepth 20000 in
theorem gL_law_X6_addPatrol : GoodIn wsL_law (wsV RL 112 RX6 yX6_addPatrol wsX6_addPatrol) := goodIn_app (goodIn_of _ (by decide +kernel)) ggL_law_X6_addPatrol
set_option maxRecDepth 20000 in
theorem ggL_law_X6_thrown : GoodIn wsL_law wsX6_thrown := goodIn_r _ [114, 105, 814, 815, 816, 817, 818, 819, 820, 821, 822, 823, 824, 825, 826, 827, 828, 829, 830, 831, 832, 833, 834, 835, 836] (by decide +kernel) (by decide +kernel)
set_option maxRecDepth 20000 in
theorem gL_law_X6_thrown : GoodIn wsL_law (wsV RL 113 RX6 yX6_thrown wsX6_thrown) := goodIn_app (goodIn_of _ (by decide +kernel)) ggL_law_X6_thrown
set_option maxRecDepth 20000 in
theorem ggL_law_L_addScout : GoodIn wsL_law wsL_addScout := goodIn_ca (goodIn_ca (goodIn_ca (goodIn_r _ [117, 118, 119, 93, 120, 121, 122, 2, 123, 98, 99, 17, 100, 124, 125, 126, 127, 128, 129, 130, 131, 132, 133, 134, 135, 136, 137, 16, 138, 139, 39, 40, 41, 808, 809, 810, 811, 812, 813, 837, 838, 839, 840, 841, 842, 843, 844] (by decide +kernel) (by decide +kernel)) (goodIn_sub (fun _ h => List.mem_append_left _ (List.mem_append_left _ (List.mem_append_right _ h))) (by decide +kernel))) (goodIn_sub (fun _ h => List.mem_append_left _ (List.mem_append_right _ h)) (by decide +kernel))) (goodIn_sub (fun _ h => List.mem_append_right _ h) (by decide +kernel))
set_option maxRecDepth 20000 in
theorem gL_law_L_addScout : GoodIn wsL_law (va_wsS RL 116 yL_addScout wsL_addScout) := goodIn_app (goodIn_of _ (by decide +kernel)) ggL_law_L_addScout
set_option maxRecDepth 20000 in
theorem ggL_law_X6_addScout : GoodIn wsL_law wsX6_addScout := goodIn_r _ [143, 105, 144, 74, 75, 76, 78, 145, 146, 147, 5, 148, 106, 149, 150, 151, 107, 108, 109, 110, 814, 815, 816, 817, 818, 819, 820, 821, 822, 823, 824, 825, 826, 827, 828, 829, 830, 831, 832, 833, 834, 835, 836] (by decide +kernel) (by decide +kernel)
set_option maxRecDepth 20000 in
theorem gL_law_X6_addScout : GoodIn wsL_law (wsV RL 119 RX6 yX6_addScout wsX6_addScout) := goodIn_app (goodIn_of _ (by decide +kernel)) ggL_law_X6_addScout
set_option maxRecDepth 20000 in
theorem ggL_law_L_scout : GoodIn wsL_law wsL_scout := goodIn_ca (goodIn_r _ [154, 118, 155, 156, 157, 2, 158, 17, 124, 125, 126, 127, 128, 129, 159, 160, 161, 162, 163, 164, 165, 166, 21, 167, 168, 169, 170, 20, 171, 172, 49, 173, 174, 175, 16, 176, 177, 178, 179, 180, 44, 808, 809, 810, 811, 812, 813, 837, 838, 839, 840, 841, 842, 843, 844, 845, 846, 847] (by decide +kernel) (by decide +kernel)) (goodIn_sub (fun _ h => List.mem_append_left _ (List.mem_append_right _ h)) (by decide +kernel))
set_option maxRecDepth 20000 in
theorem gL_law_L_scout : GoodIn wsL_law (va_wsS RL 120 yL_scout wsL_scout) := goodIn_app (goodIn_of _ (by decide +kernel)) ggL_law_L_scout
set_option maxRecDepth 20000 in
theorem ggL_law_X6_scout : GoodIn wsL_law wsX6_scout := goodIn_r _ [184, 105, 185, 186, 187, 5, 188, 144, 149, 150, 151, 189, 190, 191, 192, 38, 74, 75, 76, 77, 78, 79, 193, 194, 195, 196, 80, 107, 108, 109, 110, 814, 815, 816, 817, 818, 819, 820, 821, 822, 823, 824, 825, 826, 827, 828, 829, 830, 831, 832, 833, 834, 835, 836] (by decide +kernel) (by decide +kernel)
set_option maxRecDepth 20000 in
theorem gL_law_X6_scout : GoodIn wsL_law (wsV RL 123 RX6 yX6_scout wsX6_scout) := goodIn_app (goodIn_of _ (by decide +kernel)) ggL_law_X6_scout
set_option maxRecDepth 20000 in
theorem ggL_law_L_addTent : GoodIn wsL_law wsL_addTent := goodIn_ca (goodIn_ca (goodIn_r _ [199, 119, 93, 200, 201, 202, 2, 203, 98, 99, 21, 204, 130, 131, 132, 133, 134, 205, 206, 207, 20, 208, 172, 48, 808, 809, 810, 811, 812, 813, 845, 846, 847] (by decide +kernel) (by decide +kernel)) (goodIn_sub (fun _ h => List.mem_append_left _ (List.mem_append_left _ (List.mem_append_right _ h))) (by decide +kernel))) (goodIn_sub (fun _ h => List.mem_append_right _ h) (by decide +kernel))
set_option maxRecDepth 20000 in
theorem gL_law_L_addTent : GoodIn wsL_law (va_wsS RL 124 yL_addTent wsL_addTent) := goodIn_app (goodIn_of _ (by decide +kernel)) ggL_law_L_addTent
set_option maxRecDepth 20000 in
theorem ggL_law_X6_addTent : GoodIn wsL_law wsX6_addTent := goodIn_r _ [212, 105, 213, 83, 149, 150, 5, 151, 107, 108, 109, 110, 814, 815, 816, 817, 818, 819, 820, 821, 822, 823, 824, 825, 826, 827, 828, 829, 830, 831, 832, 833, 834, 835, 836] (by decide +kernel) (by decide +kernel)
set_option maxRecDepth 20000 in
theorem gL_law_X6_addTent : GoodIn wsL_law (wsV RL 127 RX6 yX6_addTent wsX6_addTent) := goodIn_app (goodIn_of _ (by decide +kernel)) ggL_law_X6_addTent
set_option maxRecDepth 20000 in
theorem ggL_law_L_sleep : GoodIn wsL_law wsL_sleep := goodIn_ca (goodIn_ca (goodIn_r _ [216, 118, 93, 217, 218, 219, 2, 220, 98, 99, 17, 124, 21, 204, 125, 126, 127, 128, 129, 221, 222, 223, 168, 169, 170, 20, 171, 172, 49, 224, 225, 226, 227, 48, 228, 229, 230, 231, 232, 233, 234, 235, 236, 237, 238, 239, 240, 241, 242, 243, 244, 245, 246, 247, 248, 249, 250, 251, 252, 253, 808, 809, 810, 811, 812, 813, 837, 838, 839, 840, 841, 842, 843, 844, 845, 846, 847] (by decide +kernel) (by decide +kernel)) (goodIn_sub (fun _ h => List.mem_append_left _ (List.mem_append_left _ (List.mem_append_right _ h))) (by decide +kernel))) (goodIn_sub (fun _ h => List.mem_append_left _ (List.mem_append_right _ h)) (by decide +kernel))
set_option maxRecDepth 20000 in
theorem gL_law_L_sleep : GoodIn wsL_law (va_wsS RL 128 yL_sleep wsL_sleep) := goodIn_app (goodIn_of _ (by decide +kernel)) ggL_law_L_sleep
set_option maxRecDepth 20000 in
theorem ggL_law_X6_sleep : GoodIn wsL_law wsX6_sleep := goodIn_r _ [257, 105, 78, 185, 186, 187, 5, 188, 144, 149, 150, 151, 258, 259, 260, 261, 213, 107, 108, 109, 110, 262, 263, 264, 265, 83, 75, 266, 242, 243, 244, 267, 268, 269, 270, 74, 814, 815, 816, 817, 818, 819, 820, 821, 822, 823, 824, 825, 826, 827, 828, 829, 830, 831, 832, 833, 834, 835, 836] (by decide +kernel) (by decide +kernel)
set_option maxRecDepth 20000 in
theorem gL_law_X6_sleep : GoodIn wsL_law (wsV RL 130 RX6 yX6_sleep wsX6_sleep) := goodIn_app (goodIn_of _ (by decide +kernel)) ggL_law_X6_sleep
set_option maxRecDepth 20000 in
theorem ggL_law_L_inTent : GoodIn wsL_law wsL_inTent := goodIn_ca (goodIn_r _ [273, 118, 274, 275, 276, 2, 277, 21, 204, 278, 125, 126, 127, 128, 129, 808, 809, 810, 811, 812, 813, 845, 846, 847] (by decide +kernel) (by decide +kernel)) (goodIn_sub (fun _ h => List.mem_append_left _ (List.mem_append_right _ h)) (by decide +kernel))
set_option maxRecDepth 20000 in
theorem gL_law_L_inTent : GoodIn wsL_law (va_wsS RL 131 yL_inTent wsL_inTent) := goodIn_app (goodIn_of _ (by decide +kernel)) ggL_law_L_inTent
set_option maxRecDepth 20000 in
theorem ggL_law_X6_inTent : GoodIn wsL_law wsX6_inTent := goodIn_r _ [282, 105, 258, 259, 260, 5, 261, 213, 149, 150, 151, 283, 284, 285, 286, 144, 78, 814, 815, 816, 817, 818, 819, 820, 821, 822, 823, 824, 825, 826, 827, 828, 829, 830, 831, 832, 833, 834, 835, 836] (by decide +kernel) (by decide +kernel)
set_option maxRecDepth 20000 in
theorem gL_law_X6_inTent : GoodIn wsL_law (wsV RL 133 RX6 yX6_inTent wsX6_inTent) := goodIn_app (goodIn_of _ (by decide +kernel)) ggL_law_X6_inTent
set_option maxRecDepth 20000 in
theorem ggL_law_X5_findTents : GoodIn wsL_law wsX5_findTents := goodIn_r _ [290, 17, 124, 164, 21, 168, 169, 170, 20, 171, 172, 49, 291, 292, 293, 294, 295, 296, 297, 298, 16, 299, 139, 39, 300, 301, 302, 303, 228, 229, 230, 231, 232, 233, 234, 304, 225, 226, 227, 48, 235, 236, 237, 238, 239, 240, 241, 242, 243, 244, 250, 251, 252, 253, 305, 306, 307, 2, 308, 309, 310, 311, 312, 808, 809, 810, 811, 812, 813, 837, 838, 839, 840, 841, 842, 843, 844, 845, 846, 847] (by decide +kernel) (by decide +kernel)
set_option maxRecDepth 20000 in
theorem gL_law_X5_findTents : GoodIn wsL_law (wsV RL 134 RX5 yX5_findTents wsX5_findTents) := goodIn_app (goodIn_of _ (by decide +kernel)) ggL_law_X5_findTents
set_option maxRecDepth 20000 in
theorem ggL_law_X6_findTents : GoodIn wsL_law wsX6_findTents := goodIn_r _ [316, 105, 144, 75, 78, 317, 318, 319, 5, 320, 213, 74, 262, 263, 264, 265, 83, 266, 242, 243, 244, 267, 268, 269, 270, 814, 815, 816, 817, 818, 819, 820, 821, 822, 823, 824, 825, 826, 827, 828, 829, 830, 831, 832, 833, 834, 835, 836] (by decide +kernel) (by decide +kernel)
set_option maxRecDepth 20000 in
theorem gL_law_X6_findTents : GoodIn wsL_law (wsV RL 137 RX6 yX6_findTents wsX6_findTents) := goodIn_app (goodIn_of _ (by decide +kernel)) ggL_law_X6_findTents
set_option maxRecDepth 20000 in
theorem ggL_law_L_count : GoodIn wsL_law wsL_count := goodIn_ca (goodIn_r _ [323, 118, 324, 325, 326, 2, 327, 125, 126, 127, 128, 129, 328, 329, 330, 331, 17, 100, 124, 21, 204, 29, 332, 333, 33, 334, 305, 306, 307, 308, 309, 310, 311, 20, 312, 172, 49, 228, 229, 230, 231, 232, 233, 234, 808, 809, 810, 811, 812, 813, 837, 838, 839, 840, 841, 842, 843, 844, 845, 846, 847, 850, 851, 852, 853, 854, 855, 856, 857, 858] (by decide +kernel) (by decide +kernel)) (goodIn_sub (fun _ h => List.mem_append_left _ (List.mem_append_right _ h)) (by decide +kernel))
set_option maxRecDepth 20000 in
theorem gL_law_L_count : GoodIn wsL_law (va_wsS RL 138 yL_count wsL_count) := goodIn_app (goodIn_of _ (by decide +kernel)) ggL_law_L_count
set_option maxRecDepth 20000 in
theorem ggL_law_X6_count : GoodIn wsL_law wsX6_count := goodIn_r _ [338, 105, 149, 150, 5, 151, 339, 340, 341, 342, 38, 106, 144, 213, 343, 344, 345, 267, 268, 269, 270, 78, 74, 107, 108, 109, 110, 814, 815, 816, 817, 818, 819, 820, 821, 822, 823, 824, 825, 826, 827, 828, 829, 830, 831, 832, 833, 834, 835, 836] (by decide +kernel) (by decide +kernel)
set_option maxRecDepth 20000 in
theorem gL_law_X6_count : GoodIn wsL_law (wsV RL 140 RX6 yX6_count wsX6_count) := goodIn_app (goodIn_of _ (by decide +kernel)) ggL_law_X6_count
set_option maxRecDepth 20000 in
theorem ggL_law_L_giveDuty : GoodIn wsL_law wsL_giveDuty := goodIn_ca (goodIn_ca (goodIn_ca (goodIn_r _ [348, 118, 119, 93, 349, 350, 351, 2, 352, 98, 99, 17, 100, 34, 25, 125, 126, 127, 128, 129, 221, 222, 223, 130, 131, 132, 133, 134, 353, 354, 355, 24, 356, 357, 358, 359, 360, 361, 297, 298, 16, 299, 139, 39, 362, 363, 364, 365, 40, 366, 367, 368, 369, 370, 371, 372, 373, 54, 374, 375, 376, 377, 378, 55, 379, 808, 809, 810, 811, 812, 813, 837, 838, 839, 840, 841, 842, 843, 844, 848, 849] (by decide +kernel) (by decide +kernel)) (goodIn_sub (fun _ h => List.mem_append_left _ (List.mem_append_left _ (List.mem_append_right _ h))) (by decide +kernel))) (goodIn_sub (fun _ h => List.mem_append_left _ (List.mem_append_right _ h)) (by decide +kernel))) (goodIn_sub (fun _ h => List.mem_append_right _ h) (by decide +kernel))
set_option maxRecDepth 20000 in
theorem gL_law_L_giveDuty : GoodIn wsL_law (va_wsS RL 141 yL_giveDuty wsL_giveDuty) := goodIn_app (goodIn_of _ (by decide +kernel)) ggL_law_L_giveDuty
set_option maxRecDepth 20000 in
theorem ggL_law_X6_giveDuty : GoodIn wsL_law wsX6_giveDuty := goodIn_r _ [383, 105, 384, 84, 149, 150, 5, 151, 145, 146, 147, 148, 106, 107, 108, 109, 110, 385, 386, 387, 388, 389, 390, 391, 392, 144, 74, 75, 393, 394, 395, 396, 814, 815, 816, 817, 818, 819, 820, 821, 822, 823, 824, 825, 826, 827, 828, 829, 830, 831, 832, 833, 834, 835, 836] (by decide +kernel) (by decide +kernel)
set_option maxRecDepth 20000 in
theorem gL_law_X6_giveDuty : GoodIn wsL_law (wsV RL 143 RX6 yX6_giveDuty wsX6_giveDuty) := goodIn_app (goodIn_of _ (by decide +kernel)) ggL_law_X6_giveDuty
set_option maxRecDepth 20000 in
theorem ggL_law_L_duty : GoodIn wsL_law wsL_duty := goodIn_ca (goodIn_r _ [399, 118, 400, 401, 402, 2, 403, 25, 125, 126, 127, 128, 129, 374, 371, 372, 24, 373, 54, 808, 809, 810, 811, 812, 813, 848, 849] (by decide +kernel) (by decide +kernel)) (goodIn_sub (fun _ h => List.mem_append_left _ (List.mem_append_right _ h)) (by decide +kernel))
set_option maxRecDepth 20000 in
theorem gL_law_L_duty : GoodIn wsL_law (va_wsS RL 144 yL_duty wsL_duty) := goodIn_app (goodIn_of _ (by decide +kernel)) ggL_law_L_duty
set_option maxRecDepth 20000 in
theorem ggL_law_X6_duty : GoodIn wsL_law wsX6_duty := goodIn_r _ [407, 105, 149, 150, 5, 151, 393, 394, 395, 396, 84, 107, 108, 109, 110, 814, 815, 816, 817, 818, 819, 820, 821, 822, 823, 824, 825, 826, 827, 828, 829, 830, 831, 832, 833, 834, 835, 836] (by decide +kernel) (by decide +kernel)
set_option maxRecDepth 20000 in
theorem gL_law_X6_duty : GoodIn wsL_law (wsV RL 146 RX6 yX6_duty wsX6_duty) := goodIn_app (goodIn_of _ (by decide +kernel)) ggL_law_X6_duty
set_option maxRecDepth 20000 in
theorem ggL_law_L_points : GoodIn wsL_law wsL_points := goodIn_ca (goodIn_r _ [410, 118, 411, 412, 413, 2, 414, 17, 100, 25, 415, 125, 126, 127, 128, 129, 808, 809, 810, 811, 812, 813, 837, 838, 839, 840, 841, 842, 843, 844, 848, 849] (by decide +kernel) (by decide +kernel)) (goodIn_sub (fun _ h => List.mem_append_left _ (List.mem_append_right _ h)) (by decide +kernel))
set_option maxRecDepth 20000 in
theorem gL_law_L_points : GoodIn wsL_law (va_wsS RL 147 yL_points wsL_points) := goodIn_app (goodIn_of _ (by decide +kernel)) ggL_law_L_points
set_option maxRecDepth 20000 in
theorem ggL_law_X6_points : GoodIn wsL_law wsX6_points := goodIn_r _ [419, 105, 145, 146, 147, 5, 148, 106, 149, 150, 151, 420, 421, 422, 423, 38, 84, 107, 108, 109, 110, 814, 815, 816, 817, 818, 819, 820, 821, 822, 823, 824, 825, 826, 827, 828, 829, 830, 831, 832, 833, 834, 835, 836] (by decide +kernel) (by decide +kernel)
set_option maxRecDepth 20000 in
theorem gL_law_X6_points : GoodIn wsL_law (wsV RL 149 RX6 yX6_points wsX6_points) := goodIn_app (goodIn_of _ (by decide +kernel)) ggL_law_X6_points
set_option maxRecDepth 20000 in
theorem ggL_law_X5_findDuties : GoodIn wsL_law wsX5_findDuties := goodIn_r _ [427, 25, 34, 17, 374, 371, 372, 24, 373, 54, 428, 429, 430, 431, 432, 55, 433, 354, 355, 356, 357, 358, 359, 360, 361, 297, 298, 16, 299, 139, 39, 362, 363, 364, 365, 40, 366, 367, 368, 369, 370, 375, 376, 377, 378, 379, 434, 435, 436, 437, 808, 809, 810, 811, 812, 813, 848, 849, 837, 838, 839, 840, 841, 842, 843, 844] (by decide +kernel) (by decide +kernel)
set_option maxRecDepth 20000 in
theorem gL_law_X5_findDuties : GoodIn wsL_law (wsV RL 150 RX5 yX5_findDuties wsX5_findDuties) := goodIn_app (goodIn_of _ (by decide +kernel)) ggL_law_X5_findDuties
set_option maxRecDepth 20000 in
theorem ggL_law_X6_findDuties : GoodIn wsL_law wsX6_findDuties := goodIn_r _ [441, 105, 38, 384, 106, 84, 393, 394, 395, 5, 396, 149, 150, 151, 385, 386, 387, 388, 389, 390, 391, 392, 144, 74, 75, 420, 421, 422, 423, 814, 815, 816, 817, 818, 819, 820, 821, 822, 823, 824, 825, 826, 827, 828, 829, 830, 831, 832, 833, 834, 835, 836] (by decide +kernel) (by decide +kernel)
set_option maxRecDepth 20000 in
theorem gL_law_X6_findDuties : GoodIn wsL_law (wsV RL 153 RX6 yX6_findDuties wsX6_findDuties) := goodIn_app (goodIn_of _ (by decide +kernel)) ggL_law_X6_findDuties
set_option maxRecDepth 20000 in
theorem ggL_law_L_addFood : GoodIn wsL_law wsL_addFood := goodIn_ca (goodIn_ca (goodIn_r _ [444, 119, 93, 445, 446, 447, 2, 448, 98, 99, 29, 332, 449, 130, 131, 132, 133, 134, 808, 809, 810, 811, 812, 813, 850, 851, 852, 853, 854, 855] (by decide +kernel) (by decide +kernel)) (goodIn_sub (fun _ h => List.mem_append_left _ (List.mem_append_left _ (List.mem_append_right _ h))) (by decide +kernel))) (goodIn_sub (fun _ h => List.mem_append_right _ h) (by decide +kernel))
set_option maxRecDepth 20000 in
theorem gL_law_L_addFood : GoodIn wsL_law (va_wsS RL 154 yL_addFood wsL_addFood) := goodIn_app (goodIn_of _ (by decide +kernel)) ggL_law_L_addFood
set_option maxRecDepth 20000 in
theorem ggL_law_X6_addFood : GoodIn wsL_law wsX6_addFood := goodIn_r _ [453, 105, 343, 85, 149, 150, 5, 151, 107, 108, 109, 110, 814, 815, 816, 817, 818, 819, 820, 821, 822, 823, 824, 825, 826, 827, 828, 829, 830, 831, 832, 833, 834, 835, 836] (by decide +kernel) (by decide +kernel)
set_option maxRecDepth 20000 in
theorem gL_law_X6_addFood : GoodIn wsL_law (wsV RL 156 RX6 yX6_addFood wsX6_addFood) := goodIn_app (goodIn_of _ (by decide +kernel)) ggL_law_X6_addFood
set_option maxRecDepth 20000 in
theorem ggL_law_L_buy : GoodIn wsL_law wsL_buy := goodIn_ca (goodIn_ca (goodIn_ca (goodIn_r _ [456, 118, 119, 93, 457, 458, 459, 2, 460, 98, 99, 29, 332, 449, 125, 126, 127, 128, 129, 130, 131, 132, 133, 134, 808, 809, 810, 811, 812, 813, 850, 851, 852, 853, 854, 855] (by decide +kernel) (by decide +kernel)) (goodIn_sub (fun _ h => List.mem_append_left _ (List.mem_append_left _ (List.mem_append_right _ h))) (by decide +kernel))) (goodIn_sub (fun _ h => List.mem_append_left _ (List.mem_append_right _ h)) (by decide +kernel))) (goodIn_sub (fun _ h => List.mem_append_right _ h) (by decide +kernel))
set_option maxRecDepth 20000 in
theorem gL_law_L_buy : GoodIn wsL_law (va_wsS RL 157 yL_buy wsL_buy) := goodIn_app (goodIn_of _ (by decide +kernel)) ggL_law_L_buy
set_option maxRecDepth 20000 in
theorem ggL_law_X6_buy : GoodIn wsL_law wsX6_buy := goodIn_r _ [464, 105, 85, 465, 466, 467, 5, 468, 343, 149, 150, 151, 107, 108, 109, 110, 814, 815, 816, 817, 818, 819, 820, 821, 822, 823, 824, 825, 826, 827, 828, 829, 830, 831, 832, 833, 834, 835, 836] (by decide +kernel) (by decide +kernel)
set_option maxRecDepth 20000 in
theorem gL_law_X6_buy : GoodIn wsL_law (wsV RL 159 RX6 yX6_buy wsX6_buy) := goodIn_app (goodIn_of _ (by decide +kernel)) ggL_law_X6_buy
set_option maxRecDepth 20000 in
theorem ggL_law_L_store : GoodIn wsL_law wsL_store := goodIn_ca (goodIn_r _ [471, 118, 472, 473, 474, 2, 475, 29, 332, 449, 125, 126, 127, 128, 129, 808, 809, 810, 811, 812, 813, 850, 851, 852, 853, 854, 855] (by decide +kernel) (by decide +kernel)) (goodIn_sub (fun _ h => List.mem_append_left _ (List.mem_append_right _ h)) (by decide +kernel))
set_option maxRecDepth 20000 in
theorem gL_law_L_store : GoodIn wsL_law (va_wsS RL 160 yL_store wsL_store) := goodIn_app (goodIn_of _ (by decide +kernel)) ggL_law_L_store
set_option maxRecDepth 20000 in
theorem ggL_law_X6_store : GoodIn wsL_law wsX6_store := goodIn_r _ [479, 105, 85, 465, 466, 467, 5, 468, 343, 149, 150, 151, 107, 108, 109, 110, 814, 815, 816, 817, 818, 819, 820, 821, 822, 823, 824, 825, 826, 827, 828, 829, 830, 831, 832, 833, 834, 835, 836] (by decide +kernel) (by decide +kernel)
set_option maxRecDepth 20000 in
theorem gL_law_X6_store : GoodIn wsL_law (wsV RL 162 RX6 yX6_store wsX6_store) := goodIn_app (goodIn_of _ (by decide +kernel)) ggL_law_X6_store
set_option maxRecDepth 20000 in
theorem ggL_law_L_diet : GoodIn wsL_law wsL_diet := goodIn_ca (goodIn_r _ [482, 118, 483, 484, 485, 2, 486, 17, 124, 29, 332, 166, 125, 126, 127, 128, 129, 808, 809, 810, 811, 812, 813, 837, 838, 839, 840, 841, 842, 843, 844, 850, 851, 852, 853, 854, 855] (by decide +kernel) (by decide +kernel)) (goodIn_sub (fun _ h => List.mem_append_left _ (List.mem_append_right _ h)) (by decide +kernel))
set_option maxRecDepth 20000 in
theorem gL_law_L_diet : GoodIn wsL_law (va_wsS RL 163 yL_diet wsL_diet) := goodIn_app (goodIn_of _ (by decide +kernel)) ggL_law_L_diet
set_option maxRecDepth 20000 in
theorem ggL_law_X6_diet : GoodIn wsL_law wsX6_diet := goodIn_r _ [490, 105, 77, 185, 186, 187, 5, 188, 144, 149, 150, 151, 465, 466, 467, 468, 343, 814, 815, 816, 817, 818, 819, 820, 821, 822, 823, 824, 825, 826, 827, 828, 829, 830, 831, 832, 833, 834, 835, 836] (by decide +kernel) (by decide +kernel)
set_option maxRecDepth 20000 in
theorem gL_law_X6_diet : GoodIn wsL_law (wsV RL 166 RX6 yX6_diet wsX6_diet) := goodIn_app (goodIn_of _ (by decide +kernel)) ggL_law_X6_diet
set_option maxRecDepth 20000 in
theorem ggL_law_L_addMeal : GoodIn wsL_law wsL_addMeal := goodIn_ca (goodIn_r _ [493, 93, 494, 495, 496, 2, 497, 98, 99, 29, 333, 808, 809, 810, 811, 812, 813, 850, 851, 852, 853, 854, 855] (by decide +kernel) (by decide +kernel)) (goodIn_sub (fun _ h => List.mem_append_left _ (List.mem_append_left _ (List.mem_append_right _ h))) (by decide +kernel))
set_option maxRecDepth 20000 in
theorem gL_law_L_addMeal : GoodIn wsL_law (va_wsS RL 167 yL_addMeal wsL_addMeal) := goodIn_app (goodIn_of _ (by decide +kernel)) ggL_law_L_addMeal
set_option maxRecDepth 20000 in
theorem ggL_law_X6_addMeal : GoodIn wsL_law wsX6_addMeal := goodIn_r _ [501, 105, 344, 107, 108, 109, 5, 110, 814, 815, 816, 817, 818, 819, 820, 821, 822, 823, 824, 825, 826, 827, 828, 829, 830, 831, 832, 833, 834, 835, 836] (by decide +kernel) (by decide +kernel)
set_option maxRecDepth 20000 in
theorem gL_law_X6_addMeal : GoodIn wsL_law (wsV RL 169 RX6 yX6_addMeal wsX6_addMeal) := goodIn_app (goodIn_of _ (by decide +kernel)) ggL_law_X6_addMeal
set_option maxRecDepth 20000 in
theorem ggL_law_L_need : GoodIn wsL_law wsL_need := goodIn_ca (goodIn_ca (goodIn_r _ [504, 118, 119, 505, 506, 507, 2, 508, 29, 333, 332, 509, 125, 126, 127, 128, 129, 130, 131, 132, 133, 134, 510, 511, 512, 28, 513, 64, 808, 809, 810, 811, 812, 813, 850, 851, 852, 853, 854, 855] (by decide +kernel) (by decide +kernel)) (goodIn_sub (fun _ h => List.mem_append_left _ (List.mem_append_right _ h)) (by decide +kernel))) (goodIn_sub (fun _ h => List.mem_append_right _ h) (by decide +kernel))
set_option maxRecDepth 20000 in
theorem gL_law_L_need : GoodIn wsL_law (va_wsS RL 170 yL_need wsL_need) := goodIn_app (goodIn_of _ (by decide +kernel)) ggL_law_L_need
set_option maxRecDepth 20000 in
theorem ggL_law_X6_need : GoodIn wsL_law wsX6_need := goodIn_r _ [517, 105, 86, 518, 519, 520, 5, 521, 344, 149, 150, 151, 465, 466, 467, 468, 343, 107, 108, 109, 110, 814, 815, 816, 817, 818, 819, 820, 821, 822, 823, 824, 825, 826, 827, 828, 829, 830, 831, 832, 833, 834, 835, 836] (by decide +kernel) (by decide +kernel)
set_option maxRecDepth 20000 in
theorem gL_law_X6_need : GoodIn wsL_law (wsV RL 172 RX6 yX6_need wsX6_need) := goodIn_app (goodIn_of _ (by decide +kernel)) ggL_law_X6_need
set_option maxRecDepth 20000 in
theorem ggL_law_L_eaters : GoodIn wsL_law wsL_eaters := goodIn_ca (goodIn_r _ [524, 118, 525, 526, 527, 2, 528, 29, 333, 17, 125, 126, 127, 128, 129, 529, 530, 531, 28, 532, 533, 534, 535, 536, 537, 538, 539, 540, 511, 512, 513, 64, 808, 809, 810, 811, 812, 813, 850, 851, 852, 853, 854, 855, 837, 838, 839, 840, 841, 842, 843, 844] (by decide +kernel) (by decide +kernel)) (goodIn_sub (fun _ h => List.mem_append_left _ (List.mem_append_right _ h)) (by decide +kernel))
set_option maxRecDepth 20000 in
theorem gL_law_L_eaters : GoodIn wsL_law (va_wsS RL 173 yL_eaters wsL_eaters) := goodIn_app (goodIn_of _ (by decide +kernel)) ggL_law_L_eaters
set_option maxRecDepth 20000 in
theorem ggL_law_X6_eaters : GoodIn wsL_law wsX6_eaters := goodIn_r _ [544, 105, 518, 519, 520, 5, 521, 344, 149, 150, 151, 545, 546, 547, 548, 144, 549, 550, 551, 552, 343, 86, 77, 814, 815, 816, 817, 818, 819, 820, 821, 822, 823, 824, 825, 826, 827, 828, 829, 830, 831, 832, 833, 834, 835, 836] (by decide +kernel) (by decide +kernel)
set_option maxRecDepth 20000 in
theorem gL_law_X6_eaters : GoodIn wsL_law (wsV RL 175 RX6 yX6_eaters wsX6_eaters) := goodIn_app (goodIn_of _ (by decide +kernel)) ggL_law_X6_eaters
set_option maxRecDepth 20000 in
theorem ggL_law_L_lacks : GoodIn wsL_law wsL_lacks := goodIn_ca (goodIn_ca (goodIn_r _ [555, 118, 119, 556, 557, 558, 2, 559, 29, 333, 332, 17, 449, 560, 561, 243, 562, 125, 126, 127, 128, 129, 130, 131, 132, 133, 134, 529, 530, 531, 28, 532, 533, 534, 535, 536, 537, 538, 539, 540, 511, 512, 513, 64, 563, 229, 230, 231, 232, 233, 234, 510, 808, 809, 810, 811, 812, 813, 850, 851, 852, 853, 854, 855, 837, 838, 839, 840, 841, 842, 843, 844] (by decide +kernel) (by decide +kernel)) (goodIn_sub (fun _ h => List.mem_append_left _ (List.mem_append_right _ h)) (by decide +kernel))) (goodIn_sub (fun _ h => List.mem_append_right _ h) (by decide +kernel))
set_option maxRecDepth 20000 in
theorem gL_law_L_lacks : GoodIn wsL_law (va_wsS RL 176 yL_lacks wsL_lacks) := goodIn_app (goodIn_of _ (by decide +kernel)) ggL_law_L_lacks
set_option maxRecDepth 20000 in
theorem ggL_law_X6_lacks : GoodIn wsL_law wsX6_lacks := goodIn_r _ [567, 105, 86, 85, 568, 561, 243, 562, 518, 519, 520, 5, 521, 344, 149, 150, 151, 465, 466, 467, 468, 343, 107, 108, 109, 110, 569, 570, 571, 572, 144, 82, 549, 550, 551, 552, 77, 814, 815, 816, 817, 818, 819, 820, 821, 822, 823, 824, 825, 826, 827, 828, 829, 830, 831, 832, 833, 834, 835, 836] (by decide +kernel) (by decide +kernel)
set_option maxRecDepth 20000 in
theorem gL_law_X6_lacks : GoodIn wsL_law (wsV RL 178 RX6 yX6_lacks wsX6_lacks) := goodIn_app (goodIn_of _ (by decide +kernel)) ggL_law_X6_lacks
set_option maxRecDepth 20000 in
theorem ggL_law_L_eat : GoodIn wsL_law wsL_eat := goodIn_ca (goodIn_ca (goodIn_r _ [575, 118, 93, 576, 577, 578, 2, 579, 98, 99, 29, 333, 17, 125, 126, 127, 128, 129, 580, 581, 582, 28, 583, 584, 585, 530, 531, 532, 533, 534, 535, 536, 537, 538, 539, 540, 511, 512, 513, 64, 586, 229, 230, 231, 232, 233, 234, 587, 588, 589, 590, 63, 591, 592, 593, 594, 595, 808, 809, 810, 811, 812, 813, 850, 851, 852, 853, 854, 855, 837, 838, 839, 840, 841, 842, 843, 844] (by decide +kernel) (by decide +kernel)) (goodIn_sub (fun _ h => List.mem_append_left _ (List.mem_append_left _ (List.mem_append_right _ h))) (by decide +kernel))) (goodIn_sub (fun _ h => List.mem_append_left _ (List.mem_append_right _ h)) (by decide +kernel))
set_option maxRecDepth 20000 in
theorem gL_law_L_eat : GoodIn wsL_law (va_wsS RL 179 yL_eat wsL_eat) := goodIn_app (goodIn_of _ (by decide +kernel)) ggL_law_L_eat
set_option maxRecDepth 20000 in
theorem ggL_law_X6_eat : GoodIn wsL_law wsX6_eat := goodIn_r _ [599, 105, 343, 85, 86, 144, 82, 600, 518, 519, 520, 5, 521, 344, 149, 150, 151, 107, 108, 109, 110, 601, 602, 603, 604, 569, 570, 571, 572, 549, 550, 551, 552, 77, 814, 815, 816, 817, 818, 819, 820, 821, 822, 823, 824, 825, 826, 827, 828, 829, 830, 831, 832, 833, 834, 835, 836] (by decide +kernel) (by decide +kernel)
set_option maxRecDepth 20000 in
theorem gL_law_X6_eat : GoodIn wsL_law (wsV RL 181 RX6 yX6_eat wsX6_eat) := goodIn_app (goodIn_of _ (by decide +kernel)) ggL_law_X6_eat
set_option maxRecDepth 20000 in
theorem ggL_law_L_table : GoodIn wsL_law wsL_table := goodIn_ca (goodIn_r _ [607, 118, 608, 609, 610, 2, 611, 29, 612, 17, 125, 126, 127, 128, 129, 613, 614, 615, 616, 124, 617, 563, 229, 230, 231, 232, 233, 234, 618, 619, 620, 28, 621, 622, 595, 623, 585, 530, 531, 532, 533, 534, 535, 536, 537, 538, 539, 540, 511, 512, 513, 64, 586, 624, 581, 582, 583, 584, 587, 588, 589, 590, 63, 808, 809, 810, 811, 812, 813, 850, 851, 852, 853, 854, 855, 837, 838, 839, 840, 841, 842, 843, 844] (by decide +kernel) (by decide +kernel)) (goodIn_sub (fun _ h => List.mem_append_left _ (List.mem_append_right _ h)) (by decide +kernel))
set_option maxRecDepth 20000 in
theorem gL_law_L_table : GoodIn wsL_law (va_wsS RL 182 yL_table wsL_table) := goodIn_app (goodIn_of _ (by decide +kernel)) ggL_law_L_table
set_option maxRecDepth 20000 in
theorem ggL_law_X6_table : GoodIn wsL_law wsX6_table := goodIn_r _ [628, 105, 149, 150, 5, 151, 629, 630, 631, 632, 600, 144, 82, 344, 601, 602, 603, 604, 343, 86, 85, 569, 570, 571, 572, 549, 550, 551, 552, 77, 107, 108, 109, 110, 814, 815, 816, 817, 818, 819, 820, 821, 822, 823, 824, 825, 826, 827, 828, 829, 830, 831, 832, 833, 834, 835, 836] (by decide +kernel) (by decide +kernel)
set_option maxRecDepth 20000 in
theorem gL_law_X6_table : GoodIn wsL_law (wsV RL 184 RX6 yX6_table wsX6_table) := goodIn_app (goodIn_of _ (by decide +kernel)) ggL_law_X6_table
set_option maxRecDepth 20000 in
theorem ggL_law_L_addBadge : GoodIn wsL_law wsL_addBadge := goodIn_ca (goodIn_ca (goodIn_r _ [635, 119, 93, 636, 637, 638, 2, 639, 98, 99, 33, 334, 640, 130, 131, 132, 133, 134, 808, 809, 810, 811, 812, 813, 856, 857, 858] (by decide +kernel) (by decide +kernel)) (goodIn_sub (fun _ h => List.mem_append_left _ (List.mem_append_left _ (List.mem_append_right _ h))) (by decide +kernel))) (goodIn_sub (fun _ h => List.mem_append_right _ h) (by decide +kernel))
set_option maxRecDepth 20000 in
theorem gL_law_L_addBadge : GoodIn wsL_law (va_wsS RL 185 yL_addBadge wsL_addBadge) := goodIn_app (goodIn_of _ (by decide +kernel)) ggL_law_L_addBadge
set_option maxRecDepth 20000 in
theorem ggL_law_X6_addBadge : GoodIn wsL_law wsX6_addBadge := goodIn_r _ [644, 105, 345, 87, 149, 150, 5, 151, 107, 108, 109, 110, 814, 815, 816, 817, 818, 819, 820, 821, 822, 823, 824, 825, 826, 827, 828, 829, 830, 831, 832, 833, 834, 835, 836] (by decide +kernel) (by decide +kernel)
set_option maxRecDepth 20000 in
theorem gL_law_X6_addBadge : GoodIn wsL_law (wsV RL 187 RX6 yX6_addBadge wsX6_addBadge) := goodIn_app (goodIn_of _ (by decide +kernel)) ggL_law_X6_addBadge
set_option maxRecDepth 20000 in
theorem ggL_law_L_want : GoodIn wsL_law wsL_want := goodIn_ca (goodIn_ca (goodIn_r _ [647, 118, 119, 648, 649, 650, 2, 651, 33, 334, 652, 125, 126, 127, 128, 129, 130, 131, 132, 133, 134, 808, 809, 810, 811, 812, 813, 856, 857, 858] (by decide +kernel) (by decide +kernel)) (goodIn_sub (fun _ h => List.mem_append_left _ (List.mem_append_right _ h)) (by decide +kernel))) (goodIn_sub (fun _ h => List.mem_append_right _ h) (by decide +kernel))
set_option maxRecDepth 20000 in
theorem gL_law_L_want : GoodIn wsL_law (va_wsS RL 188 yL_want wsL_want) := goodIn_app (goodIn_of _ (by decide +kernel)) ggL_law_L_want
set_option maxRecDepth 20000 in
theorem ggL_law_X6_want : GoodIn wsL_law wsX6_want := goodIn_r _ [656, 105, 88, 657, 658, 659, 5, 660, 345, 149, 150, 151, 661, 662, 663, 107, 108, 109, 110, 814, 815, 816, 817, 818, 819, 820, 821, 822, 823, 824, 825, 826, 827, 828, 829, 830, 831, 832, 833, 834, 835, 836] (by decide +kernel) (by decide +kernel)
set_option maxRecDepth 20000 in
theorem gL_law_X6_want : GoodIn wsL_law (wsV RL 190 RX6 yX6_want wsX6_want) := goodIn_app (goodIn_of _ (by decide +kernel)) ggL_law_X6_want
set_option maxRecDepth 20000 in
theorem ggL_law_L_practise : GoodIn wsL_law wsL_practise := goodIn_ca (goodIn_ca (goodIn_r _ [666, 118, 119, 667, 668, 669, 2, 670, 17, 100, 125, 126, 127, 128, 129, 130, 131, 132, 133, 134, 671, 672, 673, 16, 674, 139, 39, 44, 808, 809, 810, 811, 812, 813, 837, 838, 839, 840, 841, 842, 843, 844] (by decide +kernel) (by decide +kernel)) (goodIn_sub (fun _ h => List.mem_append_left _ (List.mem_append_right _ h)) (by decide +kernel))) (goodIn_sub (fun _ h => List.mem_append_right _ h) (by decide +kernel))
set_option maxRecDepth 20000 in
theorem gL_law_L_practise : GoodIn wsL_law (va_wsS RL 191 yL_practise wsL_practise) := goodIn_app (goodIn_of _ (by decide +kernel)) ggL_law_L_practise
set_option maxRecDepth 20000 in
theorem ggL_law_X6_practise : GoodIn wsL_law wsX6_practise := goodIn_r _ [678, 105, 144, 74, 80, 145, 146, 147, 5, 148, 106, 149, 150, 151, 661, 662, 663, 107, 108, 109, 110, 814, 815, 816, 817, 818, 819, 820, 821, 822, 823, 824, 825, 826, 827, 828, 829, 830, 831, 832, 833, 834, 835, 836] (by decide +kernel) (by decide +kernel)
set_option maxRecDepth 20000 in
theorem gL_law_X6_practise : GoodIn wsL_law (wsV RL 193 RX6 yX6_practise wsX6_practise) := goodIn_app (goodIn_of _ (by decide +kernel)) ggL_law_X6_practise
set_option maxRecDepth 20000 in
theorem ggL_law_L_away : GoodIn wsL_law wsL_away := goodIn_ca (goodIn_r _ [681, 118, 682, 683, 684, 2, 685, 17, 124, 33, 334, 125, 126, 127, 128, 129, 686, 687, 688, 32, 689, 690, 68, 691, 692, 693, 694, 695, 69, 696, 561, 243, 562, 697, 178, 179, 16, 180, 44, 808, 809, 810, 811, 812, 813, 837, 838, 839, 840, 841, 842, 843, 844, 856, 857, 858] (by decide +kernel) (by decide +kernel)) (goodIn_sub (fun _ h => List.mem_append_left _ (List.mem_append_right _ h)) (by decide +kernel))
set_option maxRecDepth 20000 in
theorem gL_law_L_away : GoodIn wsL_law (va_wsS RL 194 yL_away wsL_away) := goodIn_app (goodIn_of _ (by decide +kernel)) ggL_law_L_away
set_option maxRecDepth 20000 in
theorem ggL_law_X6_away : GoodIn wsL_law wsX6_away := goodIn_r _ [701, 105, 185, 186, 187, 5, 188, 144, 149, 150, 151, 657, 658, 659, 660, 345, 702, 703, 704, 705, 79, 75, 87, 88, 80, 568, 561, 243, 562, 107, 108, 109, 110, 814, 815, 816, 817, 818, 819, 820, 821, 822, 823, 824, 825, 826, 827, 828, 829, 830, 831, 832, 833, 834, 835, 836] (by decide +kernel) (by decide +kernel)
set_option maxRecDepth 20000 in
theorem gL_law_X6_away : GoodIn wsL_law (wsV RL 196 RX6 yX6_away wsX6_away) := goodIn_app (goodIn_of _ (by decide +kernel)) ggL_law_X6_away
set_option maxRecDepth 20000 in
theorem ggL_law_L_earn : GoodIn wsL_law wsL_earn := goodIn_ca (goodIn_ca (goodIn_r _ [708, 118, 93, 709, 710, 711, 2, 712, 98, 99, 17, 124, 33, 334, 167, 125, 126, 127, 128, 129, 686, 687, 688, 32, 689, 690, 68, 691, 692, 693, 694, 695, 69, 696, 561, 243, 562, 697, 178, 179, 16, 180, 44, 713, 714, 715, 716, 717, 718, 719, 808, 809, 810, 811, 812, 813, 837, 838, 839, 840, 841, 842, 843, 844, 856, 857, 858] (by decide +kernel) (by decide +kernel)) (goodIn_sub (fun _ h => List.mem_append_left _ (List.mem_append_left _ (List.mem_append_right _ h))) (by decide +kernel))) (goodIn_sub (fun _ h => List.mem_append_left _ (List.mem_append_right _ h)) (by decide +kernel))
set_option maxRecDepth 20000 in
theorem gL_law_L_earn : GoodIn wsL_law (va_wsS RL 197 yL_earn wsL_earn) := goodIn_app (goodIn_of _ (by decide +kernel)) ggL_law_L_earn
set_option maxRecDepth 20000 in
theorem ggL_law_X6_earn : GoodIn wsL_law wsX6_earn := goodIn_r _ [723, 105, 79, 185, 186, 187, 5, 188, 144, 149, 150, 151, 657, 658, 659, 660, 345, 107, 108, 109, 110, 702, 703, 704, 705, 75, 87, 88, 80, 568, 561, 243, 562, 814, 815, 816, 817, 818, 819, 820, 821, 822, 823, 824, 825, 826, 827, 828, 829, 830, 831, 832, 833, 834, 835, 836] (by decide +kernel) (by decide +kernel)
set_option maxRecDepth 20000 in
theorem gL_law_X6_earn : GoodIn wsL_law (wsV RL 199 RX6 yX6_earn wsX6_earn) := goodIn_app (goodIn_of _ (by decide +kernel)) ggL_law_X6_earn
set_option maxRecDepth 20000 in
theorem ggL_law_L_hike : GoodIn wsL_law wsL_hike := goodIn_ca (goodIn_ca (goodIn_r _ [726, 119, 93, 727, 728, 729, 2, 730, 133, 134, 98, 99, 17, 731, 732, 733, 734, 16, 735, 139, 130, 131, 132, 736, 363, 364, 365, 40, 737, 738, 739, 740, 41, 741, 742, 743, 744, 745, 561, 243, 562, 746, 747, 748, 749, 808, 809, 810, 811, 812, 813, 837, 838, 839, 840, 841, 842, 843, 844] (by decide +kernel) (by decide +kernel)) (goodIn_sub (fun _ h => List.mem_append_right _ h) (by decide +kernel))) (goodIn_sub (fun _ h => List.mem_append_left _ (List.mem_append_left _ (List.mem_append_right _ h))) (by decide +kernel))
set_option maxRecDepth 20000 in
theorem gL_law_L_hike : GoodIn wsL_law (va_wsS RL 202 yL_hike wsL_hike) := goodIn_app (goodIn_of _ (by decide +kernel)) ggL_law_L_hike
set_option maxRecDepth 20000 in
theorem ggL_law_X6_hike : GoodIn wsL_law wsX6_hike := goodIn_r _ [753, 105, 144, 75, 568, 561, 243, 562, 76, 149, 150, 5, 151, 107, 108, 109, 110, 814, 815, 816, 817, 818, 819, 820, 821, 822, 823, 824, 825, 826, 827, 828, 829, 830, 831, 832, 833, 834, 835, 836] (by decide +kernel) (by decide +kernel)
set_option maxRecDepth 20000 in
theorem gL_law_X6_hike : GoodIn wsL_law (wsV RL 205 RX6 yX6_hike wsX6_hike) := goodIn_app (goodIn_of _ (by decide +kernel)) ggL_law_X6_hike
set_option maxRecDepth 20000 in
theorem ggL_law_L_end : GoodIn wsL_law wsL_end := goodIn_ca (goodIn_r _ [756, 93, 757, 758, 759, 2, 760, 98, 99, 34, 29, 761, 762, 763, 28, 764, 584, 595, 808, 809, 810, 811, 812, 813, 850, 851, 852, 853, 854, 855] (by decide +kernel) (by decide +kernel)) (goodIn_sub (fun _ h => List.mem_append_left _ (List.mem_append_left _ (List.mem_append_right _ h))) (by decide +kernel))
set_option maxRecDepth 20000 in
theorem gL_law_L_end : GoodIn wsL_law (va_wsS RL 206 yL_end wsL_end) := goodIn_app (goodIn_of _ (by decide +kernel)) ggL_law_L_end
set_option maxRecDepth 20000 in
theorem ggL_law_X6_end : GoodIn wsL_law wsX6_end := goodIn_r _ [768, 105, 384, 600, 82, 107, 108, 109, 5, 110, 814, 815, 816, 817, 818, 819, 820, 821, 822, 823, 824, 825, 826, 827, 828, 829, 830, 831, 832, 833, 834, 835, 836] (by decide +kernel) (by decide +kernel)
set_option maxRecDepth 20000 in
theorem gL_law_X6_end : GoodIn wsL_law (wsV RL 208 RX6 yX6_end wsX6_end) := goodIn_app (goodIn_of _ (by decide +kernel)) ggL_law_X6_end
set_option maxRecDepth 20000 in
theorem ggL_law_X5_day : GoodIn wsL_law wsX5_day := goodIn_r _ [772, 34, 808, 809, 810, 811, 812, 813] (by decide +kernel) (by decide +kernel)
set_option maxRecDepth 20000 in
theorem gL_law_X5_day : GoodIn wsL_law (wsV RL 209 RX5 yX5_day wsX5_day) := goodIn_app (goodIn_of _ (by decide +kernel)) ggL_law_X5_day
set_option maxRecDepth 20000 in
theorem ggL_law_X6_day : GoodIn wsL_law wsX6_day := goodIn_r _ [776, 105, 384, 814, 815, 816, 817, 818, 819, 820, 821, 822, 823, 824, 825, 826, 827, 828, 829, 830, 831, 832, 833, 834, 835, 836] (by decide +kernel) (by decide +kernel)
set_option maxRecDepth 20000 in
theorem gL_law_X6_day : GoodIn wsL_law (wsV RL 212 RX6 yX6_day wsX6_day) := goodIn_app (goodIn_of _ (by decide +kernel)) ggL_law_X6_day
set_option maxRecDepth 20000 in
theorem ggL_law_X5_meanAge : GoodIn wsL_law wsX5_meanAge := goodIn_r _ [780, 17, 124, 164, 808, 809, 810, 811, 812, 813, 837, 838, 839, 840, 841, 842, 843, 844] (by decide +kernel) (by decide +kernel)
set_option maxRecDepth 20000 in
theorem gL_law_X5_meanAge : GoodIn wsL_law (wsV RL 213 RX5 yX5_meanAge wsX5_meanAge) := goodIn_app (goodIn_of _ (by decide +kernel)) ggL_law_X5_meanAge
set_option maxRecDepth 20000 in
theorem ggL_law_X6_meanAge : GoodIn wsL_law wsX6_meanAge := goodIn_r _ [784, 105, 144, 75, 814, 815, 816, 817, 818, 819, 820, 821, 822, 823, 824, 825, 826, 827, 828, 829, 830, 831, 832, 833, 834, 835, 836] (by decide +kernel) (by decide +kernel)
set_option maxRecDepth 20000 in
theorem gL_law_X6_meanAge : GoodIn wsL_law (wsV RL 217 RX6 yX6_meanAge wsX6_meanAge) := goodIn_app (goodIn_of _ (by decide +kernel)) ggL_law_X6_meanAge
set_option maxRecDepth 20000 in
theorem ggL_law_X5_digest : GoodIn wsL_law wsX5_digest := goodIn_r _ [788, 789, 34, 21, 204, 278, 25, 29, 612, 790, 791, 2, 792, 793, 328, 329, 330, 331, 17, 100, 124, 332, 333, 33, 334, 305, 306, 307, 308, 309, 310, 311, 20, 312, 172, 49, 228, 229, 230, 231, 232, 233, 234, 794, 795, 796, 797, 415, 159, 160, 161, 162, 163, 164, 165, 166, 167, 168, 169, 170, 171, 173, 174, 175, 16, 176, 177, 178, 179, 180, 44, 374, 371, 372, 24, 373, 54, 798, 799, 800, 801, 449, 529, 530, 531, 28, 532, 533, 534, 535, 536, 537, 538, 539, 540, 511, 512, 513, 64, 613, 614, 615, 616, 617, 563, 808, 809, 810, 811, 812, 813, 845, 846, 847, 850, 851, 852, 853, 854, 855, 837, 838, 839, 840, 841, 842, 843, 844, 856, 857, 858, 848, 849] (by decide +kernel) (by decide +kernel)
set_option maxRecDepth 20000 in
theorem gL_law_X5_digest : GoodIn wsL_law (wsV RL 218 RX5 yX5_digest wsX5_digest) := goodIn_app (goodIn_of _ (by decide +kernel)) ggL_law_X5_digest
set_option maxRecDepth 20000 in
theorem ggL_law_X6_digest : GoodIn wsL_law wsX6_digest := goodIn_r _ [805, 105, 806, 384, 807, 106, 144, 213, 343, 85, 344, 339, 340, 341, 5, 342, 38, 345, 267, 268, 269, 270, 78, 74, 420, 421, 422, 423, 84, 189, 190, 191, 192, 75, 76, 77, 79, 193, 194, 195, 196, 80, 283, 284, 285, 286, 393, 394, 395, 396, 149, 150, 151, 545, 546, 547, 548, 549, 550, 551, 552, 86, 629, 630, 631, 632, 600, 82, 601, 602, 603, 604, 569, 570, 571, 572, 814, 815, 816, 817, 818, 819, 820, 821, 822, 823, 824, 825, 826, 827, 828, 829, 830, 831, 832, 833, 834, 835, 836] (by decide +kernel) (by decide +kernel)
set_option maxRecDepth 20000 in
theorem gL_law_X6_digest : GoodIn wsL_law (wsV RL 222 RX6 yX6_digest wsX6_digest) := goodIn_app (goodIn_of _ (by decide +kernel)) ggL_law_X6_digest
end
section
abbrev vwCl : List vw_C := [(RX0, TX0, 3), (RX1, TX1, 2), (RX2, TX2, 6), (RX3, TX3, 8), (RX4, TX4, 3), (RX5, TX5, 6), (RX6, TX6, 23)]
end
