section
-- ===== PART A: goes FIRST, ahead of the names: the tables' words, and 'selects' of the private methods out of them =====
/-- a private method of a class that the tables say can be made, by its rows of tables_1 -/
def lw_okq (q : MethodName × Nat) : Prop := (q.1.cls ≠ "java/lang/invoke/MethodHandle" ∧ q.1.cls ≠ "java/lang/invoke/VarHandle") ∧ Cond.instantiable q.1.cls q.2 ∈ tables_1 ∧ Cond.privateMethod q.1 ∈ tables_1 ∧ Cond.instanceMethod q.1 ∈ tables_1
theorem lw_p0 : lw_okq (⟨"StockRows2", "orderByLevel", "(II)V"⟩, 12) := ⟨⟨by decide +kernel, by decide +kernel⟩, List.mem_of_getElem? (i := 14) (by decide +kernel), List.mem_of_getElem? (i := 103) (by decide +kernel), List.mem_of_getElem? (i := 104) (by decide +kernel)⟩
theorem lw_p1 : lw_okq (⟨"StockRows2", "inStore", "(IIZ)I"⟩, 12) := ⟨⟨by decide +kernel, by decide +kernel⟩, List.mem_of_getElem? (i := 14) (by decide +kernel), List.mem_of_getElem? (i := 114) (by decide +kernel), List.mem_of_getElem? (i := 115) (by decide +kernel)⟩
theorem lw_p2 : lw_okq (⟨"StockRows2", "isGoodOn", "(II)Z"⟩, 12) := ⟨⟨by decide +kernel, by decide +kernel⟩, List.mem_of_getElem? (i := 14) (by decide +kernel), List.mem_of_getElem? (i := 122) (by decide +kernel), List.mem_of_getElem? (i := 123) (by decide +kernel)⟩
theorem lw_p3 : lw_okq (⟨"StockRows2", "onTheWay", "(IIZ)I"⟩, 12) := ⟨⟨by decide +kernel, by decide +kernel⟩, List.mem_of_getElem? (i := 14) (by decide +kernel), List.mem_of_getElem? (i := 129) (by decide +kernel), List.mem_of_getElem? (i := 130) (by decide +kernel)⟩
theorem lw_p4 : lw_okq (⟨"StockRows2", "inOpenOrders", "(II)I"⟩, 12) := ⟨⟨by decide +kernel, by decide +kernel⟩, List.mem_of_getElem? (i := 14) (by decide +kernel), List.mem_of_getElem? (i := 133) (by decide +kernel), List.mem_of_getElem? (i := 134) (by decide +kernel)⟩
theorem lw_p5 : lw_okq (⟨"StockRows2", "addOrder", "(III)I"⟩, 12) := ⟨⟨by decide +kernel, by decide +kernel⟩, List.mem_of_getElem? (i := 14) (by decide +kernel), List.mem_of_getElem? (i := 137) (by decide +kernel), List.mem_of_getElem? (i := 138) (by decide +kernel)⟩
theorem lw_p6 : lw_okq (⟨"java/lang/Throwable", "fillInStackTrace", "(I)Ljava/lang/Throwable;"⟩, 6) := ⟨⟨by decide +kernel, by decide +kernel⟩, List.mem_of_getElem? (i := 196) (by decide +kernel), List.mem_of_getElem? (i := 194) (by decide +kernel), List.mem_of_getElem? (i := 195) (by decide +kernel)⟩
theorem lw_p7 : lw_okq (⟨"StockRows2", "needStore", "(I)V"⟩, 12) := ⟨⟨by decide +kernel, by decide +kernel⟩, List.mem_of_getElem? (i := 14) (by decide +kernel), List.mem_of_getElem? (i := 284) (by decide +kernel), List.mem_of_getElem? (i := 285) (by decide +kernel)⟩
theorem lw_p8 : lw_okq (⟨"StockRows2", "needLot", "(I)V"⟩, 12) := ⟨⟨by decide +kernel, by decide +kernel⟩, List.mem_of_getElem? (i := 14) (by decide +kernel), List.mem_of_getElem? (i := 289) (by decide +kernel), List.mem_of_getElem? (i := 290) (by decide +kernel)⟩
theorem lw_p9 : lw_okq (⟨"StockRows2", "needPlace", "(III)V"⟩, 12) := ⟨⟨by decide +kernel, by decide +kernel⟩, List.mem_of_getElem? (i := 14) (by decide +kernel), List.mem_of_getElem? (i := 301) (by decide +kernel), List.mem_of_getElem? (i := 302) (by decide +kernel)⟩
theorem lw_p10 : lw_okq (⟨"StockRows2", "change", "(III)V"⟩, 12) := ⟨⟨by decide +kernel, by decide +kernel⟩, List.mem_of_getElem? (i := 14) (by decide +kernel), List.mem_of_getElem? (i := 306) (by decide +kernel), List.mem_of_getElem? (i := 307) (by decide +kernel)⟩
theorem lw_p11 : lw_okq (⟨"StockRows2", "needThere", "(III)V"⟩, 12) := ⟨⟨by decide +kernel, by decide +kernel⟩, List.mem_of_getElem? (i := 14) (by decide +kernel), List.mem_of_getElem? (i := 319) (by decide +kernel), List.mem_of_getElem? (i := 320) (by decide +kernel)⟩
theorem lw_p12 : lw_okq (⟨"StockRows2", "arrive", "(I)V"⟩, 12) := ⟨⟨by decide +kernel, by decide +kernel⟩, List.mem_of_getElem? (i := 14) (by decide +kernel), List.mem_of_getElem? (i := 339) (by decide +kernel), List.mem_of_getElem? (i := 340) (by decide +kernel)⟩
theorem lw_p13 : lw_okq (⟨"StockRows2", "addUpToMost", "(III)V"⟩, 12) := ⟨⟨by decide +kernel, by decide +kernel⟩, List.mem_of_getElem? (i := 14) (by decide +kernel), List.mem_of_getElem? (i := 344) (by decide +kernel), List.mem_of_getElem? (i := 345) (by decide +kernel)⟩
theorem lw_p14 : lw_okq (⟨"StockRows2", "take", "(III)V"⟩, 12) := ⟨⟨by decide +kernel, by decide +kernel⟩, List.mem_of_getElem? (i := 14) (by decide +kernel), List.mem_of_getElem? (i := 359) (by decide +kernel), List.mem_of_getElem? (i := 360) (by decide +kernel)⟩
theorem lw_p15 : lw_okq (⟨"StockRows2", "firstToTake", "(II)I"⟩, 12) := ⟨⟨by decide +kernel, by decide +kernel⟩, List.mem_of_getElem? (i := 14) (by decide +kernel), List.mem_of_getElem? (i := 363) (by decide +kernel), List.mem_of_getElem? (i := 364) (by decide +kernel)⟩
def lw_privs_1 : List (MethodName × Nat) := [(⟨"StockRows2", "orderByLevel", "(II)V"⟩, 12), (⟨"StockRows2", "inStore", "(IIZ)I"⟩, 12), (⟨"StockRows2", "isGoodOn", "(II)Z"⟩, 12), (⟨"StockRows2", "onTheWay", "(IIZ)I"⟩, 12), (⟨"StockRows2", "inOpenOrders", "(II)I"⟩, 12), (⟨"StockRows2", "addOrder", "(III)I"⟩, 12), (⟨"java/lang/Throwable", "fillInStackTrace", "(I)Ljava/lang/Throwable;"⟩, 6), (⟨"StockRows2", "needStore", "(I)V"⟩, 12), (⟨"StockRows2", "needLot", "(I)V"⟩, 12), (⟨"StockRows2", "needPlace", "(III)V"⟩, 12), (⟨"StockRows2", "change", "(III)V"⟩, 12), (⟨"StockRows2", "needThere", "(III)V"⟩, 12), (⟨"StockRows2", "arrive", "(I)V"⟩, 12), (⟨"StockRows2", "addUpToMost", "(III)V"⟩, 12), (⟨"StockRows2", "take", "(III)V"⟩, 12), (⟨"StockRows2", "firstToTake", "(II)I"⟩, 12)]
theorem lw_r1 : ∀ q ∈ lw_privs_1, lw_okq q := List.forall_mem_cons.mpr ⟨lw_p0, List.forall_mem_cons.mpr ⟨lw_p1, List.forall_mem_cons.mpr ⟨lw_p2, List.forall_mem_cons.mpr ⟨lw_p3, List.forall_mem_cons.mpr ⟨lw_p4, List.forall_mem_cons.mpr ⟨lw_p5, List.forall_mem_cons.mpr ⟨lw_p6, List.forall_mem_cons.mpr ⟨lw_p7, List.forall_mem_cons.mpr ⟨lw_p8, List.forall_mem_cons.mpr ⟨lw_p9, List.forall_mem_cons.mpr ⟨lw_p10, List.forall_mem_cons.mpr ⟨lw_p11, List.forall_mem_cons.mpr ⟨lw_p12, List.forall_mem_cons.mpr ⟨lw_p13, List.forall_mem_cons.mpr ⟨lw_p14, List.forall_mem_cons.mpr ⟨lw_p15, fun _ h => absurd h List.not_mem_nil⟩⟩⟩⟩⟩⟩⟩⟩⟩⟩⟩⟩⟩⟩⟩⟩
theorem lw_p16 : lw_okq (⟨"StockRows2", "isTakenBefore", "(III)Z"⟩, 12) := ⟨⟨by decide +kernel, by decide +kernel⟩, List.mem_of_getElem? (i := 14) (by decide +kernel), List.mem_of_getElem? (i := 367) (by decide +kernel), List.mem_of_getElem? (i := 368) (by decide +kernel)⟩
theorem lw_p17 : lw_okq (⟨"StockRows2", "hasParts", "(I)Z"⟩, 12) := ⟨⟨by decide +kernel, by decide +kernel⟩, List.mem_of_getElem? (i := 14) (by decide +kernel), List.mem_of_getElem? (i := 468) (by decide +kernel), List.mem_of_getElem? (i := 469) (by decide +kernel)⟩
theorem lw_p18 : lw_okq (⟨"StockRows2", "lackingKind", "(II)I"⟩, 12) := ⟨⟨by decide +kernel, by decide +kernel⟩, List.mem_of_getElem? (i := 14) (by decide +kernel), List.mem_of_getElem? (i := 473) (by decide +kernel), List.mem_of_getElem? (i := 474) (by decide +kernel)⟩
theorem lw_p19 : lw_okq (⟨"StockRows2", "inAllStores", "(I)I"⟩, 12) := ⟨⟨by decide +kernel, by decide +kernel⟩, List.mem_of_getElem? (i := 14) (by decide +kernel), List.mem_of_getElem? (i := 498) (by decide +kernel), List.mem_of_getElem? (i := 499) (by decide +kernel)⟩
theorem lw_p20 : lw_okq (⟨"StockRows2$Table", "lastNotAbove", "(I)I"⟩, 3) := ⟨⟨by decide +kernel, by decide +kernel⟩, List.mem_of_getElem? (i := 42) (by decide +kernel), List.mem_of_getElem? (i := 535) (by decide +kernel), List.mem_of_getElem? (i := 536) (by decide +kernel)⟩
theorem lw_p21 : lw_okq (⟨"StockRows2$Table", "litresBetween", "(III)I"⟩, 3) := ⟨⟨by decide +kernel, by decide +kernel⟩, List.mem_of_getElem? (i := 42) (by decide +kernel), List.mem_of_getElem? (i := 539) (by decide +kernel), List.mem_of_getElem? (i := 540) (by decide +kernel)⟩
theorem lw_p22 : lw_okq (⟨"StockRows2Model", "goes", "(IZZZZ)Z"⟩, 37) := ⟨⟨by decide +kernel, by decide +kernel⟩, List.mem_of_getElem? (i := 550) (by decide +kernel), List.mem_of_getElem? (i := 677) (by decide +kernel), List.mem_of_getElem? (i := 678) (by decide +kernel)⟩
theorem lw_p23 : lw_okq (⟨"StockRows2Model", "isStore", "(I)Z"⟩, 37) := ⟨⟨by decide +kernel, by decide +kernel⟩, List.mem_of_getElem? (i := 550) (by decide +kernel), List.mem_of_getElem? (i := 695) (by decide +kernel), List.mem_of_getElem? (i := 696) (by decide +kernel)⟩
theorem lw_p24 : lw_okq (⟨"StockRows2Model", "isLot", "(I)Z"⟩, 37) := ⟨⟨by decide +kernel, by decide +kernel⟩, List.mem_of_getElem? (i := 550) (by decide +kernel), List.mem_of_getElem? (i := 699) (by decide +kernel), List.mem_of_getElem? (i := 700) (by decide +kernel)⟩
theorem lw_p25 : lw_okq (⟨"StockRows2Model", "at", "(II)I"⟩, 37) := ⟨⟨by decide +kernel, by decide +kernel⟩, List.mem_of_getElem? (i := 550) (by decide +kernel), List.mem_of_getElem? (i := 706) (by decide +kernel), List.mem_of_getElem? (i := 707) (by decide +kernel)⟩
theorem lw_p26 : lw_okq (⟨"StockRows2Model", "comes", "(III)V"⟩, 37) := ⟨⟨by decide +kernel, by decide +kernel⟩, List.mem_of_getElem? (i := 550) (by decide +kernel), List.mem_of_getElem? (i := 714) (by decide +kernel), List.mem_of_getElem? (i := 715) (by decide +kernel)⟩
theorem lw_p27 : lw_okq (⟨"StockRows2Model", "good", "(II)I"⟩, 37) := ⟨⟨by decide +kernel, by decide +kernel⟩, List.mem_of_getElem? (i := 550) (by decide +kernel), List.mem_of_getElem? (i := 725) (by decide +kernel), List.mem_of_getElem? (i := 726) (by decide +kernel)⟩
theorem lw_p28 : lw_okq (⟨"StockRows2Model", "isGood", "(I)Z"⟩, 37) := ⟨⟨by decide +kernel, by decide +kernel⟩, List.mem_of_getElem? (i := 550) (by decide +kernel), List.mem_of_getElem? (i := 729) (by decide +kernel), List.mem_of_getElem? (i := 730) (by decide +kernel)⟩
theorem lw_p29 : lw_okq (⟨"StockRows2Model", "takes", "(III)V"⟩, 37) := ⟨⟨by decide +kernel, by decide +kernel⟩, List.mem_of_getElem? (i := 550) (by decide +kernel), List.mem_of_getElem? (i := 733) (by decide +kernel), List.mem_of_getElem? (i := 734) (by decide +kernel)⟩
theorem lw_p30 : lw_okq (⟨"StockRows2Model", "expected", "(II)I"⟩, 37) := ⟨⟨by decide +kernel, by decide +kernel⟩, List.mem_of_getElem? (i := 550) (by decide +kernel), List.mem_of_getElem? (i := 753) (by decide +kernel), List.mem_of_getElem? (i := 754) (by decide +kernel)⟩
theorem lw_p31 : lw_okq (⟨"StockRows2Model", "makes", "(III)V"⟩, 37) := ⟨⟨by decide +kernel, by decide +kernel⟩, List.mem_of_getElem? (i := 550) (by decide +kernel), List.mem_of_getElem? (i := 757) (by decide +kernel), List.mem_of_getElem? (i := 758) (by decide +kernel)⟩
def lw_privs_2 : List (MethodName × Nat) := [(⟨"StockRows2", "isTakenBefore", "(III)Z"⟩, 12), (⟨"StockRows2", "hasParts", "(I)Z"⟩, 12), (⟨"StockRows2", "lackingKind", "(II)I"⟩, 12), (⟨"StockRows2", "inAllStores", "(I)I"⟩, 12), (⟨"StockRows2$Table", "lastNotAbove", "(I)I"⟩, 3), (⟨"StockRows2$Table", "litresBetween", "(III)I"⟩, 3), (⟨"StockRows2Model", "goes", "(IZZZZ)Z"⟩, 37), (⟨"StockRows2Model", "isStore", "(I)Z"⟩, 37), (⟨"StockRows2Model", "isLot", "(I)Z"⟩, 37), (⟨"StockRows2Model", "at", "(II)I"⟩, 37), (⟨"StockRows2Model", "comes", "(III)V"⟩, 37), (⟨"StockRows2Model", "good", "(II)I"⟩, 37), (⟨"StockRows2Model", "isGood", "(I)Z"⟩, 37), (⟨"StockRows2Model", "takes", "(III)V"⟩, 37), (⟨"StockRows2Model", "expected", "(II)I"⟩, 37), (⟨"StockRows2Model", "makes", "(III)V"⟩, 37)]
theorem lw_r2 : ∀ q ∈ lw_privs_2, lw_okq q := List.forall_mem_cons.mpr ⟨lw_p16, List.forall_mem_cons.mpr ⟨lw_p17, List.forall_mem_cons.mpr ⟨lw_p18, List.forall_mem_cons.mpr ⟨lw_p19, List.forall_mem_cons.mpr ⟨lw_p20, List.forall_mem_cons.mpr ⟨lw_p21, List.forall_mem_cons.mpr ⟨lw_p22, List.forall_mem_cons.mpr ⟨lw_p23, List.forall_mem_cons.mpr ⟨lw_p24, List.forall_mem_cons.mpr ⟨lw_p25, List.forall_mem_cons.mpr ⟨lw_p26, List.forall_mem_cons.mpr ⟨lw_p27, List.forall_mem_cons.mpr ⟨lw_p28, List.forall_mem_cons.mpr ⟨lw_p29, List.forall_mem_cons.mpr ⟨lw_p30, List.forall_mem_cons.mpr ⟨lw_p31, fun _ h => absurd h List.not_mem_nil⟩⟩⟩⟩⟩⟩⟩⟩⟩⟩⟩⟩⟩⟩⟩⟩
def lw_privs : List (MethodName × Nat) := lw_privs_1 ++ (lw_privs_2)
def lw_tbl : List Cond := k2_sels lw_privs ++ tables_1
theorem lw_privs_ok : ∀ q ∈ lw_privs, lw_okq q := by
  show ∀ q ∈ lw_privs_1 ++ (lw_privs_2), lw_okq q
  exact List.forall_mem_append.mpr ⟨lw_r1, lw_r2⟩
end
section
/-! ===== BEGIN words of one list among another's, by their places ===== -/
theorem goodIn_r {big : List Cond} (ws : List Cond) (ps : List Nat) (hp : ws = ps.filterMap (fun i => big[i]?)) (h : ws.all goodWord = true) : GoodIn big ws := by
  intro w hw
  have h1 := List.all_eq_true.mp h w hw
  rw [hp] at hw
  obtain ⟨i, -, hi⟩ := List.mem_filterMap.mp hw
  have hm : w ∈ big := by first | exact List.mem_of_getElem? hi | exact List.getElem?_mem hi
  exact ⟨hm, good_of_word h1⟩
theorem goodIn_app {big a b : List Cond} (ha : GoodIn big a) (hb : GoodIn big b) : GoodIn big (a ++ b) := fun w h => (List.mem_append.mp h).elim (ha w) (hb w)
theorem goodIn_ca {big a b : List Cond} {c : Cond} (ha : GoodIn big (c :: a)) (hb : GoodIn big b) : GoodIn big (c :: (a ++ b)) := fun w h => (List.mem_cons.mp h).elim (fun e => ha w (List.mem_cons.mpr (Or.inl e))) (fun h => (List.mem_append.mp h).elim (fun h => ha w (List.mem_cons.mpr (Or.inr h))) (hb w))
theorem goodIn_sub {big ws : List Cond} (hm : ∀ w ∈ ws, w ∈ big) (h : ws.all goodWord = true) : GoodIn big ws := fun w hw => ⟨hm w hw, good_of_word (List.all_eq_true.mp h w hw)⟩
/-! ===== END ===== -/

/-! ===== BEGIN exceptions that leave a method, and their catching by the caller (launches without stack traces) ===== -/
section VXA
/-! The laws vx_back, vx_callV, vx_callS, vx_callSW, vx_throw0, vx_throwS follow proofs of the library, with one case more: JvmDerived/Free/Laws.lean (Back.of_free), Shelf42/LK1.lean (callV, callS), Shelf/KitTraced.lean (throwNew0V, throwNewS). -/
/-- where a method has thrown q: the class by its name, the cell, what was written, the world -/
def vx_T (XC : String → State → State → Prop) (st : State) (q : Addr) (t : State) (mc ms : Nat) (free : Addr → Prop) : Prop :=
  ∃ (E : String) (ce : Cell) (L : List Loc), XC E st t ∧ t.heap[q]? = some ce ∧ ce.vm = .none ∧ st.vm.findClass E = some ce.cls ∧ st.WarmedH t.vm ∧ st.sameButNew ({ t with vm := st.vm } : State) L mc ms ∧ ∀ z ∈ L, free z.base
def vx_Q (Qc : Array Value → State → Outcome → State → Prop) (XC : String → State → State → Prop) (mc ms : Nat) (free : Addr → Prop) : Array Value → State → Outcome → State → Prop := fun a st o t =>
  (Qc a st o t ∧ ∃ L, FrameEnd st o t L mc ms ∧ ∀ q ∈ L, free q.base) ∨ ∃ q, o = .threw q ∧ vx_T XC st q t mc ms free
/-- a callee that returns or throws -/
def vx_Met (l : Launch) (y : MethodName) (ws : List Cond) (rm : Room) (Pc : Array Value → State → Prop) (Qc : Array Value → State → Outcome → State → Prop) (XC : String → State → State → Prop) (mc ms : Nat) (free : Addr → Prop) : Prop :=
  MetFree l y (headSpec ws rm) Pc (fun _ _ _ _ _ => True) (vx_Q Qc XC mc ms free)
def vx_Post (XC : String → State → State → Prop) (mc ms : Nat) (free : Addr → Prop) : Pt → Array Value → Addr → Pt → Prop := fun A a q B =>
  ∃ (g : JFrame) (mk : MethodId) (t : State) (L : List Loc) (E : String) (ce : Cell), B.U.heap = t.heap ∧ B.U.vm = t.vm ∧ XC E (A.U.calling g mk a) t ∧ t.heap[q]? = some ce ∧ ce.vm = .none ∧ A.U.vm.findClass E = some ce.cls ∧ B.locs = A.locs ++ L ∧ (∀ z ∈ L, free z.base) ∧ B.cells = A.cells + mc ∧ B.slots = A.slots + ms
def vx_Back (l : Launch) (R : Room) (p : Program) (e : Env) (below : List Frame) (s : State) (sargs : Array Value) (y : MethodName) (len W9 : Nat)
    (Pre : Pt → Array Value → Prop) (Post : Pt → Array Value → Option Value → Pt → Prop) (PostX : Pt → Array Value → Addr → Pt → Prop) : Prop :=
  ∀ (m : MethodId) (meth : Method) (c : Code) (A : Pt) (g : JFrame) (ig : Instr) (mk : MethodId) (a : Array Value),
    Stand p l e R s m sargs below meth c A.U A.locs A.cells A.slots → g.method = m → g.locals.size = c.maxLocals → decode c.code g.pc = .ok (ig, len) →
    2 * g.monitorRoom + (g.stack.map fun v => v.category).sum ≤ W9 → A.U.methodNamed? y = some mk → Pre A a →
    (∃ (v : Option Value) (B : Pt), Stand p l e R s m sargs below meth c B.U B.locs B.cells B.slots ∧ Post A a v B ∧
      Steps p.tables e below (doInvoke e (A.U.setTop g) [] mk a).1 (B.U.setTop { g with pc := g.pc + len, stack := v.toList ++ g.stack })) ∨
    (∃ (q : Addr) (B : Pt), Stand p l e R s m sargs below meth c B.U B.locs B.cells B.slots ∧ PostX A a q B ∧
      Steps p.tables e below (doInvoke e (A.U.setTop g) [] mk a).1 ((B.U.setTop g).pushFrame (.throwing q)))
section Payer
variable {l : Launch} {R : Room} {p : Program} {e : Env} {below : List Frame} {s : State} {sargs : Array Value} {y : MethodName} {len W9 : Nat}
theorem vx_back {ws : List Cond} {rm : Room} {Pc : Array Value → State → Prop} {Qc : Array Value → State → Outcome → State → Prop} {XC : String → State → State → Prop} {mc ms : Nat} {free : Addr → Prop} {bytes : ByteArray} {maxL : Nat} {ret : Option FieldType}
    (hM : vx_Met l y ws rm Pc Qc XC mc ms free) (hblind : FrameBlind Pc) (hrc : rm.cells = mc) (hrs : rm.slots = ms)
    (hframes : rm.frames + 1 ≤ R.frames) (hlocals : W9 + (maxL + 11) + rm.locals ≤ R.locals)
    (hws : ∀ w ∈ ws, ∀ a' U, s.WarmedH U.vm → w.before a' U = true) (hcode : Cond.code y bytes maxL ret ∈ ws) (hinit : ∀ a' U, s.WarmedH U.vm → (Cond.initialized y.cls).before a' U = true) :
    vx_Back l R p e below s sargs y len W9 (PreOf R mc ms Pc) (PostOf Qc mc ms free) (vx_Post XC mc ms free) := by
  intro m meth c A g ig mk a X hg hsize hdg hW hn hp
  have h1 : (headSpec ws rm).pre.before a A.U = true := atoms_intro fun w hw => hws w hw _ _ X.warmed
  have h2 : (Cond.code y bytes maxL ret).before a A.U = true := hws _ hcode _ _ X.warmed
  have h3 : (Cond.initialized y.cls).before a A.U = true := hinit _ _ X.warmed
  have h4 : A.cells + (headSpec ws rm).room.cells ≤ R.cells := by rw [show (headSpec ws rm).room.cells = mc from hrc]; exact hp.1
  have h5 : A.slots + (headSpec ws rm).room.slots ≤ R.slots := by rw [show (headSpec ws rm).room.slots = ms from hrs]; exact hp.2.1
  have hPc : Pc a (A.U.calling g mk a) := hblind _ _ _ _ hp.2.2
  obtain ⟨U, Ls, c0, s0⟩ := A
  dsimp only [Pt.U, Pt.locs, Pt.cells, Pt.slots] at h1 h2 h3 h4 h5 X hn hPc ⊢
  obtain ⟨methY, cY, hmY, hcY, -, hlY, -, -, -, -⟩ := Cond.code_spec hn h2
  obtain ⟨kY, hkY, -⟩ := className_of_methodNamed hn
  have hinitY : kY.init = .initialized := Cond.initialized_spec (findClass_of_methodNamed hn) hkY h3
  have h : At U g.method c below := by rw [hg]; exact X.here
  have hlocals9 : W9 + (maxL + 11) + (headSpec ws rm).room.locals ≤ R.locals := hlocals
  have happ : (headSpec ws rm).appliesLoose y e.platform (U.calling g mk a) = true :=
    Spec.appliesLoose_calling (g := g) h hdg hn hkY hinitY
      (X.room_calling (g := g) (R' := (headSpec ws rm).room) hsize hmY hcY hframes (by rw [hlY]; omega) h4 h5) h1
  obtain ⟨mid, hmid⟩ := h.above
  have hfr : (U.setTop g).frames = (.java g :: mid) ++ below := by rw [State.frames_setTop' g h.top, hmid]; rfl
  obtain ⟨o, s₂, hsteps, -, hend, hq⟩ := Steps.callFree hM p X.admits X.cas X.clock (acts := []) hfr happ hPc trivial
  have hq' : vx_Q Qc XC mc ms free a (U.calling g mk a) o s₂ := hq
  rw [State.frames_setTop' g h.top] at hend
  obtain ⟨g₀, hg0⟩ := Option.isSome_iff_exists.mp h.top
  obtain ⟨r, hr⟩ := State.topJava?_eq_some.mp hg0
  have hr' : (({ U with heap := s₂.heap, slotsUsed := s₂.slotsUsed } : State).setVm s₂.vm).frames = .java g₀ :: r := hr
  rcases hq' with ⟨hqc, L, hfe, hL⟩ | ⟨q, rfl, E, ce, L, hx, hce, hcv, hcl, hW₂, hsm, hL⟩
  · obtain ⟨⟨v, rfl⟩, hW₂, e2, q2, q3, q4, q5, q6⟩ := id hfe
    have e3 : s₂ = ({ (U.calling g mk a).setFrames s₂.frames with heap := s₂.heap, slotsUsed := s₂.slotsUsed } : State).setVm s₂.vm := by
      have : s₂ = ({ s₂ with vm := (U.calling g mk a).vm } : State).setVm s₂.vm := rfl
      rw [e2] at this
      exact this
    obtain ⟨c₂, i₂, len₂, hc₂, hd₂, hf₂⟩ := hend
    have hW' : U.WarmedH s₂.vm := hW₂
    have hcc : c₂ = c := by
      have h1 : s₂.code? g.method = U.code? g.method := by
        rw [State.code?_eq, State.code?_eq, hW'.alike.method?]
      exact Option.some.inj (hc₂.symm.trans (h1.trans h.code))
    subst hcc
    have hlen : len₂ = len := by rw [hdg] at hd₂; cases hd₂; rfl
    subst hlen
    have hs₂ : s₂ = (({ U with heap := s₂.heap, slotsUsed := s₂.slotsUsed } : State).setVm s₂.vm).setTop { g with pc := g.pc + len₂, stack := v.toList ++ g.stack } := by
      refine e3.trans ?_
      rw [hf₂, State.calling_eq h.top, State.setFrames_setFrames, State.setTop_of_frames _ hr', hr]
      rfl
    have hsame : U.sameButNew ({ U with heap := s₂.heap, slotsUsed := s₂.slotsUsed } : State) L mc ms := by
      refine ⟨?_, q2, q3, q4, q5, q6⟩
      obtain ⟨t, ht, -⟩ := State.frames_cons hr
      show ({ U with heap := s₂.heap, slotsUsed := s₂.slotsUsed } : State) = { U.setFrames U.frames with heap := s₂.heap, slotsUsed := s₂.slotsUsed }
      rw [State.setFrames_self ht]
    subst hg
    refine Or.inl ⟨v, ⟨(({ U with heap := s₂.heap, slotsUsed := s₂.slotsUsed } : State).setVm s₂.vm), Ls ++ L, c0 + mc, s0 + ms⟩,
      ⟨X.admits, X.cas, X.clock, X.frames, X.room, X.hears, X.method, X.code, (X.here.setHeapUsed s₂.heap s₂.slotsUsed).setVm hW'.alike, X.tail, State.WarmedH.trans X.warmed hW', X.limits, X.bytes, X.same.trans (hsame.setVm s.vm)⟩,
      ⟨g, mk, s₂, L, rfl, rfl, hqc, rfl, hL, rfl, rfl⟩, ?_⟩
    show Steps p.tables e below _ ((({ U with heap := s₂.heap, slotsUsed := s₂.slotsUsed } : State).setVm s₂.vm).setTop { g with pc := g.pc + len₂, stack := v.toList ++ g.stack })
    rw [← hs₂]
    exact hsteps
  · obtain ⟨e2, q2, q3, q4, q5, q6⟩ := id hsm
    have e3 : s₂ = ({ (U.calling g mk a).setFrames s₂.frames with heap := s₂.heap, slotsUsed := s₂.slotsUsed } : State).setVm s₂.vm := by
      have : s₂ = ({ s₂ with vm := (U.calling g mk a).vm } : State).setVm s₂.vm := rfl
      rw [e2] at this
      exact this
    have hf₂ : s₂.frames = .throwing q :: .java g :: U.frames.tail := hend
    have hW' : U.WarmedH s₂.vm := hW₂
    have hs₂ : s₂ = ((({ U with heap := s₂.heap, slotsUsed := s₂.slotsUsed } : State).setVm s₂.vm).setTop g).pushFrame (.throwing q) := by
      refine e3.trans ?_
      rw [hf₂, State.calling_eq h.top, State.setFrames_setFrames, State.pushFrame, State.frames_setTop _ hr', State.setTop_of_frames _ hr', State.setFrames_setFrames, hr]
      rfl
    have hsame : U.sameButNew ({ U with heap := s₂.heap, slotsUsed := s₂.slotsUsed } : State) L mc ms := by
      refine ⟨?_, q2, q3, q4, q5, q6⟩
      obtain ⟨t, ht, -⟩ := State.frames_cons hr
      show ({ U with heap := s₂.heap, slotsUsed := s₂.slotsUsed } : State) = { U.setFrames U.frames with heap := s₂.heap, slotsUsed := s₂.slotsUsed }
      rw [State.setFrames_self ht]
    subst hg
    refine Or.inr ⟨q, ⟨(({ U with heap := s₂.heap, slotsUsed := s₂.slotsUsed } : State).setVm s₂.vm), Ls ++ L, c0 + mc, s0 + ms⟩,
      ⟨X.admits, X.cas, X.clock, X.frames, X.room, X.hears, X.method, X.code, (X.here.setHeapUsed s₂.heap s₂.slotsUsed).setVm hW'.alike, X.tail, State.WarmedH.trans X.warmed hW', X.limits, X.bytes, X.same.trans (hsame.setVm s.vm)⟩,
      ⟨g, mk, s₂, L, E, ce, rfl, rfl, hx, hce, hcv, hcl, rfl, hL, rfl, rfl⟩, ?_⟩
    show Steps p.tables e below _ (((({ U with heap := s₂.heap, slotsUsed := s₂.slotsUsed } : State).setVm s₂.vm).setTop g).pushFrame (.throwing q))
    rw [← hs₂]
    exact hsteps
end Payer
section Calls
variable {p : Program} {l : Launch} {e : Env} {R : Room} {s : State} {m : MethodId} {args : Array Value} {below : List Frame} {meth : Method} {c : Code} {T : State} {locs : List Loc} {cells slots : Nat}
theorem vx_callV (X : Stand p l e R s m args below meth c T locs cells slots) (hexec : p.tables.exec = Jvm.exec) {own C : String} {index : Nat} {y : MethodName} {bytes : ByteArray} {maxL : Nat} {ret : Option FieldType}
    (hown : s.vm.findClass own = some m.cls) (hlink : (Cond.methodLink own index y).before args s = true) (hinst : (Cond.instanceMethod y).before args s = true) (hsel : (Cond.selects C y y).before args s = true)
    (hcode : (Cond.code y bytes maxL ret).before args s = true) (hy : y.cls ≠ "java/lang/invoke/MethodHandle" ∧ y.cls ≠ "java/lang/invoke/VarHandle")
    {W9 : Nat} {Pre : Pt → Array Value → Prop} {Post : Pt → Array Value → Option Value → Pt → Prop} {PostX : Pt → Array Value → Addr → Pt → Prop} (hK : vx_Back l R p e below s args y 3 W9 Pre Post PostX)
    {b : Addr} {cellB : Cell} (hcell : T.heap[b]? = some cellB) (hobj : cellB.vm.isStatics = false) (hcls : s.vm.findClass C = some cellB.cls)
    {g : JFrame} (hg : g.method = m) (hsize : g.locals.size = c.maxLocals) {argsL rest : List Value} (hlen : ∀ sig, parseMethodDescriptor y.desc = some sig → argsL.length = sig.parameters.length)
    (hstack : g.stack = argsL.reverse ++ .ref b :: rest) (hW : 2 * g.monitorRoom + (rest.map fun v => v.category).sum ≤ W9) (hdg : decode c.code g.pc = .ok (.invokevirtual index, 3))
    (hpre : ∀ vm₁, s.WarmedH vm₁ → Pre ⟨T.setVm vm₁, locs, cells, slots⟩ (Value.ref b :: argsL).toArray) :
    (∃ (v : Option Value) (vm₁ : Vm) (B : Pt), s.WarmedH vm₁ ∧ Stand p l e R s m args below meth c B.U B.locs B.cells B.slots ∧ Post ⟨T.setVm vm₁, locs, cells, slots⟩ (Value.ref b :: argsL).toArray v B ∧
      ∀ target, Steps p.tables e below (B.U.setTop { g with pc := g.pc + 3, stack := v.toList ++ rest }) target → Steps p.tables e below (T.setTop g) target) ∨
    (∃ (q : Addr) (vm₁ : Vm) (B : Pt), s.WarmedH vm₁ ∧ Stand p l e R s m args below meth c B.U B.locs B.cells B.slots ∧ PostX ⟨T.setVm vm₁, locs, cells, slots⟩ (Value.ref b :: argsL).toArray q B ∧
      Steps p.tables e below (T.setTop g) ((B.U.setTop { g with stack := rest }).pushFrame (.throwing q))) := by
  obtain ⟨mk, methM, hnamed, hmethM, hstM, habM⟩ := Cond.instanceMethod_spec hinst
  obtain ⟨methM', cM, hmethM', -, -, -, -, -, -, hsigM⟩ := Cond.code_spec hnamed hcode
  cases hmethM.symm.trans hmethM'
  obtain ⟨c2, r2, m2, q1, q2, q3, q4, kP, hkP, hkPi⟩ := Cond.selects_spec hsel
  cases hcls.symm.trans q1
  cases (State.methodFound?_of_named hnamed hy).symm.trans q2
  cases hnamed.symm.trans q3
  have hselP : selectMethod e.platform s.vm cellB.cls mk = .method mk := by rw [Launch.admits_selectMethod X.admits]; exact q4
  obtain ⟨vm₁, X₁, hstep₁⟩ := X.invokevirtual hexec hown hlink hnamed hmethM hstM hkP hkPi hy (a := b) (cell := cellB) hcell
    (fun z h => by rw [h] at hobj; cases hobj) hselP hmethM habM hkP hkPi (g := g) hg (argsL := argsL) (rest := rest) (hlen _ hsigM) hstack hdg
  rcases hK m meth c ⟨T.setVm vm₁, locs, cells, slots⟩ { g with stack := rest } (.invokevirtual index) mk (Value.ref b :: argsL).toArray X₁ hg hsize hdg hW (X₁.named hnamed) (hpre vm₁ X₁.warmed) with ⟨v, B, X', hpost, hsteps⟩ | ⟨q, B, X', hpost, hsteps⟩
  · exact Or.inl ⟨v, vm₁, B, X₁.warmed, X', hpost, fun target h => hstep₁ _ fun acts => by rw [doInvoke_state]; exact hsteps.trans h⟩
  · exact Or.inr ⟨q, vm₁, B, X₁.warmed, X', hpost, hstep₁ _ fun acts => by rw [doInvoke_state]; exact hsteps⟩
theorem vx_callS (X : Stand p l e R s m args below meth c T locs cells slots) (hexec : p.tables.exec = Jvm.exec) {own : String} {index : Nat} {y : MethodName} {bytes : ByteArray} {maxL : Nat} {ret : Option FieldType}
    (hown : s.vm.findClass own = some m.cls) (hlink : (Cond.methodLink own index y).before args s = true) (hstat : (Cond.static y).before args s = true) (hinit : (Cond.initialized y.cls).before args s = true)
    (hcode : (Cond.code y bytes maxL ret).before args s = true) (hy : y.cls ≠ "java/lang/invoke/MethodHandle" ∧ y.cls ≠ "java/lang/invoke/VarHandle")
    {W9 : Nat} {Pre : Pt → Array Value → Prop} {Post : Pt → Array Value → Option Value → Pt → Prop} {PostX : Pt → Array Value → Addr → Pt → Prop} (hK : vx_Back l R p e below s args y 3 W9 Pre Post PostX)
    {g : JFrame} (hg : g.method = m) (hsize : g.locals.size = c.maxLocals) {argsL rest : List Value} (hlen : ∀ sig, parseMethodDescriptor y.desc = some sig → argsL.length = sig.parameters.length)
    (hstack : g.stack = argsL.reverse ++ rest) (hW : 2 * g.monitorRoom + (rest.map fun v => v.category).sum ≤ W9) (hdg : decode c.code g.pc = .ok (.invokestatic index, 3))
    (hpre : ∀ vm₁, s.WarmedH vm₁ → Pre ⟨T.setVm vm₁, locs, cells, slots⟩ argsL.toArray) :
    (∃ (v : Option Value) (vm₁ : Vm) (B : Pt), s.WarmedH vm₁ ∧ Stand p l e R s m args below meth c B.U B.locs B.cells B.slots ∧ Post ⟨T.setVm vm₁, locs, cells, slots⟩ argsL.toArray v B ∧
      ∀ target, Steps p.tables e below (B.U.setTop { g with pc := g.pc + 3, stack := v.toList ++ rest }) target → Steps p.tables e below (T.setTop g) target) ∨
    (∃ (q : Addr) (vm₁ : Vm) (B : Pt), s.WarmedH vm₁ ∧ Stand p l e R s m args below meth c B.U B.locs B.cells B.slots ∧ PostX ⟨T.setVm vm₁, locs, cells, slots⟩ argsL.toArray q B ∧
      Steps p.tables e below (T.setTop g) ((B.U.setTop { g with stack := rest }).pushFrame (.throwing q))) := by
  obtain ⟨mk, hnamed⟩ := Cond.code_named hcode
  obtain ⟨methM, cM, hmethM, -, -, -, -, -, -, hsigM⟩ := Cond.code_spec hnamed hcode
  have hstatic : methM.isStatic = true := Cond.static_spec hnamed hmethM hstat
  obtain ⟨kP, hkP, -⟩ := className_of_methodNamed hnamed
  have hinitP : kP.init = .initialized := Cond.initialized_spec (findClass_of_methodNamed hnamed) hkP hinit
  obtain ⟨vm₁, X₁, hstep₁⟩ := X.invokestatic hexec hown hlink hnamed hmethM hstatic hkP hinitP hy (g := g) hg (argsL := argsL) (rest := rest) (hlen _ hsigM) hstack hdg
  rcases hK m meth c ⟨T.setVm vm₁, locs, cells, slots⟩ { g with stack := rest } (.invokestatic index) mk argsL.toArray X₁ hg hsize hdg hW (X₁.named hnamed) (hpre vm₁ X₁.warmed) with ⟨v, B, X', hpost, hsteps⟩ | ⟨q, B, X', hpost, hsteps⟩
  · exact Or.inl ⟨v, vm₁, B, X₁.warmed, X', hpost, fun target h => hstep₁ _ fun acts => by rw [doInvoke_state]; exact hsteps.trans h⟩
  · exact Or.inr ⟨q, vm₁, B, X₁.warmed, X', hpost, hstep₁ _ fun acts => by rw [doInvoke_state]; exact hsteps⟩
end Calls
theorem vx_cls {s : State} {T : State} {vm₁ : Vm} {E : String} {k : ClassId} (hW : s.WarmedH vm₁) (h : (T.setVm vm₁).vm.findClass E = some k) : s.vm.findClass E = some k := by
  have h1 : vm₁.findClass E = some k := h
  rw [hW.alike.findClass] at h1
  exact h1
/-- the method's frame g, with q thrown over it -/
def vx_W (p : Program) (l : Launch) (e : Env) (R : Room) (s : State) (m : MethodId) (args : Array Value) (below : List Frame) (meth : Method) (c : Code) (H : Heap) (locs : List Loc) (cells slots : Nat) (Q : State → Prop) (g : JFrame) (q : Addr) : Prop :=
  ∀ T : State, T.heap = H → Stand p l e R s m args below meth c T locs cells slots → ∃ t, Steps p.tables e below ((T.setTop g).pushFrame (.throwing q)) t ∧ Q t
def vx_Run (p : Program) (l : Launch) (e : Env) (R : Room) (s : State) (m : MethodId) (args : Array Value) (below : List Frame) (meth : Method) (c : Code) (H : Heap) (locs : List Loc) (cells slots mc ms : Nat) (g : JFrame) (rest : List Value) (Qa : State → Outcome → State → Prop) (XC : String → State → State → Prop) (free : Addr → Prop) : Prop :=
  ∀ T : State, T.heap = H → Stand p l e R s m args below meth c T locs cells slots →
    (∃ (v : Option Value) (st₀ t T' : State) (L : List Loc), st₀.heap = H ∧ Stand p l e R s m args below meth c T' (locs ++ L) (cells + mc) (slots + ms) ∧ (∀ q ∈ L, free q.base) ∧ T'.heap = t.heap ∧ T'.vm = t.vm ∧ Qa st₀ (.returned v) t ∧
      Goes p e below T g T' { g with pc := g.pc + 3, stack := v.toList ++ rest }) ∨
    (∃ (q : Addr) (st₀ t T' : State) (L : List Loc) (E : String) (ce : Cell), st₀.heap = H ∧ Stand p l e R s m args below meth c T' (locs ++ L) (cells + mc) (slots + ms) ∧ (∀ z ∈ L, free z.base) ∧ T'.heap = t.heap ∧ T'.vm = t.vm ∧ XC E st₀ t ∧ t.heap[q]? = some ce ∧ ce.vm = .none ∧ s.vm.findClass E = some ce.cls ∧
      Steps p.tables e below (T.setTop g) ((T'.setTop { g with stack := rest }).pushFrame (.throwing q)))
def vx_X {S : Type} (px : S → Prop) (B : String → S → State → Prop) (A : Nat → Prop) : String → State → State → Prop := fun E st t => ∃ u : S, px u ∧ B E u t ∧ va_F A st t
section Runs
variable {p : Program} {l : Launch} {e : Env} {R : Room} {s : State} {m : MethodId} {args : Array Value} {below : List Frame} {meth : Method} {c : Code} {H : Heap} {locs : List Loc} {cells slots : Nat}
variable {y : MethodName} {bytes cc : ByteArray} {maxL nL mc ms n index : Nat} {ret : Option FieldType} {ws : List Cond} {rm : Room} {Pc : Array Value → State → Prop} {Qc : Array Value → State → Outcome → State → Prop} {XC : String → State → State → Prop} {free : Addr → Prop} {Ts : List Cond} {own C : String} {b : Addr} {As rest : List Value} {g : JFrame}
theorem vx_callBack (cb : CallB R s args own index y bytes maxL ret ws rm mc ms n) (hM : vx_Met l y ws rm Pc Qc XC mc ms free) (hbl : FrameBlind Pc) : vx_Back l R p e below s args y 3 8 (PreOf R mc ms Pc) (PostOf Qc mc ms free) (vx_Post XC mc ms free) := by
  obtain ⟨hrc, hrs, hfr, hlo, hws, hcw, -, hini, -⟩ := cb
  exact vx_back (bytes := bytes) (maxL := maxL) (ret := ret) hM hbl hrc hrs hfr hlo hws hcw (fun a' U hW => word_at hW (Or.inl (by first | rfl | simp [Cond.onTables, Cond.keeps, Cond.steady])) hini)
theorem vx_runV (S : CallFix p m c cc nL s args Ts own) (hM : vx_Met l y ws rm Pc Qc XC mc ms free) (cw : CallW R s args own C index y bytes maxL ret ws rm mc ms n) (hp : PreV s H C b Pc As)
    (hg : g.method = m) (hn : As.length = n) (hsize : g.locals.size = nL) (hstack : g.stack = As.reverse ++ .ref b :: rest) (hW : 2 * g.monitorRoom + (rest.map fun v => v.category).sum ≤ 8) (hdg : decode cc g.pc = .ok (.invokevirtual index, 3)) (hf : cells + mc ≤ R.cells ∧ slots + ms ≤ R.slots) :
    vx_Run p l e R s m args below meth c H locs cells slots mc ms g rest (Qc (Value.ref b :: As).toArray) XC free := by
  have hK : vx_Back l R p e below s args y 3 8 (PreOf R mc ms Pc) (PostOf Qc mc ms free) (vx_Post XC mc ms free) := vx_callBack cw.1 hM hp.1
  obtain ⟨⟨-, -, -, -, -, -, hcode, -, hy, hlen, hl⟩, hin, hse⟩ := cw
  obtain ⟨hx, hb, hml, ho, -⟩ := S
  obtain ⟨-, ⟨cellB, hcB, hoB, hclB⟩, hPc⟩ := hp
  intro T hT X
  rcases vx_callV X hx (C := C) (bytes := bytes) (maxL := maxL) (ret := ret) ho hl hin hse hcode hy hK (by rw [hT]; exact hcB) hoB hclB hg (hsize.trans hml.symm) (argsL := As) (rest := rest) (fun sig h => hn.trans (hlen sig h)) hstack hW (by rw [hb]; exact hdg)
    (fun vm₁ hW₁ => ⟨hf.1, hf.2, hPc (T.setVm vm₁) hT hW₁⟩) with ⟨v, vm₁, ⟨U', l2, c2, s2⟩, hW₁, X', ⟨g', mk, t, L, e1, e2, hq, h1, hL, h2, h3⟩, st⟩ | ⟨q, vm₁, ⟨U', l2, c2, s2⟩, hW₁, X', ⟨g', mk, t, L, E, ce, e1, e2, hq, hce, hcv, hcl, h1, hL, h2, h3⟩, st⟩
  · dsimp only [Pt.U, Pt.locs, Pt.cells, Pt.slots] at X' e1 e2 h1 h2 h3 st
    subst h1; subst h2; subst h3
    exact Or.inl ⟨v, (T.setVm vm₁).calling g' mk (Value.ref b :: As).toArray, t, U', L, hT, X', hL, e1, e2, hq, st⟩
  · dsimp only [Pt.U, Pt.locs, Pt.cells, Pt.slots] at X' e1 e2 h1 h2 h3 st hcl
    subst h1; subst h2; subst h3
    exact Or.inr ⟨q, (T.setVm vm₁).calling g' mk (Value.ref b :: As).toArray, t, U', L, E, ce, hT, X', hL, e1, e2, hq, hce, hcv, vx_cls hW₁ hcl, st⟩
theorem vx_runS (S : CallFix p m c cc nL s args Ts own) (hM : vx_Met l y ws rm Pc Qc XC mc ms free) (cw : CallB R s args own index y bytes maxL ret ws rm mc ms n ∧ (Cond.static y).before args s = true) (hp : PreS s H Pc As)
    (hg : g.method = m) (hn : As.length = n) (hsize : g.locals.size = nL) (hstack : g.stack = As.reverse ++ rest) (hW : 2 * g.monitorRoom + (rest.map fun v => v.category).sum ≤ 8) (hdg : decode cc g.pc = .ok (.invokestatic index, 3)) (hf : cells + mc ≤ R.cells ∧ slots + ms ≤ R.slots) :
    vx_Run p l e R s m args below meth c H locs cells slots mc ms g rest (Qc As.toArray) XC free := by
  have hK : vx_Back l R p e below s args y 3 8 (PreOf R mc ms Pc) (PostOf Qc mc ms free) (vx_Post XC mc ms free) := vx_callBack cw.1 hM hp.1
  obtain ⟨⟨-, -, -, -, -, -, hcode, hini, hy, hlen, hl⟩, hstt⟩ := cw
  obtain ⟨hx, hb, hml, ho, -⟩ := S
  intro T hT X
  rcases vx_callS X hx (bytes := bytes) (maxL := maxL) (ret := ret) ho hl hstt hini hcode hy hK hg (hsize.trans hml.symm) (argsL := As) (rest := rest) (fun sig h => hn.trans (hlen sig h)) hstack hW (by rw [hb]; exact hdg)
    (fun vm₁ hW₁ => ⟨hf.1, hf.2, hp.2 (T.setVm vm₁) hT hW₁⟩) with ⟨v, vm₁, ⟨U', l2, c2, s2⟩, hW₁, X', ⟨g', mk, t, L, e1, e2, hq, h1, hL, h2, h3⟩, st⟩ | ⟨q, vm₁, ⟨U', l2, c2, s2⟩, hW₁, X', ⟨g', mk, t, L, E, ce, e1, e2, hq, hce, hcv, hcl, h1, hL, h2, h3⟩, st⟩
  · dsimp only [Pt.U, Pt.locs, Pt.cells, Pt.slots] at X' e1 e2 h1 h2 h3 st
    subst h1; subst h2; subst h3
    exact Or.inl ⟨v, (T.setVm vm₁).calling g' mk As.toArray, t, U', L, hT, X', hL, e1, e2, hq, st⟩
  · dsimp only [Pt.U, Pt.locs, Pt.cells, Pt.slots] at X' e1 e2 h1 h2 h3 st hcl
    subst h1; subst h2; subst h3
    exact Or.inr ⟨q, (T.setVm vm₁).calling g' mk As.toArray, t, U', L, E, ce, hT, X', hL, e1, e2, hq, hce, hcv, vx_cls hW₁ hcl, st⟩
end Runs
section Rows
variable {p : Program} {l : Launch} {e : Env} {R : Room} {s : State} {m : MethodId} {args : Array Value} {below : List Frame} {meth : Method} {c : Code} {H : Heap} {locs : List Loc} {cells slots : Nat} {Q : State → Prop}
variable {mc ms : Nat} {free : Addr → Prop} {A0 A1 : Nat → Prop} {H0 : Heap} {a : Array Value} {pc : Nat} {ls : Array Slot} {st0 rest : List Value}
theorem vx_keep {st₀ t T' : State} {L : List Loc} (h0 : st₀.heap = H) (e1 : T'.heap = t.heap) (hS : va_S A0 H0 H locs) (hA : ∀ q, q < H.size → A1 q → A0 q) (hf : ∀ q, free q → A0 q) (hL : ∀ q ∈ L, free q.base) (hF : va_F A1 st₀ t) :
    H.size ≤ T'.heap.size ∧ (∀ q : Nat, q < H.size → ¬ A1 q → T'.heap[q]? = H[q]?) ∧ va_S A0 H0 T'.heap (locs ++ L) := by
  obtain ⟨hz, hk⟩ := hF
  rw [h0] at hz hk
  exact ⟨by rw [e1]; exact hz, fun q h1 h2 => by rw [e1]; exact hk q h1 h2,
    ⟨Nat.le_trans hS.1 (by rw [e1]; exact hz), fun q h1 h2 => by rw [e1, hk q (Nat.lt_of_lt_of_le h1 hS.1) (fun z => h2 (hA q (Nat.lt_of_lt_of_le h1 hS.1) z))]; exact hS.2.1 q h1 h2, fun q hq => by
      rcases List.mem_append.mp hq with h | h
      · exact hS.2.2 q h
      · exact hf _ (hL q h)⟩⟩
theorem vx_calli {S SX : Type} {post : Int32 → S → Prop} {px : SX → Prop} {B : S → State → Prop} {BX : String → SX → State → Prop} {AX : Nat → Prop} (hr : vx_Run p l e R s m args below meth c H locs cells slots mc ms (F0 m pc ls st0) rest (va_Qi post B A1 a) (vx_X px BX AX) free) (hS : va_S A0 H0 H locs) (hA : ∀ q, q < H.size → A1 q → A0 q) (hf : ∀ q, free q → A0 q) (hAX : ∀ q, q < H.size → AX q → A0 q)
    (kx : ∀ (E : String) (ce : Cell) (q9 : Addr) (u : SX) (t : State) (H1 : Heap) (locs1 : List Loc), t.heap = H1 → s.vm.Alike t.vm → px u → BX E u t → H.size ≤ H1.size → (∀ q : Nat, q < H.size → ¬ AX q → H1[q]? = H[q]?) → va_S A0 H0 H1 locs1 → H1[q9]? = some ce → ce.vm = .none → s.vm.findClass E = some ce.cls → vx_W p l e R s m args below meth c H1 locs1 (cells + mc) (slots + ms) Q (F0 m pc ls rest) q9)
    (kk : ∀ (r : Int32) (u : S) (t : State) (H1 : Heap) (locs1 : List Loc), t.heap = H1 → s.vm.Alike t.vm → post r u → B u t → H.size ≤ H1.size → (∀ q : Nat, q < H.size → ¬ A1 q → H1[q]? = H[q]?) → va_S A0 H0 H1 locs1 → W p l e R s m args below meth c H1 locs1 (cells + mc) (slots + ms) Q (F0 m (pc + 3) ls (.int r :: rest))) : W p l e R s m args below meth c H locs cells slots Q (F0 m pc ls st0) := by
  intro T hT X
  rcases hr T hT X with ⟨v, st₀, t, T', L, h0, X', hL, e1, e2, ⟨⟨r, u, hv, hp, hb⟩, hF⟩, st⟩ | ⟨q, st₀, t, T', L, E, ce, h0, X', hL, e1, e2, ⟨u, hp, hb, hF⟩, hce, hcv, hcl, st⟩
  · cases hv
    obtain ⟨k1, k2, k3⟩ := vx_keep h0 e1 hS hA hf hL hF
    obtain ⟨t2, a1, b1⟩ := kk r u t T'.heap (locs ++ L) e1.symm (by rw [← e2]; exact X'.warmed.alike) hp hb k1 k2 k3 T' rfl X'
    exact ⟨t2, st t2 a1, b1⟩
  · obtain ⟨k1, k2, k3⟩ := vx_keep h0 e1 hS hAX hf hL hF
    obtain ⟨t2, a1, b1⟩ := kx E ce q u t T'.heap (locs ++ L) e1.symm (by rw [← e2]; exact X'.warmed.alike) hp hb k1 k2 k3 (by rw [e1]; exact hce) hcv hcl T' rfl X'
    exact ⟨t2, st.trans a1, b1⟩
theorem vx_calll {S SX : Type} {post : Int64 → S → Prop} {px : SX → Prop} {B : S → State → Prop} {BX : String → SX → State → Prop} {AX : Nat → Prop} (hr : vx_Run p l e R s m args below meth c H locs cells slots mc ms (F0 m pc ls st0) rest (va_Ql post B A1 a) (vx_X px BX AX) free) (hS : va_S A0 H0 H locs) (hA : ∀ q, q < H.size → A1 q → A0 q) (hf : ∀ q, free q → A0 q) (hAX : ∀ q, q < H.size → AX q → A0 q)
    (kx : ∀ (E : String) (ce : Cell) (q9 : Addr) (u : SX) (t : State) (H1 : Heap) (locs1 : List Loc), t.heap = H1 → s.vm.Alike t.vm → px u → BX E u t → H.size ≤ H1.size → (∀ q : Nat, q < H.size → ¬ AX q → H1[q]? = H[q]?) → va_S A0 H0 H1 locs1 → H1[q9]? = some ce → ce.vm = .none → s.vm.findClass E = some ce.cls → vx_W p l e R s m args below meth c H1 locs1 (cells + mc) (slots + ms) Q (F0 m pc ls rest) q9)
    (kk : ∀ (r : Int64) (u : S) (t : State) (H1 : Heap) (locs1 : List Loc), t.heap = H1 → s.vm.Alike t.vm → post r u → B u t → H.size ≤ H1.size → (∀ q : Nat, q < H.size → ¬ A1 q → H1[q]? = H[q]?) → va_S A0 H0 H1 locs1 → W p l e R s m args below meth c H1 locs1 (cells + mc) (slots + ms) Q (F0 m (pc + 3) ls (.long r :: rest))) : W p l e R s m args below meth c H locs cells slots Q (F0 m pc ls st0) := by
  intro T hT X
  rcases hr T hT X with ⟨v, st₀, t, T', L, h0, X', hL, e1, e2, ⟨⟨r, u, hv, hp, hb⟩, hF⟩, st⟩ | ⟨q, st₀, t, T', L, E, ce, h0, X', hL, e1, e2, ⟨u, hp, hb, hF⟩, hce, hcv, hcl, st⟩
  · cases hv
    obtain ⟨k1, k2, k3⟩ := vx_keep h0 e1 hS hA hf hL hF
    obtain ⟨t2, a1, b1⟩ := kk r u t T'.heap (locs ++ L) e1.symm (by rw [← e2]; exact X'.warmed.alike) hp hb k1 k2 k3 T' rfl X'
    exact ⟨t2, st t2 a1, b1⟩
  · obtain ⟨k1, k2, k3⟩ := vx_keep h0 e1 hS hAX hf hL hF
    obtain ⟨t2, a1, b1⟩ := kx E ce q u t T'.heap (locs ++ L) e1.symm (by rw [← e2]; exact X'.warmed.alike) hp hb k1 k2 k3 (by rw [e1]; exact hce) hcv hcl T' rfl X'
    exact ⟨t2, st.trans a1, b1⟩
theorem vx_callf {S SX : Type} {post : UInt32 → S → Prop} {px : SX → Prop} {B : S → State → Prop} {BX : String → SX → State → Prop} {AX : Nat → Prop} (hr : vx_Run p l e R s m args below meth c H locs cells slots mc ms (F0 m pc ls st0) rest (va_Qf post B A1 a) (vx_X px BX AX) free) (hS : va_S A0 H0 H locs) (hA : ∀ q, q < H.size → A1 q → A0 q) (hf : ∀ q, free q → A0 q) (hAX : ∀ q, q < H.size → AX q → A0 q)
    (kx : ∀ (E : String) (ce : Cell) (q9 : Addr) (u : SX) (t : State) (H1 : Heap) (locs1 : List Loc), t.heap = H1 → s.vm.Alike t.vm → px u → BX E u t → H.size ≤ H1.size → (∀ q : Nat, q < H.size → ¬ AX q → H1[q]? = H[q]?) → va_S A0 H0 H1 locs1 → H1[q9]? = some ce → ce.vm = .none → s.vm.findClass E = some ce.cls → vx_W p l e R s m args below meth c H1 locs1 (cells + mc) (slots + ms) Q (F0 m pc ls rest) q9)
    (kk : ∀ (r : UInt32) (u : S) (t : State) (H1 : Heap) (locs1 : List Loc), t.heap = H1 → s.vm.Alike t.vm → post r u → B u t → H.size ≤ H1.size → (∀ q : Nat, q < H.size → ¬ A1 q → H1[q]? = H[q]?) → va_S A0 H0 H1 locs1 → W p l e R s m args below meth c H1 locs1 (cells + mc) (slots + ms) Q (F0 m (pc + 3) ls (.float r :: rest))) : W p l e R s m args below meth c H locs cells slots Q (F0 m pc ls st0) := by
  intro T hT X
  rcases hr T hT X with ⟨v, st₀, t, T', L, h0, X', hL, e1, e2, ⟨⟨r, u, hv, hp, hb⟩, hF⟩, st⟩ | ⟨q, st₀, t, T', L, E, ce, h0, X', hL, e1, e2, ⟨u, hp, hb, hF⟩, hce, hcv, hcl, st⟩
  · cases hv
    obtain ⟨k1, k2, k3⟩ := vx_keep h0 e1 hS hA hf hL hF
    obtain ⟨t2, a1, b1⟩ := kk r u t T'.heap (locs ++ L) e1.symm (by rw [← e2]; exact X'.warmed.alike) hp hb k1 k2 k3 T' rfl X'
    exact ⟨t2, st t2 a1, b1⟩
  · obtain ⟨k1, k2, k3⟩ := vx_keep h0 e1 hS hAX hf hL hF
    obtain ⟨t2, a1, b1⟩ := kx E ce q u t T'.heap (locs ++ L) e1.symm (by rw [← e2]; exact X'.warmed.alike) hp hb k1 k2 k3 (by rw [e1]; exact hce) hcv hcl T' rfl X'
    exact ⟨t2, st.trans a1, b1⟩
theorem vx_calld {S SX : Type} {post : UInt64 → S → Prop} {px : SX → Prop} {B : S → State → Prop} {BX : String → SX → State → Prop} {AX : Nat → Prop} (hr : vx_Run p l e R s m args below meth c H locs cells slots mc ms (F0 m pc ls st0) rest (va_Qd post B A1 a) (vx_X px BX AX) free) (hS : va_S A0 H0 H locs) (hA : ∀ q, q < H.size → A1 q → A0 q) (hf : ∀ q, free q → A0 q) (hAX : ∀ q, q < H.size → AX q → A0 q)
    (kx : ∀ (E : String) (ce : Cell) (q9 : Addr) (u : SX) (t : State) (H1 : Heap) (locs1 : List Loc), t.heap = H1 → s.vm.Alike t.vm → px u → BX E u t → H.size ≤ H1.size → (∀ q : Nat, q < H.size → ¬ AX q → H1[q]? = H[q]?) → va_S A0 H0 H1 locs1 → H1[q9]? = some ce → ce.vm = .none → s.vm.findClass E = some ce.cls → vx_W p l e R s m args below meth c H1 locs1 (cells + mc) (slots + ms) Q (F0 m pc ls rest) q9)
    (kk : ∀ (r : UInt64) (u : S) (t : State) (H1 : Heap) (locs1 : List Loc), t.heap = H1 → s.vm.Alike t.vm → post r u → B u t → H.size ≤ H1.size → (∀ q : Nat, q < H.size → ¬ A1 q → H1[q]? = H[q]?) → va_S A0 H0 H1 locs1 → W p l e R s m args below meth c H1 locs1 (cells + mc) (slots + ms) Q (F0 m (pc + 3) ls (.double r :: rest))) : W p l e R s m args below meth c H locs cells slots Q (F0 m pc ls st0) := by
  intro T hT X
  rcases hr T hT X with ⟨v, st₀, t, T', L, h0, X', hL, e1, e2, ⟨⟨r, u, hv, hp, hb⟩, hF⟩, st⟩ | ⟨q, st₀, t, T', L, E, ce, h0, X', hL, e1, e2, ⟨u, hp, hb, hF⟩, hce, hcv, hcl, st⟩
  · cases hv
    obtain ⟨k1, k2, k3⟩ := vx_keep h0 e1 hS hA hf hL hF
    obtain ⟨t2, a1, b1⟩ := kk r u t T'.heap (locs ++ L) e1.symm (by rw [← e2]; exact X'.warmed.alike) hp hb k1 k2 k3 T' rfl X'
    exact ⟨t2, st t2 a1, b1⟩
  · obtain ⟨k1, k2, k3⟩ := vx_keep h0 e1 hS hAX hf hL hF
    obtain ⟨t2, a1, b1⟩ := kx E ce q u t T'.heap (locs ++ L) e1.symm (by rw [← e2]; exact X'.warmed.alike) hp hb k1 k2 k3 (by rw [e1]; exact hce) hcv hcl T' rfl X'
    exact ⟨t2, st.trans a1, b1⟩
theorem vx_callv {S SX : Type} {post : S → Prop} {px : SX → Prop} {B : S → State → Prop} {BX : String → SX → State → Prop} {AX : Nat → Prop} (hr : vx_Run p l e R s m args below meth c H locs cells slots mc ms (F0 m pc ls st0) rest (va_Qv post B A1 a) (vx_X px BX AX) free) (hS : va_S A0 H0 H locs) (hA : ∀ q, q < H.size → A1 q → A0 q) (hf : ∀ q, free q → A0 q) (hAX : ∀ q, q < H.size → AX q → A0 q)
    (kx : ∀ (E : String) (ce : Cell) (q9 : Addr) (u : SX) (t : State) (H1 : Heap) (locs1 : List Loc), t.heap = H1 → s.vm.Alike t.vm → px u → BX E u t → H.size ≤ H1.size → (∀ q : Nat, q < H.size → ¬ AX q → H1[q]? = H[q]?) → va_S A0 H0 H1 locs1 → H1[q9]? = some ce → ce.vm = .none → s.vm.findClass E = some ce.cls → vx_W p l e R s m args below meth c H1 locs1 (cells + mc) (slots + ms) Q (F0 m pc ls rest) q9)
    (kk : ∀ (u : S) (t : State) (H1 : Heap) (locs1 : List Loc), t.heap = H1 → s.vm.Alike t.vm → post u → B u t → H.size ≤ H1.size → (∀ q : Nat, q < H.size → ¬ A1 q → H1[q]? = H[q]?) → va_S A0 H0 H1 locs1 → W p l e R s m args below meth c H1 locs1 (cells + mc) (slots + ms) Q (F0 m (pc + 3) ls (rest))) : W p l e R s m args below meth c H locs cells slots Q (F0 m pc ls st0) := by
  intro T hT X
  rcases hr T hT X with ⟨v, st₀, t, T', L, h0, X', hL, e1, e2, ⟨⟨u, hv, hp, hb⟩, hF⟩, st⟩ | ⟨q, st₀, t, T', L, E, ce, h0, X', hL, e1, e2, ⟨u, hp, hb, hF⟩, hce, hcv, hcl, st⟩
  · cases hv
    obtain ⟨k1, k2, k3⟩ := vx_keep h0 e1 hS hA hf hL hF
    obtain ⟨t2, a1, b1⟩ := kk u t T'.heap (locs ++ L) e1.symm (by rw [← e2]; exact X'.warmed.alike) hp hb k1 k2 k3 T' rfl X'
    exact ⟨t2, st t2 a1, b1⟩
  · obtain ⟨k1, k2, k3⟩ := vx_keep h0 e1 hS hAX hf hL hF
    obtain ⟨t2, a1, b1⟩ := kx E ce q u t T'.heap (locs ++ L) e1.symm (by rw [← e2]; exact X'.warmed.alike) hp hb k1 k2 k3 (by rw [e1]; exact hce) hcv hcl T' rfl X'
    exact ⟨t2, st.trans a1, b1⟩
/-- caught by the row x of this method's table; the rows ahead don't take it -/
theorem vx_catch {own name : String} {E : String} {ce : Cell} {q : Addr} (hown : s.vm.findClass own = some m.cls) (pre : List ExceptionTableEntry) (x : ExceptionTableEntry) (suf : List ExceptionTableEntry) (hsplit : c.exceptionTable.toList = pre ++ x :: suf)
    (hpass : ∀ z ∈ pre, covers z pc = false ∨ (z.catchType ≠ 0 ∧ ∃ nm : String, (Cond.classLink own z.catchType nm).before args s = true ∧ va_Nc E nm s)) (hx : covers x pc = true) (h0 : x.catchType ≠ 0)
    (hlink : (Cond.classLink own x.catchType name).before args s = true) (hcast : (Cond.castable E name).before args s = true) (hcell : H[q]? = some ce) (hv : ce.vm = .none) (hcl : s.vm.findClass E = some ce.cls)
    (kk : W p l e R s m args below meth c H locs cells slots Q (F0 m x.handlerPc ls [.ref q])) : vx_W p l e R s m args below meth c H locs cells slots Q (F0 m pc ls rest) q := by
  intro T hT X
  have hpl : e.platform.magicAccessors = ({} : Platform).magicAccessors := by rw [X.admits.platform]
  obtain ⟨c3, c4, hc3, hc4, hasg⟩ := Cond.castable_spec hcast
  cases Option.some.inj (hc3.symm.trans hcl)
  obtain ⟨c5, hc5, hcl5⟩ := Cond.classLink_spec hown hlink e.platform hpl
  cases Option.some.inj (hc4.symm.trans hc5)
  obtain ⟨vm', X', st⟩ := X.thenCaughtThrough q (g := F0 m pc ls rest) rfl (Steps.refl _) (by rw [hT]; exact hcell) (by rw [hv]; rfl) (by obtain ⟨k9, h9, -⟩ := Vm.findClass_spec hcl; exact ⟨k9, h9⟩) pre x suf hsplit
    (fun z hz => by
      rcases hpass z hz with h | ⟨hz0, nm, hl1, hn1⟩
      · exact Or.inl h
      · obtain ⟨c6, hc6, hcl6⟩ := Cond.classLink_spec hown hl1 e.platform hpl
        obtain ⟨a8, b8, h1, h2, h3⟩ := hn1
        cases Option.some.inj (h1.symm.trans hcl)
        cases Option.some.inj (h2.symm.trans hc6)
        exact Or.inr ⟨hz0, _, hcl6, h3⟩) hx (Or.inr ⟨h0, c4, hcl5, hasg⟩)
  obtain ⟨t, a1, b1⟩ := kk (T.setVm vm') hT X'
  exact ⟨t, st.trans a1, b1⟩
end Rows
section Ends
variable {p : Program} {l : Launch} {e : Env} {R : Room} {s : State} {m : MethodId} {args : Array Value} {below : List Frame} {meth : Method} {c : Code} {H : Heap} {locs : List Loc} {cells slots : Nat} {Q : State → Prop}
variable {mc ms : Nat} {free : Addr → Prop} {A0 A1 : Nat → Prop} {H0 : Heap} {a : Array Value} {ls : Array Slot} {st0 rest : List Value}
variable {Qc : Array Value → State → Outcome → State → Prop} {XC : String → State → State → Prop}
/-- what a body that may throw owes at its end -/
def vx_MQ (below : List Frame) (Qc : Array Value → State → Outcome → State → Prop) (XC : String → State → State → Prop) (a : Array Value) (s : State) (mc ms : Nat) (free : Addr → Prop) : State → Prop := fun t =>
  ∃ o, t.status = .running ∧ Ended t below o ∧ vx_Q Qc XC mc ms free a s o t
theorem vx_ret {g : JFrame} {mc ms : Nat} (k : W p l e R s m args below meth c H locs cells slots (MQ below Qc args s mc ms free) g) : W p l e R s m args below meth c H locs cells slots (vx_MQ below Qc XC args s mc ms free) g := by
  intro T hT X
  obtain ⟨t, a1, o, b1, b2, b3, b4⟩ := k T hT X
  exact ⟨t, a1, o, b1, b2, Or.inl ⟨b3, b4⟩⟩
/-- not caught here: it goes on to the caller -/
theorem vx_widen {g : JFrame} {q : Addr} {k n : Nat} (h1 : cells ≤ k) (h2 : slots ≤ n) (kk : vx_W p l e R s m args below meth c H locs k n Q g q) : vx_W p l e R s m args below meth c H locs cells slots Q g q := fun T hT X => kk T hT (stand_widen X h1 h2)
theorem vx_out {pc : Nat} {E : String} {ce : Cell} {q : Addr} {mc ms : Nat} (hout : ∀ x ∈ c.exceptionTable.toList, covers x pc = false) (hlocks : meth.locks = false) (hcell : H[q]? = some ce) (hv : ce.vm = .none) (hcl : s.vm.findClass E = some ce.cls)
    (hx : ∀ t : State, t.heap = H → s.vm.Alike t.vm → XC E s t) (hf : ∀ z ∈ locs, free z.base) (hc : cells ≤ mc) (hs : slots ≤ ms) :
    vx_W p l e R s m args below meth c H locs cells slots (vx_MQ below Qc XC args s mc ms free) (F0 m pc ls rest) q := by
  intro T hT X
  obtain ⟨st1, hrun, hend, hW, hsm⟩ := X.leaveThrown q (g := F0 m pc ls rest) rfl rfl rfl hout hlocks
  have hcell9 : (T.setFrames (.throwing q :: below)).heap[q]? = some ce := by
    show T.heap[q]? = some ce
    rw [hT]; exact hcell
  exact ⟨_, st1, .threw q, hrun, hend, Or.inr ⟨q, rfl, E, ce, locs, hx _ hT hW.alike, hcell9, hv, hcl, hW, hsm.mono hc hs, hf⟩⟩
theorem vx_frame {U : State} {k n : Nat} (h : s.sameButNew ({ U with vm := s.vm } : State) locs k n) : s.heap.size ≤ U.heap.size ∧ ∀ q : Nat, q < s.heap.size → (∀ z ∈ locs, z.base ≠ q) → U.heap[q]? = s.heap[q]? := by
  obtain ⟨-, h2, -, -, -, h6⟩ := h
  refine ⟨h2, fun q hq hz => ?_⟩
  obtain ⟨c9, e1, e2, e3, e4⟩ := h6 q _ (Array.getElem?_eq_getElem hq)
  have hs : c9.slots = (s.heap[q]).slots := Array.ext_getElem? fun i => e4 i fun hm => hz _ hm rfl
  have h9 : c9 = s.heap[q] := by
    rw [hs] at e2
    exact e2
  have e5 : U.heap[q]? = some c9 := e1
  rw [e5, h9, Array.getElem?_eq_getElem hq]
/-- the words of a throw but the four that speak of the heap -/
def vx_no (w : Cond) : Bool := decide (w ≠ .isRef (.static Bundle.tN "UNASSIGNED_STACK" Bundle.steD)) && decide (w ≠ .isRef (.static Bundle.tN "SUPPRESSED_SENTINEL" Bundle.listD)) && decide (w ≠ .laysStatic Bundle.tN "UNASSIGNED_STACK" Bundle.steD) && decide (w ≠ .laysStatic Bundle.tN "SUPPRESSED_SENTINEL" Bundle.listD)
def vx_at0 (own : String) (ic : Nat) (X : String) (names : List String) : List Cond := (Bundle.ownAtoms0 own ic X names).filter vx_no
def vx_atS (own : String) (ic : Nat) (X : String) (names : List String) : List Cond := (Bundle.ownAtoms own ic X names).filter vx_no
/-- a word that the tables alone decide, or a good one -/
def vx_ot (w : Cond) : Bool := w.onTables || goodWord w
theorem vx_ot_at {args a' : Array Value} {s U : State} {w : Cond} (hW : s.WarmedH U.vm) (hvm : s.vm = U.vm) (hg : vx_ot w = true) (h : w.before args s = true) : w.before a' U = true := by
  simp only [vx_ot, Bool.or_eq_true] at hg
  rcases hg with hg | hg
  · exact va_tabs hg hvm h
  · exact word_at hW (good_of_word hg) h
/-- a list's words: the good ones out of the method's own list, the others by premises of their own -/
theorem vx_hat {args : Array Value} {s : State} {L B : List Cond} (h1 : ∀ w ∈ L.filter goodWord, w.before args s = true) (h2 : ∀ w ∈ L.filter (fun w => !goodWord w), w ∈ B) (h3 : ∀ w ∈ B, w.before args s = true) : ∀ w ∈ L, w.before args s = true := by
  intro w hw
  by_cases g : goodWord w = true
  · exact h1 w (List.mem_filter.mpr ⟨hw, g⟩)
  · refine h3 w (h2 w (List.mem_filter.mpr ⟨hw, ?_⟩))
    show (!goodWord w) = true
    cases hgw : goodWord w
    · rfl
    · exact absurd hgw g
theorem vx_c {args : Array Value} {s : State} {w : Cond} {B : List Cond} (h : w.before args s = true) (t : ∀ w ∈ B, w.before args s = true) : ∀ w' ∈ w :: B, w'.before args s = true := fun w' h' => (List.mem_cons.mp h').elim (fun e => by rw [e]; exact h) (t w')
theorem vx_n {args : Array Value} {s : State} : ∀ w ∈ ([] : List Cond), w.before args s = true := fun _ h => nomatch h
theorem vx_own {args : Array Value} {s : State} {L : List Cond} (h1 : ∀ w ∈ L.filter vx_no, w.before args s = true)
    (hU : (Cond.isRef (.static Bundle.tN "UNASSIGNED_STACK" Bundle.steD)).before args s = true) (hN : (Cond.isRef (.static Bundle.tN "SUPPRESSED_SENTINEL" Bundle.listD)).before args s = true)
    (lU : (Cond.laysStatic Bundle.tN "UNASSIGNED_STACK" Bundle.steD).before args s = true) (lN : (Cond.laysStatic Bundle.tN "SUPPRESSED_SENTINEL" Bundle.listD).before args s = true) : ∀ w ∈ L, w.before args s = true := by
  intro w hw
  by_cases e1 : w = .isRef (.static Bundle.tN "UNASSIGNED_STACK" Bundle.steD)
  · rw [e1]; exact hU
  · by_cases e2 : w = .isRef (.static Bundle.tN "SUPPRESSED_SENTINEL" Bundle.listD)
    · rw [e2]; exact hN
    · by_cases e3 : w = .laysStatic Bundle.tN "UNASSIGNED_STACK" Bundle.steD
      · rw [e3]; exact lU
      · by_cases e4 : w = .laysStatic Bundle.tN "SUPPRESSED_SENTINEL" Bundle.listD
        · rw [e4]; exact lN
        · exact h1 w (List.mem_filter.mpr ⟨hw, by unfold vx_no; rw [decide_eq_true e1, decide_eq_true e2, decide_eq_true e3, decide_eq_true e4]; rfl⟩)
/-- where a static field lies, its class's statics cell in H -/
def vx_L (C n d : String) (A : Nat → Prop) (U : State) (H : Heap) : Prop := ∃ (c : ClassId) (k : Class) (i : Nat) (f : Field) (a : Nat) (cell : Cell), U.vm.findClass C = some c ∧ U.fieldFound? C n d = some (c, k, i, f) ∧ f.isStatic = true ∧ k.statics = some a ∧ H[a]? = some cell ∧ cell.vm.isStatics = true ∧ cell.cls = c ∧ f.slot < cell.slots.size ∧ k.staticTypes[f.slot]? = some f.type ∧ ¬ A a
theorem vx_L.moved {C n d : String} {A : Nat → Prop} {u U : State} {H : Heap} (hvm : u.vm.Alike U.vm) (h : vx_L C n d A u H) : vx_L C n d A U H := by
  obtain ⟨c, k, i, f, a, cell, h1, h2, h3, h4, h5, h6, h7, h8, h9, h10⟩ := h
  obtain ⟨k', hi', he⟩ := State.fieldFound?_setVm hvm h2
  exact ⟨c, k', i, f, a, cell, by rw [hvm.findClass]; exact h1, hi', h3, by rw [he]; exact h4, h5, h6, h7, h8, by rw [he]; exact h9, h10⟩
theorem vx_L.kept {C n d : String} {A : Nat → Prop} {U : State} {H H1 : Heap} (h : vx_L C n d A U H) (hq : ∀ a : Nat, a < H.size → ¬ A a → H1[a]? = H[a]?) : vx_L C n d A U H1 := by
  obtain ⟨c, k, i, f, a, cell, h1, h2, h3, h4, h5, h6, h7, h8, h9, h10⟩ := h
  exact ⟨c, k, i, f, a, cell, h1, h2, h3, h4, by rw [hq a (Array.getElem?_eq_some_iff.mp h5).1 h10]; exact h5, h6, h7, h8, h9, h10⟩
theorem vx_L.narrow {C n d : String} {A B : Nat → Prop} {U : State} {H : Heap} (h : vx_L C n d A U H) (hAB : ∀ q, B q → A q) : vx_L C n d B U H := by
  obtain ⟨c, k, i, f, a, cell, h1, h2, h3, h4, h5, h6, h7, h8, h9, h10⟩ := h
  exact ⟨c, k, i, f, a, cell, h1, h2, h3, h4, h5, h6, h7, h8, h9, fun z => h10 (hAB _ z)⟩
theorem vx_L.word {C n d : String} {A : Nat → Prop} {s : State} {args : Array Value} (h : vx_L C n d A s s.heap) : (Cond.laysStatic C n d).before args s = true := by
  obtain ⟨c, k, i, f, a, cell, h1, h2, h3, h4, h5, h6, h7, h8, h9, -⟩ := h
  show (Cond.laysStatic C n d).holds args s none s [] = true
  exact Cond.laysStatic_of h1 h2 h3 h4 h5 h6 h7 h8 h9
/-- .. and what it holds: null or some reference -/
def vx_Zq (C n d : String) (A : Nat → Prop) (U : State) (H : Heap) : Prop := va_Zq C n d A U H ∧ vx_L C n d A U H
theorem vx_Zq.moved {C n d : String} {A : Nat → Prop} {u U : State} {H : Heap} (hvm : u.vm.Alike U.vm) (h : vx_Zq C n d A u H) : vx_Zq C n d A U H := ⟨va_Zq.moved hvm h.1, vx_L.moved hvm h.2⟩
theorem vx_Zq.kept {C n d : String} {A : Nat → Prop} {U : State} {H H1 : Heap} (h : vx_Zq C n d A U H) (hq : ∀ a : Nat, a < H.size → ¬ A a → H1[a]? = H[a]?) : vx_Zq C n d A U H1 := ⟨va_Zq.kept h.1 hq, vx_L.kept h.2 hq⟩
theorem vx_Zq.narrow {C n d : String} {A B : Nat → Prop} {U : State} {H : Heap} (h : vx_Zq C n d A U H) (hAB : ∀ q, B q → A q) : vx_Zq C n d B U H := ⟨va_Zq.narrow h.1 hAB, vx_L.narrow h.2 hAB⟩
theorem vx_Zqof {args : Array Value} {s : State} {C n d : String} {A : Nat → Prop} (hl : (Cond.laysStatic C n d).before args s = true) (hini : (Cond.initialized C).before args s = true) (h : (Cond.isRef (.static C n d)).before args s = true) (hA : ∀ a : Nat, a < s.heap.size → ¬ A a) : vx_Zq C n d A s s.heap := by
  refine ⟨va_Zqof hl hini h hA, ?_⟩
  obtain ⟨c, k, i, f, a, cell, h1, h2, h3, h4, h5, h6, h7, h8, h9⟩ := Cond.laysStatic_spec hl
  exact ⟨c, k, i, f, a, cell, h1, h2, h3, h4, h5, h6, h7, h8, h9, hA a (Array.getElem?_eq_some_iff.mp h5).1⟩
theorem vx_isRef {C n d : String} {v : Value} {A : Nat → Prop} {s : State} {args : Array Value} (h : va_Z C n d v A s s.heap) (hv : v.isRef = true) : (Cond.isRef (.static C n d)).before args s = true := by
  obtain ⟨cf, kf, fi, f, a, cell, h1, h2, h3, h4, h5, h6, h7, -⟩ := h
  have he : (Term.static C n d).eval args s none [] s = some v := by
    simp [Term.eval, State.fieldNamed?, h1, h2, h4, h5, h6, h7]
  simp only [Cond.before, Cond.holds, Cond.value, he]
  cases v <;> simp_all [Value.isRef]
theorem vx_isRefq {C n d : String} {A : Nat → Prop} {s : State} {args : Array Value} (h : va_Zq C n d A s s.heap) : (Cond.isRef (.static C n d)).before args s = true := by
  rcases h with h | ⟨t, h⟩
  · exact vx_isRef h rfl
  · exact vx_isRef h rfl
/-- the same frame, seen from here: as if the method were called anew in this heap -/
theorem vx_rebase {T : State} (X : Stand p l e R s m args below meth c T locs cells slots) {R' : Room} (hf : R'.frames ≤ R.frames) (hl : R'.locals ≤ R.locals) (hc : cells + R'.cells ≤ R.cells) (hs : slots + R'.slots ≤ R.slots) :
    Stand p l e R' ((T.setVm s.vm).setFrames (.invoking m args :: below)) m args below meth c T [] 0 0 := by
  have htop : (T.setVm s.vm).topJava?.isSome := X.here.top
  have hF : ((T.setVm s.vm).setFrames (.invoking m args :: below)).frames = .invoking m args :: below := State.frames_setFrames _ (State.cur_lt_of_top htop)
  obtain ⟨g₀, hg0⟩ := Option.isSome_iff_exists.mp htop
  obtain ⟨r, hr⟩ := State.topJava?_eq_some.mp hg0
  have hl9 : e.platform.stackLimits (T.setVm s.vm).me = e.platform.stackLimits s.me := X.limits
  have hb9 : (T.setVm s.vm).me.stackBytes = s.me.stackBytes := X.bytes
  refine ⟨X.admits, X.cas, X.clock, hF, ?_, X.hears, X.method, X.code, X.here, X.tail, X.warmed, ?_, ?_, ?_⟩
  · have h := X.room
    have hU : ((T.setVm s.vm).setFrames (.invoking m args :: below)).localsInUse = s.localsInUse := by
      rw [State.localsInUse_invoking hF (meth := meth) (c := c) X.method X.code, State.localsInUse_invoking X.frames X.method X.code]
    simp only [State.hasRoom, Bool.and_eq_true, decide_eq_true_eq] at h ⊢
    obtain ⟨⟨⟨⟨h1, h2, h3, h4, h5, h6⟩, h7⟩, h8⟩, h9⟩ := h
    rw [X.frames, List.length_cons] at h2 h3
    have q1 := X.heapSize
    have q2 := X.used
    simp only [hF, hU, List.length_cons, State.stackLimits_setFrames, State.stackBytes_setFrames, hl9, hb9]
    refine ⟨⟨⟨⟨by omega, by omega, by omega, by omega, by omega, h6⟩, ?_⟩, ?_⟩, X.book⟩
    · show T.heap.size + R'.cells ≤ e.platform.maxCells
      omega
    · show T.slotsUsed + R'.slots ≤ e.platform.maxSlots
      omega
  · rw [State.stackLimits_setFrames]; rfl
  · rw [State.stackBytes_setFrames]; rfl
  · refine ⟨?_, Nat.le_refl _, Nat.le_refl _, ?_, ?_, fun a c9 h9 => ⟨c9, h9, rfl, rfl, fun _ _ => rfl⟩⟩
    · obtain ⟨t, ht, -⟩ := State.frames_cons hr
      show T.setVm s.vm = { ((T.setVm s.vm).setFrames (.invoking m args :: below)).setFrames (T.setVm s.vm).frames with heap := T.heap, slotsUsed := T.slotsUsed }
      rw [State.setFrames_setFrames, State.setFrames_self ht]
      rfl
    · show T.slotsUsed = T.slotsUsed + ((T.heap.toList.drop T.heap.size).map (·.slots.size)).sum
      rw [List.drop_eq_nil_of_le (Nat.le_of_eq Array.length_toList)]
      rfl
    · show ((T.heap.toList.drop T.heap.size).map (·.slots.size)).sum ≤ 0
      rw [List.drop_eq_nil_of_le (Nat.le_of_eq Array.length_toList)]
      exact Nat.le_refl _
/-- 'throw new E()': new; dup; invokespecial; athrow -/
theorem vx_throw0 {cc : ByteArray} {pc : Nat} (hexec : p.tables.exec = Jvm.exec) (hb : c.code = cc) (hl : l.stackTraces = false) {own cls : String} {names : List String} {ik ic mc ms : Nat} {A : Nat → Prop}
    (hown : s.vm.findClass own = some m.cls) (hcls : Bundle.fit cls = true) (hnames : ∀ n ∈ names, Bundle.fit n = true)
    (hk : (Cond.classLink own ik cls).before args s = true) (hini : (Cond.initialized cls).before args s = true) (hat : ∀ w ∈ vx_at0 own ic cls names, w.before args s = true)
    (hgood : ∀ w ∈ Cond.classLink own ik cls :: Cond.initialized cls :: vx_at0 own ic cls names, vx_ot w = true)
    (hU : vx_Zq Bundle.tN "UNASSIGNED_STACK" Bundle.steD A s s.heap) (hN : vx_Zq Bundle.tN "SUPPRESSED_SENTINEL" Bundle.listD A s s.heap) (hS : va_S A s.heap H locs) (hsize : ls.size = c.maxLocals)
    (d0 : decode cc pc = .ok (.new ik, 3)) (d3 : decode cc (pc + 3) = .ok (.dup, 1)) (d4 : decode cc (pc + 4) = .ok (.invokespecial ic, 3)) (d7 : decode cc (pc + 7) = .ok (.athrow, 1))
    (hout : ∀ x ∈ c.exceptionTable.toList, covers x (pc + 7) = false)
    (hRframes : names.length + 3 < R.frames) (hRlocals : (rest.map fun v => v.category).sum + (13 * (names.length + 1) + 42) ≤ R.locals) (hRcells : cells + 1 ≤ R.cells) (hRslots : slots + 6 ≤ R.slots) (hlocks : meth.locks = false)
    (hx : ∀ t : State, s.vm.Alike t.vm → H.size ≤ t.heap.size → (∀ q : Nat, q < H.size → t.heap[q]? = H[q]?) → XC cls s t)
    (hf : ∀ z ∈ locs, free z.base) (hc : cells + 1 ≤ mc) (hs : slots + 6 ≤ ms) :
    W p l e R s m args below meth c H locs cells slots (vx_MQ below Qc XC args s mc ms free) (F0 m pc ls rest) := by
  intro T hT X
  have htr : e.platform.stackTraces = false := (show e.platform.stackTraces = l.stackTraces by rw [X.admits.platform]).trans hl
  have Y := vx_rebase X (R' := { frames := R.frames, locals := R.locals, cells := 1, slots := 6 }) (Nat.le_refl _) (Nat.le_refl _) hRcells hRslots
  obtain ⟨s', hA⟩ : ∃ z, z = (T.setVm s.vm).setFrames (.invoking m args :: below) := ⟨_, rfl⟩
  rw [← hA] at Y
  have hvm : s'.vm = s.vm := by rw [hA]; rfl
  have hhp : s'.heap = H := by rw [hA]; exact hT
  have hW0 : s.WarmedH s'.vm := by rw [hvm]; exact State.WarmedH.refl s
  have hat' : ∀ w ∈ vx_at0 own ic cls names, w.before args s' = true := fun w hw => vx_ot_at hW0 hvm.symm (hgood w (List.mem_cons_of_mem _ (List.mem_cons_of_mem _ hw))) (hat w hw)
  have hk' : (Cond.classLink own ik cls).before args s' = true := vx_ot_at hW0 hvm.symm (hgood _ List.mem_cons_self) hk
  have hini' : (Cond.initialized cls).before args s' = true := vx_ot_at hW0 hvm.symm (hgood _ (List.mem_cons_of_mem _ List.mem_cons_self)) hini
  have hU' : vx_Zq Bundle.tN "UNASSIGNED_STACK" Bundle.steD A s' s'.heap := by rw [hhp]; exact vx_Zq.moved hW0.alike (hU.kept hS.2.1)
  have hN' : vx_Zq Bundle.tN "SUPPRESSED_SENTINEL" Bundle.listD A s' s'.heap := by rw [hhp]; exact vx_Zq.moved hW0.alike (hN.kept hS.2.1)
  have h : ∀ w ∈ Bundle.ownAtoms0 own ic cls names, w.before args s' = true := vx_own hat' (vx_isRefq hU'.1) (vx_isRefq hN'.1) hU'.2.word hN'.2.word
  have hown' : s'.vm.findClass own = some m.cls := by rw [hvm]; exact hown
  have hins : (Cond.instantiable cls 6).before args s' = true := h _ (by simp [Bundle.ownAtoms0])
  obtain ⟨vm₁, cX, kX, hfX, hkX, -, -, X₁, st1⟩ := Y.newCold hexec (own := own) (C := cls) (index := ik) (n := 6) hown' hk' hins hini'
    (g := F0 m pc ls rest) rfl (by rw [hb]; exact d0) (Nat.le_refl _) (Nat.le_refl _)
  generalize hT1 : (T.setVm vm₁).pushCell { cls := cX, slots := kX.instanceTypes.map defaultValue, vm := .none } = T1 at X₁ st1
  have hcat : (Value.ref T.heap.size).category = 1 := rfl
  have hcellA : T1.heap[T.heap.size]? = some (freshCell cX kX) := by rw [← hT1]; exact State.heap_pushCell_size _ _
  have d3' : decode c.code (pc + 3) = .ok (.dup, 1) := by rw [hb]; exact d3
  obtain ⟨U, hsteps, hrun, hend, hW, hsame, ce, hce, hO⟩ := X₁.ctorThrow0 hexec htr (own := own) (cls := cls) (names := names) (ic := ic) hown' hcls hnames h (fun x hx => nomatch hx) hfX hkX hcellA (by rw [hhp, hT]; exact Nat.le_refl _)
    (g := { method := m, pc := pc + 4, locals := ls, stack := .ref T.heap.size :: .ref T.heap.size :: rest, locked := none }) rfl hsize rfl rfl (rest := rest) rfl
    (by rw [hb]; exact d4) (by rw [hb]; exact d7) hout hRframes (by simp only [List.map_cons, List.sum_cons, hcat]; omega) hlocks
  obtain ⟨f1, f2⟩ := vx_frame hsame
  rw [hhp] at f1 f2
  have hWs : s.WarmedH U.vm := State.WarmedH.trans hW0 hW
  have hcl : s.vm.findClass cls = some ce.cls := by
    have h9 := hO.cls
    rw [hvm] at h9
    exact h9
  have hall : s.sameButNew ({ U with vm := s.vm } : State) locs mc ms := by
    subst hA
    obtain ⟨e1, e2⟩ := hsame
    rw [State.setFrames_setFrames] at e1
    have h2 : (T.setVm s.vm).sameButNew ({ U with vm := s.vm } : State) [] (0 + 1) (0 + 6) := ⟨e1, e2⟩
    have h3 := X.same.trans h2
    rw [List.append_nil] at h3
    exact h3.mono hc hs
  refine ⟨U, ?_, .threw T.heap.size, hrun, hend, Or.inr ⟨T.heap.size, rfl, cls, ce, locs, hx U hWs.alike f1 (fun q hq => f2 q hq (fun z hz => nomatch hz)), hce, hO.vm, hcl, hWs, hall, hf⟩⟩
  refine st1 _ ?_
  show Steps p.tables e below (T1.setTop { method := m, pc := pc + 3, locals := ls, stack := .ref T.heap.size :: rest, locked := none }) _
  jvm_step X₁.here [X₁.here.top, hexec, d3', Value.category]
  exact hsteps
/-- 'throw new E("text")': new; dup; ldc; invokespecial; athrow -/
theorem vx_throwS {cc : ByteArray} {pc : Nat} (hexec : p.tables.exec = Jvm.exec) (hb : c.code = cc) (hl : l.stackTraces = false) {own cls text : String} {names : List String} {ik is ic mc ms sa : Nat} {A : Nat → Prop}
    (hown : s.vm.findClass own = some m.cls) (hcls : Bundle.fit cls = true) (hnames : ∀ n ∈ names, Bundle.fit n = true)
    (hk : (Cond.classLink own ik cls).before args s = true) (hini : (Cond.initialized cls).before args s = true) (hstr : vk_R own is text sa s) (hat : ∀ w ∈ vx_atS own ic cls names, w.before args s = true)
    (hgood : ∀ w ∈ Cond.classLink own ik cls :: Cond.initialized cls :: vx_atS own ic cls names, vx_ot w = true)
    (hU : vx_Zq Bundle.tN "UNASSIGNED_STACK" Bundle.steD A s s.heap) (hN : vx_Zq Bundle.tN "SUPPRESSED_SENTINEL" Bundle.listD A s s.heap) (hS : va_S A s.heap H locs) (hsize : ls.size = c.maxLocals)
    (d0 : decode cc pc = .ok (.new ik, 3)) (d3 : decode cc (pc + 3) = .ok (.dup, 1)) (d4 : decode cc (pc + 4) = .ok (.ldc is, 2)) (d6 : decode cc (pc + 6) = .ok (.invokespecial ic, 3)) (d9 : decode cc (pc + 9) = .ok (.athrow, 1))
    (hout : ∀ x ∈ c.exceptionTable.toList, covers x (pc + 9) = false)
    (hRframes : names.length + 3 < R.frames) (hRlocals : (rest.map fun v => v.category).sum + (13 * (names.length + 1) + 43) ≤ R.locals) (hRcells : cells + 1 ≤ R.cells) (hRslots : slots + 6 ≤ R.slots) (hlocks : meth.locks = false)
    (hx : ∀ t : State, s.vm.Alike t.vm → H.size ≤ t.heap.size → (∀ q : Nat, q < H.size → t.heap[q]? = H[q]?) → XC cls s t)
    (hf : ∀ z ∈ locs, free z.base) (hc : cells + 1 ≤ mc) (hs : slots + 6 ≤ ms) :
    W p l e R s m args below meth c H locs cells slots (vx_MQ below Qc XC args s mc ms free) (F0 m pc ls rest) := by
  intro T hT X
  have htr : e.platform.stackTraces = false := (show e.platform.stackTraces = l.stackTraces by rw [X.admits.platform]).trans hl
  have Y := vx_rebase X (R' := { frames := R.frames, locals := R.locals, cells := 1, slots := 6 }) (Nat.le_refl _) (Nat.le_refl _) hRcells hRslots
  obtain ⟨s', hA⟩ : ∃ z, z = (T.setVm s.vm).setFrames (.invoking m args :: below) := ⟨_, rfl⟩
  rw [← hA] at Y
  have hvm : s'.vm = s.vm := by rw [hA]; rfl
  have hhp : s'.heap = H := by rw [hA]; exact hT
  have hW0 : s.WarmedH s'.vm := by rw [hvm]; exact State.WarmedH.refl s
  have hat' : ∀ w ∈ vx_atS own ic cls names, w.before args s' = true := fun w hw => vx_ot_at hW0 hvm.symm (hgood w (List.mem_cons_of_mem _ (List.mem_cons_of_mem _ hw))) (hat w hw)
  have hk' : (Cond.classLink own ik cls).before args s' = true := vx_ot_at hW0 hvm.symm (hgood _ List.mem_cons_self) hk
  have hini' : (Cond.initialized cls).before args s' = true := vx_ot_at hW0 hvm.symm (hgood _ (List.mem_cons_of_mem _ List.mem_cons_self)) hini
  have hU' : vx_Zq Bundle.tN "UNASSIGNED_STACK" Bundle.steD A s' s'.heap := by rw [hhp]; exact vx_Zq.moved hW0.alike (hU.kept hS.2.1)
  have hN' : vx_Zq Bundle.tN "SUPPRESSED_SENTINEL" Bundle.listD A s' s'.heap := by rw [hhp]; exact vx_Zq.moved hW0.alike (hN.kept hS.2.1)
  have h : ∀ w ∈ Bundle.ownAtoms own ic cls names, w.before args s' = true := vx_own hat' (vx_isRefq hU'.1) (vx_isRefq hN'.1) hU'.2.word hN'.2.word
  have hown' : s'.vm.findClass own = some m.cls := by rw [hvm]; exact hown
  have hins : (Cond.instantiable cls 6).before args s' = true := h _ (by simp [Bundle.ownAtoms])
  obtain ⟨vm₁, cX, kX, hfX, hkX, -, -, X₁, st1⟩ := Y.newCold hexec (own := own) (C := cls) (index := ik) (n := 6) hown' hk' hins hini'
    (g := F0 m pc ls rest) rfl (by rw [hb]; exact d0) (Nat.le_refl _) (Nat.le_refl _)
  generalize hT1 : (T.setVm vm₁).pushCell { cls := cX, slots := kX.instanceTypes.map defaultValue, vm := .none } = T1 at X₁ st1
  have hcat : (Value.ref T.heap.size).category = 1 := rfl
  have hcellA : T1.heap[T.heap.size]? = some (freshCell cX kX) := by rw [← hT1]; exact State.heap_pushCell_size _ _
  have d3' : decode c.code (pc + 3) = .ok (.dup, 1) := by rw [hb]; exact d3
  have d4' : decode c.code (pc + 4) = .ok (.ldc is, 2) := by rw [hb]; exact d4
  have hstr' : vk_R own is text sa s' := vk_R.warm hW0 hstr
  obtain ⟨U, hsteps, hrun, hend, hW, hsame, ce, hce, hO⟩ := X₁.ctorThrowS hexec htr (own := own) (cls := cls) (names := names) (ic := ic) hown' hcls hnames h (fun x hx => nomatch hx) hfX hkX hcellA (by rw [hhp, hT]; exact Nat.le_refl _) (msg := .ref sa) rfl
    (g := { method := m, pc := pc + 6, locals := ls, stack := .ref sa :: .ref T.heap.size :: .ref T.heap.size :: rest, locked := none }) rfl hsize rfl rfl (rest := rest) rfl
    (by rw [hb]; exact d6) (by rw [hb]; exact d9) hout hRframes (by simp only [List.map_cons, List.sum_cons, hcat]; omega) hlocks
  obtain ⟨f1, f2⟩ := vx_frame hsame
  rw [hhp] at f1 f2
  have hWs : s.WarmedH U.vm := State.WarmedH.trans hW0 hW
  have hcl : s.vm.findClass cls = some ce.cls := by
    have h9 := hO.cls
    rw [hvm] at h9
    exact h9
  have hall : s.sameButNew ({ U with vm := s.vm } : State) locs mc ms := by
    subst hA
    obtain ⟨e1, e2⟩ := hsame
    rw [State.setFrames_setFrames] at e1
    have h2 : (T.setVm s.vm).sameButNew ({ U with vm := s.vm } : State) [] (0 + 1) (0 + 6) := ⟨e1, e2⟩
    have h3 := X.same.trans h2
    rw [List.append_nil] at h3
    exact h3.mono hc hs
  refine ⟨U, ?_, .threw T.heap.size, hrun, hend, Or.inr ⟨T.heap.size, rfl, cls, ce, locs, hx U hWs.alike f1 (fun q hq => f2 q hq (fun z hz => nomatch hz)), hce, hO.vm, hcl, hWs, hall, hf⟩⟩
  refine st1 _ ?_
  show Steps p.tables e below (T1.setTop { method := m, pc := pc + 3, locals := ls, stack := .ref T.heap.size :: rest, locked := none }) _
  jvm_step X₁.here [X₁.here.top, hexec, d3', Value.category]
  exact X₁.ldcString hexec (own := own) (text := text) (index := is) (a := sa) hown' hstr'.1 hstr'.2
    (g := { method := m, pc := pc + 4, locals := ls, stack := .ref T.heap.size :: .ref T.heap.size :: rest, locked := none }) rfl d4' _ hsteps
/-- 'throw new E("text")', the text by a wide index -/
theorem vx_throwSW {cc : ByteArray} {pc : Nat} (hexec : p.tables.exec = Jvm.exec) (hb : c.code = cc) (hl : l.stackTraces = false) {own cls text : String} {names : List String} {ik is ic mc ms sa : Nat} {A : Nat → Prop}
    (hown : s.vm.findClass own = some m.cls) (hcls : Bundle.fit cls = true) (hnames : ∀ n ∈ names, Bundle.fit n = true)
    (hk : (Cond.classLink own ik cls).before args s = true) (hini : (Cond.initialized cls).before args s = true) (hstr : vk_R own is text sa s) (hat : ∀ w ∈ vx_atS own ic cls names, w.before args s = true)
    (hgood : ∀ w ∈ Cond.classLink own ik cls :: Cond.initialized cls :: vx_atS own ic cls names, vx_ot w = true)
    (hU : vx_Zq Bundle.tN "UNASSIGNED_STACK" Bundle.steD A s s.heap) (hN : vx_Zq Bundle.tN "SUPPRESSED_SENTINEL" Bundle.listD A s s.heap) (hS : va_S A s.heap H locs) (hsize : ls.size = c.maxLocals)
    (d0 : decode cc pc = .ok (.new ik, 3)) (d3 : decode cc (pc + 3) = .ok (.dup, 1)) (d4 : decode cc (pc + 4) = .ok (.ldc_w is, 3)) (d7 : decode cc (pc + 7) = .ok (.invokespecial ic, 3)) (d10 : decode cc (pc + 10) = .ok (.athrow, 1))
    (hout : ∀ x ∈ c.exceptionTable.toList, covers x (pc + 10) = false)
    (hRframes : names.length + 3 < R.frames) (hRlocals : (rest.map fun v => v.category).sum + (13 * (names.length + 1) + 43) ≤ R.locals) (hRcells : cells + 1 ≤ R.cells) (hRslots : slots + 6 ≤ R.slots) (hlocks : meth.locks = false)
    (hx : ∀ t : State, s.vm.Alike t.vm → H.size ≤ t.heap.size → (∀ q : Nat, q < H.size → t.heap[q]? = H[q]?) → XC cls s t)
    (hf : ∀ z ∈ locs, free z.base) (hc : cells + 1 ≤ mc) (hs : slots + 6 ≤ ms) :
    W p l e R s m args below meth c H locs cells slots (vx_MQ below Qc XC args s mc ms free) (F0 m pc ls rest) := by
  intro T hT X
  have htr : e.platform.stackTraces = false := (show e.platform.stackTraces = l.stackTraces by rw [X.admits.platform]).trans hl
  have Y := vx_rebase X (R' := { frames := R.frames, locals := R.locals, cells := 1, slots := 6 }) (Nat.le_refl _) (Nat.le_refl _) hRcells hRslots
  obtain ⟨s', hA⟩ : ∃ z, z = (T.setVm s.vm).setFrames (.invoking m args :: below) := ⟨_, rfl⟩
  rw [← hA] at Y
  have hvm : s'.vm = s.vm := by rw [hA]; rfl
  have hhp : s'.heap = H := by rw [hA]; exact hT
  have hW0 : s.WarmedH s'.vm := by rw [hvm]; exact State.WarmedH.refl s
  have hat' : ∀ w ∈ vx_atS own ic cls names, w.before args s' = true := fun w hw => vx_ot_at hW0 hvm.symm (hgood w (List.mem_cons_of_mem _ (List.mem_cons_of_mem _ hw))) (hat w hw)
  have hk' : (Cond.classLink own ik cls).before args s' = true := vx_ot_at hW0 hvm.symm (hgood _ List.mem_cons_self) hk
  have hini' : (Cond.initialized cls).before args s' = true := vx_ot_at hW0 hvm.symm (hgood _ (List.mem_cons_of_mem _ List.mem_cons_self)) hini
  have hU' : vx_Zq Bundle.tN "UNASSIGNED_STACK" Bundle.steD A s' s'.heap := by rw [hhp]; exact vx_Zq.moved hW0.alike (hU.kept hS.2.1)
  have hN' : vx_Zq Bundle.tN "SUPPRESSED_SENTINEL" Bundle.listD A s' s'.heap := by rw [hhp]; exact vx_Zq.moved hW0.alike (hN.kept hS.2.1)
  have h : ∀ w ∈ Bundle.ownAtoms own ic cls names, w.before args s' = true := vx_own hat' (vx_isRefq hU'.1) (vx_isRefq hN'.1) hU'.2.word hN'.2.word
  have hown' : s'.vm.findClass own = some m.cls := by rw [hvm]; exact hown
  have hins : (Cond.instantiable cls 6).before args s' = true := h _ (by simp [Bundle.ownAtoms])
  obtain ⟨vm₁, cX, kX, hfX, hkX, -, -, X₁, st1⟩ := Y.newCold hexec (own := own) (C := cls) (index := ik) (n := 6) hown' hk' hins hini'
    (g := F0 m pc ls rest) rfl (by rw [hb]; exact d0) (Nat.le_refl _) (Nat.le_refl _)
  generalize hT1 : (T.setVm vm₁).pushCell { cls := cX, slots := kX.instanceTypes.map defaultValue, vm := .none } = T1 at X₁ st1
  have hcat : (Value.ref T.heap.size).category = 1 := rfl
  have hcellA : T1.heap[T.heap.size]? = some (freshCell cX kX) := by rw [← hT1]; exact State.heap_pushCell_size _ _
  have d3' : decode c.code (pc + 3) = .ok (.dup, 1) := by rw [hb]; exact d3
  have d4' : decode c.code (pc + 4) = .ok (.ldc_w is, 3) := by rw [hb]; exact d4
  have hstr' : vk_R own is text sa s' := vk_R.warm hW0 hstr
  obtain ⟨U, hsteps, hrun, hend, hW, hsame, ce, hce, hO⟩ := X₁.ctorThrowS hexec htr (own := own) (cls := cls) (names := names) (ic := ic) hown' hcls hnames h (fun x hx => nomatch hx) hfX hkX hcellA (by rw [hhp, hT]; exact Nat.le_refl _) (msg := .ref sa) rfl
    (g := { method := m, pc := pc + 7, locals := ls, stack := .ref sa :: .ref T.heap.size :: .ref T.heap.size :: rest, locked := none }) rfl hsize rfl rfl (rest := rest) rfl
    (by rw [hb]; exact d7) (by rw [hb]; exact d10) hout hRframes (by simp only [List.map_cons, List.sum_cons, hcat]; omega) hlocks
  obtain ⟨f1, f2⟩ := vx_frame hsame
  rw [hhp] at f1 f2
  have hWs : s.WarmedH U.vm := State.WarmedH.trans hW0 hW
  have hcl : s.vm.findClass cls = some ce.cls := by
    have h9 := hO.cls
    rw [hvm] at h9
    exact h9
  have hall : s.sameButNew ({ U with vm := s.vm } : State) locs mc ms := by
    subst hA
    obtain ⟨e1, e2⟩ := hsame
    rw [State.setFrames_setFrames] at e1
    have h2 : (T.setVm s.vm).sameButNew ({ U with vm := s.vm } : State) [] (0 + 1) (0 + 6) := ⟨e1, e2⟩
    have h3 := X.same.trans h2
    rw [List.append_nil] at h3
    exact h3.mono hc hs
  refine ⟨U, ?_, .threw T.heap.size, hrun, hend, Or.inr ⟨T.heap.size, rfl, cls, ce, locs, hx U hWs.alike f1 (fun q hq => f2 q hq (fun z hz => nomatch hz)), hce, hO.vm, hcl, hWs, hall, hf⟩⟩
  refine st1 _ ?_
  show Steps p.tables e below (T1.setTop { method := m, pc := pc + 3, locals := ls, stack := .ref T.heap.size :: rest, locked := none }) _
  jvm_step X₁.here [X₁.here.top, hexec, d3', Value.category]
  exact X₁.ldcStringW hexec (own := own) (text := text) (index := is) (a := sa) hown' hstr'.1 hstr'.2
    (g := { method := m, pc := pc + 4, locals := ls, stack := .ref T.heap.size :: .ref T.heap.size :: rest, locked := none }) rfl d4' _ hsteps
end Ends
section Bodies
variable {l : Launch}
theorem vx_ofW {y : MethodName} {ws ws' : List Cond} {rm : Room} {Pc : Array Value → State → Prop} {Qc : Array Value → State → Outcome → State → Prop} {XC : String → State → State → Prop} {mc ms : Nat} {free : Addr → Prop} {cc : ByteArray} {maxL : Nat} {ret : Option FieldType}
    (hy : plainName y.cls = true) (hw : ws = Cond.code y cc maxL ret :: ws')
    (body : ∀ p e s m args below meth c s₁, BodyLoose p l y (headSpec ws rm) cc maxL ret e s m args below meth c s₁ → c.maxLocals = maxL → (∀ x ∈ c.exceptionTable.toList, False) → Pc args s →
      W p l e (headSpec ws rm).room s m args below meth c s.heap [] 0 0 (vx_MQ below Qc XC args s mc ms free) (entryFrame m args maxL)) : vx_Met l y ws rm Pc Qc XC mc ms free := by
  refine MetFree.of_bodyS (code := cc) (maxLocals := maxL) (ret := ret) hy ?_ ?_
  · intro args s m h hn
    obtain ⟨meth, c, h1, h2, h3, h4, h5, h6, -, -⟩ := Cond.code_spec hn (atoms_spec (ws := ws) h _ (by rw [hw]; exact List.mem_cons_self))
    exact ⟨meth, c, h1, h2, h3, h4, h5, h6⟩
  · intro p e s m args below meth c s₁ B hml hP _
    have hh0 : s₁.heap = s.heap := by rw [B.state]; rfl
    have ht : ∀ x ∈ c.exceptionTable.toList, False := by
      obtain ⟨meth9, c9, h1, h2, -, -, -, -, h7, -⟩ := Cond.code_spec B.named (atoms_spec (ws := ws) B.pre _ (by rw [hw]; exact List.mem_cons_self))
      cases Option.some.inj (h1.symm.trans B.method)
      cases Option.some.inj (h2.symm.trans (Stand.of_body B).code)
      intro x hx
      rw [Array.isEmpty_iff.mp h7] at hx
      cases hx
    obtain ⟨t, a1, o, b1, b2, b3⟩ := body p e s m args below meth c s₁ B hml ht hP s₁ hh0 (Stand.of_body B)
    exact ⟨t, o, a1, b1, b2, b3⟩
/-- the table of a body with handlers -/
theorem vx_table {p : Program} {x y : MethodName} {S : Spec} {cc bytes : ByteArray} {maxL maxL' : Nat} {ret ret' : Option FieldType} {e : Env} {s s₁ : State} {m : MethodId} {args : Array Value} {below : List Frame} {meth : Method} {c : Code} {hh : List (Nat × Nat × Nat × Nat)}
    (B : BodyLoose p l y S cc maxL ret e s m args below meth c s₁) (h : (Cond.codeWith y bytes maxL' ret' hh).before args s = true) : c.exceptionTable.toList = tableOf hh := by
  obtain ⟨m9, meth9, c9, hn9, h1, h2, -, -, h6, -⟩ := Cond.codeWith_spec h
  cases Option.some.inj (hn9.symm.trans B.named)
  cases Option.some.inj (h1.symm.trans B.method)
  cases Option.some.inj (h2.symm.trans (Stand.of_body B).code)
  rw [← h6, table_eq]
end Bodies
end VXA
/-! ===== END ===== -/
/-! ===== BEGIN a static call of a method with an exception table ===== -/
section VXS
variable {p : Program} {l : Launch} {e : Env} {R : Room} {s : State} {m : MethodId} {args : Array Value} {below : List Frame} {meth : Method} {c : Code} {T : State} {H : Heap} {locs : List Loc} {cells slots : Nat}
abbrev vx_CSW (R : Room) (s : State) (args : Array Value) (own : String) (index : Nat) (y : MethodName) (bytes : ByteArray) (maxL : Nat) (ret : Option FieldType) (hh : List (Nat × Nat × Nat × Nat)) (ws : List Cond) (rm : Room) (mc ms n : Nat) : Prop :=
  (rm.cells = mc ∧ rm.slots = ms ∧ rm.frames + 1 ≤ R.frames ∧ 8 + (maxL + 11) + rm.locals ≤ R.locals ∧ (∀ w ∈ ws, ∀ (a' : Array Value) (U : State), s.WarmedH U.vm → w.before a' U = true) ∧ Cond.codeWith y bytes maxL ret hh ∈ ws) ∧
  (Cond.codeWith y bytes maxL ret hh).before args s = true ∧ (Cond.initialized y.cls).before args s = true ∧ (y.cls ≠ "java/lang/invoke/MethodHandle" ∧ y.cls ≠ "java/lang/invoke/VarHandle") ∧
  (∀ sig, parseMethodDescriptor y.desc = some sig → n = sig.parameters.length) ∧ (Cond.methodLink own index y).before args s = true ∧ (Cond.static y).before args s = true
theorem vx_cwSW {own : String} {index maxL mc ms : Nat} {y : MethodName} {bytes : ByteArray} {ret : Option FieldType} {hh : List (Nat × Nat × Nat × Nat)} {Ts ws ws' : List Cond} {rm : Room} (n : Nat) (ht : ∀ w ∈ Ts, w.before args s = true) (hT : GoodIn Ts (va_wsS own index y ws)) (hw : ws = Cond.codeWith y bytes maxL ret hh :: ws') (hrc : rm.cells = mc) (hrs : rm.slots = ms)
    (hd : y.cls ≠ "java/lang/invoke/MethodHandle" ∧ y.cls ≠ "java/lang/invoke/VarHandle" ∧ (parseMethodDescriptor y.desc).map (fun d => d.parameters.length) = some n) (hR : rm.frames + 1 ≤ R.frames ∧ 8 + (maxL + 11) + rm.locals ≤ R.locals) :
    vx_CSW R s args own index y bytes maxL ret hh ws rm mc ms n := by
  have ok : ∀ w ∈ va_wsS own index y ws, w.before args s = true := fun w h => ht w (hT w h).1
  have hG : GoodIn Ts ws := fun w h => hT w (by unfold va_wsS; exact List.mem_append_right _ h)
  have hc : Cond.codeWith y bytes maxL ret hh ∈ ws := by rw [hw]; exact List.mem_cons_self
  refine ⟨⟨hrc, hrs, hR.1, hR.2, pay_in ht hG, hc⟩, ht _ (hG _ hc).1, ok _ (by simp [va_wsS]), ⟨hd.1, hd.2.1⟩, fun sig h => ?_, ok _ (by simp [va_wsS]), ok _ (by simp [va_wsS])⟩
  have h2 := hd.2.2
  rw [h] at h2
  exact (Option.some.inj h2).symm
theorem vx_callSW (X : Stand p l e R s m args below meth c T locs cells slots) (hexec : p.tables.exec = Jvm.exec) {own : String} {index : Nat} {y : MethodName} {bytes : ByteArray} {maxL : Nat} {ret : Option FieldType} {hh : List (Nat × Nat × Nat × Nat)}
    (hown : s.vm.findClass own = some m.cls) (hlink : (Cond.methodLink own index y).before args s = true) (hstat : (Cond.static y).before args s = true) (hinit : (Cond.initialized y.cls).before args s = true)
    (hcode : (Cond.codeWith y bytes maxL ret hh).before args s = true) (hy : y.cls ≠ "java/lang/invoke/MethodHandle" ∧ y.cls ≠ "java/lang/invoke/VarHandle")
    {W9 : Nat} {Pre : Pt → Array Value → Prop} {Post : Pt → Array Value → Option Value → Pt → Prop} (hK : Back l R p e below s args y 3 W9 Pre Post)
    {g : JFrame} (hg : g.method = m) (hsize : g.locals.size = c.maxLocals) {argsL rest : List Value} (hlen : ∀ sig, parseMethodDescriptor y.desc = some sig → argsL.length = sig.parameters.length)
    (hstack : g.stack = argsL.reverse ++ rest) (hW : 2 * g.monitorRoom + (rest.map fun v => v.category).sum ≤ W9) (hdg : decode c.code g.pc = .ok (.invokestatic index, 3))
    (hpre : ∀ vm₁, s.WarmedH vm₁ → Pre ⟨T.setVm vm₁, locs, cells, slots⟩ argsL.toArray) :
    ∃ (v : Option Value) (vm₁ : Vm) (B : Pt), s.WarmedH vm₁ ∧ Stand p l e R s m args below meth c B.U B.locs B.cells B.slots ∧ Post ⟨T.setVm vm₁, locs, cells, slots⟩ argsL.toArray v B ∧
      ∀ target, Steps p.tables e below (B.U.setTop { g with pc := g.pc + 3, stack := v.toList ++ rest }) target → Steps p.tables e below (T.setTop g) target := by
  obtain ⟨mk, methM, cM, hnamed, hmethM, -, -, -, -, -, -, hsigM⟩ := Cond.codeWith_spec hcode
  have hstatic : methM.isStatic = true := Cond.static_spec hnamed hmethM hstat
  obtain ⟨kP, hkP, -⟩ := className_of_methodNamed hnamed
  have hinitP : kP.init = .initialized := Cond.initialized_spec (findClass_of_methodNamed hnamed) hkP hinit
  obtain ⟨vm₁, X₁, hstep₁⟩ := X.invokestatic hexec hown hlink hnamed hmethM hstatic hkP hinitP hy (g := g) hg (argsL := argsL) (rest := rest) (hlen _ hsigM) hstack hdg
  obtain ⟨v, B, X', hpost, hsteps⟩ := hK m meth c ⟨T.setVm vm₁, locs, cells, slots⟩ { g with stack := rest } (.invokestatic index) mk argsL.toArray X₁ hg hsize hdg hW (X₁.named hnamed) (hpre vm₁ X₁.warmed)
  exact ⟨v, vm₁, B, X₁.warmed, X', hpost, fun target h => hstep₁ _ fun acts => by rw [doInvoke_state]; exact hsteps.trans h⟩
theorem vx_runSW {y : MethodName} {bytes cc : ByteArray} {maxL nL mc ms n index : Nat} {ret : Option FieldType} {hh : List (Nat × Nat × Nat × Nat)} {ws : List Cond} {rm : Room} {Pc : Array Value → State → Prop} {Qc : Array Value → State → Outcome → State → Prop} {free : Addr → Prop} {Ts : List Cond} {own : String} {As rest : List Value} {g : JFrame}
    (S : CallFix p m c cc nL s args Ts own) (hM : Met l y ws rm Pc Qc mc ms free) (cw : vx_CSW R s args own index y bytes maxL ret hh ws rm mc ms n) (hp : PreS s H Pc As)
    (hg : g.method = m) (hn : As.length = n) (hsize : g.locals.size = nL) (hstack : g.stack = As.reverse ++ rest) (hW : 2 * g.monitorRoom + (rest.map fun v => v.category).sum ≤ 8) (hdg : decode cc g.pc = .ok (.invokestatic index, 3)) (hf : cells + mc ≤ R.cells ∧ slots + ms ≤ R.slots) :
    va_Run p l e R s m args below meth c H locs cells slots mc ms g rest (Qc As.toArray) (free) := by
  obtain ⟨⟨hrc, hrs, hfr, hlo, hws, hcw⟩, hcode, hini, hy, hlen, hl, hstt⟩ := cw
  have hK : Back l R p e below s args y 3 8 (PreOf R mc ms Pc) (PostOf Qc mc ms free) := va_backW (hh := hh) (bytes := bytes) (maxL := maxL) (ret := ret) hM hp.1 hrc hrs hfr hlo hws hcw (fun a' U hW => word_at hW (Or.inl (by first | rfl | simp [Cond.onTables, Cond.keeps, Cond.steady])) hini)
  obtain ⟨hx, hb, hml, ho, -⟩ := S
  intro T hT X
  obtain ⟨v, vm₁, ⟨U', l2, c2, s2⟩, hW₁, X', ⟨g', mk, t, L, e1, e2, hq, h1, hL, h2, h3⟩, st⟩ := vx_callSW X hx (hh := hh) (bytes := bytes) (maxL := maxL) (ret := ret) ho hl hstt hini hcode hy hK hg (hsize.trans hml.symm) (argsL := As) (rest := rest) (fun sig h => hn.trans (hlen sig h)) hstack hW (by rw [hb]; exact hdg)
    (fun vm₁ hW₁ => ⟨hf.1, hf.2, hp.2 (T.setVm vm₁) hT hW₁⟩)
  dsimp only [Pt.U, Pt.locs, Pt.cells, Pt.slots] at X' e1 e2 h1 h2 h3 st
  subst h1; subst h2; subst h3
  exact ⟨v, (T.setVm vm₁).calling g' mk As.toArray, t, U', L, hT, X', hL, e1, e2, hq, st⟩
/-- not caught here, past rows that name other classes: it goes on to the caller -/
theorem vx_outP {p : Program} {l : Launch} {e : Env} {R : Room} {s : State} {m : MethodId} {args : Array Value} {below : List Frame} {meth : Method} {c : Code} {H : Heap} {locs : List Loc} {cells slots : Nat} {free : Addr → Prop} {ls : Array Slot} {rest : List Value} {Qc : Array Value → State → Outcome → State → Prop} {XC : String → State → State → Prop}
    {pc : Nat} {own E : String} {ce : Cell} {q : Addr} {mc ms : Nat} (hown : s.vm.findClass own = some m.cls) (hlocks : meth.locks = false)
    (hpass : ∀ z ∈ c.exceptionTable.toList, covers z pc = false ∨ (z.catchType ≠ 0 ∧ ∃ nm : String, (Cond.classLink own z.catchType nm).before args s = true ∧ va_Nc E nm s)) (hcell : H[q]? = some ce) (hv : ce.vm = .none) (hcl : s.vm.findClass E = some ce.cls)
    (hx : ∀ t : State, t.heap = H → s.vm.Alike t.vm → XC E s t) (hf : ∀ z ∈ locs, free z.base) (hc : cells ≤ mc) (hs : slots ≤ ms) :
    vx_W p l e R s m args below meth c H locs cells slots (vx_MQ below Qc XC args s mc ms free) (F0 m pc ls rest) q := by
  intro T hT X
  have hpl : e.platform.magicAccessors = ({} : Platform).magicAccessors := by rw [X.admits.platform]
  obtain ⟨vm', hW', X', st⟩ := X.outThrough hlocks q (g := F0 m pc ls rest) rfl rfl rfl (cell := ce) (by rw [hT]; exact hcell) (by rw [hv]; rfl)
    (by obtain ⟨k9, h9, -⟩ := Vm.findClass_spec hcl; exact ⟨k9, h9⟩) (fun z hz => by
      rcases hpass z hz with h | ⟨hz0, nm, hl1, hn1⟩
      · exact Or.inl h
      · obtain ⟨c6, hc6, hcl6⟩ := Cond.classLink_spec hown hl1 e.platform hpl
        obtain ⟨a8, b8, h1, h2, h3⟩ := hn1
        cases Option.some.inj (h1.symm.trans hcl)
        cases Option.some.inj (h2.symm.trans hc6)
        exact Or.inr ⟨hz0, _, hcl6, h3⟩)
  obtain ⟨g₀, hfr⟩ := X'.frames_eq
  have hcell9 : ((T.setVm vm').setFrames (.throwing q :: below)).heap[q]? = some ce := by
    show T.heap[q]? = some ce
    rw [hT]; exact hcell
  have hend : Ended ((T.setVm vm').setFrames (.throwing q :: below)) below (.threw q) := State.frames_setFrames _ (State.cur_lt_of_frames hfr)
  refine ⟨(T.setVm vm').setFrames (.throwing q :: below), ?_, .threw q, X'.here.running, hend, Or.inr ⟨q, rfl, E, ce, locs, hx _ hT (X'.ends _).1.alike, hcell9, hv, hcl, (X'.ends _).1, (X'.ends _).2.mono hc hs, hf⟩⟩
  rw [X.pushThrowing_eq]
  exact st
/-- a thing of a world lies in the heap -/
theorem vx_lt {D : va_G} {cl : List vw_C} {ws : va_W} {H1 : Heap} (h : va_P D cl ws H1) {k : Nat} {q : Nat × va_E} (hk : ws[k]? = some q) : q.1 < H1.size := (h k q hk).lt
end VXS
/-! ===== END ===== -/
/-! ===== BEGIN methods with a table of their own: called by a name, returning or throwing ===== -/
section VXH
/-! vx_backW, vx_callVX, vx_callSX, vx_callVW, vx_runVW, vx_runVX, vx_runSX, vx_ofWH follow the same proofs as their sisters above (Free/Laws.lean, Shelf42/LK1.lean); vx_outP calls Shelf42/NT130.lean (outThrough). -/
section
variable {l : Launch} {R : Room} {p : Program} {e : Env} {below : List Frame} {s : State} {sargs : Array Value} {y : MethodName} {len W9 : Nat}
theorem vx_backW {ws : List Cond} {rm : Room} {Pc : Array Value → State → Prop} {Qc : Array Value → State → Outcome → State → Prop} {XC : String → State → State → Prop} {mc ms : Nat} {free : Addr → Prop} {bytes : ByteArray} {maxL : Nat} {ret : Option FieldType} {hh : List (Nat × Nat × Nat × Nat)}
    (hM : vx_Met l y ws rm Pc Qc XC mc ms free) (hblind : FrameBlind Pc) (hrc : rm.cells = mc) (hrs : rm.slots = ms)
    (hframes : rm.frames + 1 ≤ R.frames) (hlocals : W9 + (maxL + 11) + rm.locals ≤ R.locals)
    (hws : ∀ w ∈ ws, ∀ a' U, s.WarmedH U.vm → w.before a' U = true) (hcode : Cond.codeWith y bytes maxL ret hh ∈ ws) (hinit : ∀ a' U, s.WarmedH U.vm → (Cond.initialized y.cls).before a' U = true) :
    vx_Back l R p e below s sargs y len W9 (PreOf R mc ms Pc) (PostOf Qc mc ms free) (vx_Post XC mc ms free) := by
  intro m meth c A g ig mk a X hg hsize hdg hW hn hp
  have h1 : (headSpec ws rm).pre.before a A.U = true := atoms_intro fun w hw => hws w hw _ _ X.warmed
  have h2 : (Cond.codeWith y bytes maxL ret hh).before a A.U = true := hws _ hcode _ _ X.warmed
  have h3 : (Cond.initialized y.cls).before a A.U = true := hinit _ _ X.warmed
  have h4 : A.cells + (headSpec ws rm).room.cells ≤ R.cells := by rw [show (headSpec ws rm).room.cells = mc from hrc]; exact hp.1
  have h5 : A.slots + (headSpec ws rm).room.slots ≤ R.slots := by rw [show (headSpec ws rm).room.slots = ms from hrs]; exact hp.2.1
  have hPc : Pc a (A.U.calling g mk a) := hblind _ _ _ _ hp.2.2
  obtain ⟨U, Ls, c0, s0⟩ := A
  dsimp only [Pt.U, Pt.locs, Pt.cells, Pt.slots] at h1 h2 h3 h4 h5 X hn hPc ⊢
  obtain ⟨m9, methY, cY, hn9, hmY, hcY, -, hlY, -⟩ := Cond.codeWith_spec h2
  cases Option.some.inj (hn9.symm.trans hn)
  obtain ⟨kY, hkY, -⟩ := className_of_methodNamed hn
  have hinitY : kY.init = .initialized := Cond.initialized_spec (findClass_of_methodNamed hn) hkY h3
  have h : At U g.method c below := by rw [hg]; exact X.here
  have hlocals9 : W9 + (maxL + 11) + (headSpec ws rm).room.locals ≤ R.locals := hlocals
  have happ : (headSpec ws rm).appliesLoose y e.platform (U.calling g mk a) = true :=
    Spec.appliesLoose_calling (g := g) h hdg hn hkY hinitY
      (X.room_calling (g := g) (R' := (headSpec ws rm).room) hsize hmY hcY hframes (by rw [hlY]; omega) h4 h5) h1
  obtain ⟨mid, hmid⟩ := h.above
  have hfr : (U.setTop g).frames = (.java g :: mid) ++ below := by rw [State.frames_setTop' g h.top, hmid]; rfl
  obtain ⟨o, s₂, hsteps, -, hend, hq⟩ := Steps.callFree hM p X.admits X.cas X.clock (acts := []) hfr happ hPc trivial
  have hq' : vx_Q Qc XC mc ms free a (U.calling g mk a) o s₂ := hq
  rw [State.frames_setTop' g h.top] at hend
  obtain ⟨g₀, hg0⟩ := Option.isSome_iff_exists.mp h.top
  obtain ⟨r, hr⟩ := State.topJava?_eq_some.mp hg0
  have hr' : (({ U with heap := s₂.heap, slotsUsed := s₂.slotsUsed } : State).setVm s₂.vm).frames = .java g₀ :: r := hr
  rcases hq' with ⟨hqc, L, hfe, hL⟩ | ⟨q, rfl, E, ce, L, hx, hce, hcv, hcl, hW₂, hsm, hL⟩
  · obtain ⟨⟨v, rfl⟩, hW₂, e2, q2, q3, q4, q5, q6⟩ := id hfe
    have e3 : s₂ = ({ (U.calling g mk a).setFrames s₂.frames with heap := s₂.heap, slotsUsed := s₂.slotsUsed } : State).setVm s₂.vm := by
      have : s₂ = ({ s₂ with vm := (U.calling g mk a).vm } : State).setVm s₂.vm := rfl
      rw [e2] at this
      exact this
    obtain ⟨c₂, i₂, len₂, hc₂, hd₂, hf₂⟩ := hend
    have hW' : U.WarmedH s₂.vm := hW₂
    have hcc : c₂ = c := by
      have h1 : s₂.code? g.method = U.code? g.method := by
        rw [State.code?_eq, State.code?_eq, hW'.alike.method?]
      exact Option.some.inj (hc₂.symm.trans (h1.trans h.code))
    subst hcc
    have hlen : len₂ = len := by rw [hdg] at hd₂; cases hd₂; rfl
    subst hlen
    have hs₂ : s₂ = (({ U with heap := s₂.heap, slotsUsed := s₂.slotsUsed } : State).setVm s₂.vm).setTop { g with pc := g.pc + len₂, stack := v.toList ++ g.stack } := by
      refine e3.trans ?_
      rw [hf₂, State.calling_eq h.top, State.setFrames_setFrames, State.setTop_of_frames _ hr', hr]
      rfl
    have hsame : U.sameButNew ({ U with heap := s₂.heap, slotsUsed := s₂.slotsUsed } : State) L mc ms := by
      refine ⟨?_, q2, q3, q4, q5, q6⟩
      obtain ⟨t, ht, -⟩ := State.frames_cons hr
      show ({ U with heap := s₂.heap, slotsUsed := s₂.slotsUsed } : State) = { U.setFrames U.frames with heap := s₂.heap, slotsUsed := s₂.slotsUsed }
      rw [State.setFrames_self ht]
    subst hg
    refine Or.inl ⟨v, ⟨(({ U with heap := s₂.heap, slotsUsed := s₂.slotsUsed } : State).setVm s₂.vm), Ls ++ L, c0 + mc, s0 + ms⟩,
      ⟨X.admits, X.cas, X.clock, X.frames, X.room, X.hears, X.method, X.code, (X.here.setHeapUsed s₂.heap s₂.slotsUsed).setVm hW'.alike, X.tail, State.WarmedH.trans X.warmed hW', X.limits, X.bytes, X.same.trans (hsame.setVm s.vm)⟩,
      ⟨g, mk, s₂, L, rfl, rfl, hqc, rfl, hL, rfl, rfl⟩, ?_⟩
    show Steps p.tables e below _ ((({ U with heap := s₂.heap, slotsUsed := s₂.slotsUsed } : State).setVm s₂.vm).setTop { g with pc := g.pc + len₂, stack := v.toList ++ g.stack })
    rw [← hs₂]
    exact hsteps
  · obtain ⟨e2, q2, q3, q4, q5, q6⟩ := id hsm
    have e3 : s₂ = ({ (U.calling g mk a).setFrames s₂.frames with heap := s₂.heap, slotsUsed := s₂.slotsUsed } : State).setVm s₂.vm := by
      have : s₂ = ({ s₂ with vm := (U.calling g mk a).vm } : State).setVm s₂.vm := rfl
      rw [e2] at this
      exact this
    have hf₂ : s₂.frames = .throwing q :: .java g :: U.frames.tail := hend
    have hW' : U.WarmedH s₂.vm := hW₂
    have hs₂ : s₂ = ((({ U with heap := s₂.heap, slotsUsed := s₂.slotsUsed } : State).setVm s₂.vm).setTop g).pushFrame (.throwing q) := by
      refine e3.trans ?_
      rw [hf₂, State.calling_eq h.top, State.setFrames_setFrames, State.pushFrame, State.frames_setTop _ hr', State.setTop_of_frames _ hr', State.setFrames_setFrames, hr]
      rfl
    have hsame : U.sameButNew ({ U with heap := s₂.heap, slotsUsed := s₂.slotsUsed } : State) L mc ms := by
      refine ⟨?_, q2, q3, q4, q5, q6⟩
      obtain ⟨t, ht, -⟩ := State.frames_cons hr
      show ({ U with heap := s₂.heap, slotsUsed := s₂.slotsUsed } : State) = { U.setFrames U.frames with heap := s₂.heap, slotsUsed := s₂.slotsUsed }
      rw [State.setFrames_self ht]
    subst hg
    refine Or.inr ⟨q, ⟨(({ U with heap := s₂.heap, slotsUsed := s₂.slotsUsed } : State).setVm s₂.vm), Ls ++ L, c0 + mc, s0 + ms⟩,
      ⟨X.admits, X.cas, X.clock, X.frames, X.room, X.hears, X.method, X.code, (X.here.setHeapUsed s₂.heap s₂.slotsUsed).setVm hW'.alike, X.tail, State.WarmedH.trans X.warmed hW', X.limits, X.bytes, X.same.trans (hsame.setVm s.vm)⟩,
      ⟨g, mk, s₂, L, E, ce, rfl, rfl, hx, hce, hcv, hcl, rfl, hL, rfl, rfl⟩, ?_⟩
    show Steps p.tables e below _ (((({ U with heap := s₂.heap, slotsUsed := s₂.slotsUsed } : State).setVm s₂.vm).setTop g).pushFrame (.throwing q))
    rw [← hs₂]
    exact hsteps
end
variable {p : Program} {l : Launch} {e : Env} {R : Room} {s : State} {m : MethodId} {args : Array Value} {below : List Frame} {meth : Method} {c : Code} {T : State} {H : Heap} {locs : List Loc} {cells slots : Nat}
theorem vx_callVX (X : Stand p l e R s m args below meth c T locs cells slots) (hexec : p.tables.exec = Jvm.exec) {own C : String} {index : Nat} {y : MethodName} {bytes : ByteArray} {maxL : Nat} {ret : Option FieldType} {hh : List (Nat × Nat × Nat × Nat)}
    (hown : s.vm.findClass own = some m.cls) (hlink : (Cond.methodLink own index y).before args s = true) (hinst : (Cond.instanceMethod y).before args s = true) (hsel : (Cond.selects C y y).before args s = true)
    (hcode : (Cond.codeWith y bytes maxL ret hh).before args s = true) (hy : y.cls ≠ "java/lang/invoke/MethodHandle" ∧ y.cls ≠ "java/lang/invoke/VarHandle")
    {W9 : Nat} {Pre : Pt → Array Value → Prop} {Post : Pt → Array Value → Option Value → Pt → Prop} {PostX : Pt → Array Value → Addr → Pt → Prop} (hK : vx_Back l R p e below s args y 3 W9 Pre Post PostX)
    {b : Addr} {cellB : Cell} (hcell : T.heap[b]? = some cellB) (hobj : cellB.vm.isStatics = false) (hcls : s.vm.findClass C = some cellB.cls)
    {g : JFrame} (hg : g.method = m) (hsize : g.locals.size = c.maxLocals) {argsL rest : List Value} (hlen : ∀ sig, parseMethodDescriptor y.desc = some sig → argsL.length = sig.parameters.length)
    (hstack : g.stack = argsL.reverse ++ .ref b :: rest) (hW : 2 * g.monitorRoom + (rest.map fun v => v.category).sum ≤ W9) (hdg : decode c.code g.pc = .ok (.invokevirtual index, 3))
    (hpre : ∀ vm₁, s.WarmedH vm₁ → Pre ⟨T.setVm vm₁, locs, cells, slots⟩ (Value.ref b :: argsL).toArray) :
    (∃ (v : Option Value) (vm₁ : Vm) (B : Pt), s.WarmedH vm₁ ∧ Stand p l e R s m args below meth c B.U B.locs B.cells B.slots ∧ Post ⟨T.setVm vm₁, locs, cells, slots⟩ (Value.ref b :: argsL).toArray v B ∧
      ∀ target, Steps p.tables e below (B.U.setTop { g with pc := g.pc + 3, stack := v.toList ++ rest }) target → Steps p.tables e below (T.setTop g) target) ∨
    (∃ (q : Addr) (vm₁ : Vm) (B : Pt), s.WarmedH vm₁ ∧ Stand p l e R s m args below meth c B.U B.locs B.cells B.slots ∧ PostX ⟨T.setVm vm₁, locs, cells, slots⟩ (Value.ref b :: argsL).toArray q B ∧
      Steps p.tables e below (T.setTop g) ((B.U.setTop { g with stack := rest }).pushFrame (.throwing q))) := by
  obtain ⟨mk, methM, hnamed, hmethM, hstM, habM⟩ := Cond.instanceMethod_spec hinst
  obtain ⟨m8, methM', cM, hn8, hmethM', -, -, -, -, -, -, hsigM⟩ := Cond.codeWith_spec hcode
  cases Option.some.inj (hn8.symm.trans hnamed)
  cases hmethM.symm.trans hmethM'
  obtain ⟨c2, r2, m2, q1, q2, q3, q4, kP, hkP, hkPi⟩ := Cond.selects_spec hsel
  cases hcls.symm.trans q1
  cases (State.methodFound?_of_named hnamed hy).symm.trans q2
  cases hnamed.symm.trans q3
  have hselP : selectMethod e.platform s.vm cellB.cls mk = .method mk := by rw [Launch.admits_selectMethod X.admits]; exact q4
  obtain ⟨vm₁, X₁, hstep₁⟩ := X.invokevirtual hexec hown hlink hnamed hmethM hstM hkP hkPi hy (a := b) (cell := cellB) hcell
    (fun z h => by rw [h] at hobj; cases hobj) hselP hmethM habM hkP hkPi (g := g) hg (argsL := argsL) (rest := rest) (hlen _ hsigM) hstack hdg
  rcases hK m meth c ⟨T.setVm vm₁, locs, cells, slots⟩ { g with stack := rest } (.invokevirtual index) mk (Value.ref b :: argsL).toArray X₁ hg hsize hdg hW (X₁.named hnamed) (hpre vm₁ X₁.warmed) with ⟨v, B, X', hpost, hsteps⟩ | ⟨q, B, X', hpost, hsteps⟩
  · exact Or.inl ⟨v, vm₁, B, X₁.warmed, X', hpost, fun target h => hstep₁ _ fun acts => by rw [doInvoke_state]; exact hsteps.trans h⟩
  · exact Or.inr ⟨q, vm₁, B, X₁.warmed, X', hpost, hstep₁ _ fun acts => by rw [doInvoke_state]; exact hsteps⟩
theorem vx_callSX (X : Stand p l e R s m args below meth c T locs cells slots) (hexec : p.tables.exec = Jvm.exec) {own : String} {index : Nat} {y : MethodName} {bytes : ByteArray} {maxL : Nat} {ret : Option FieldType} {hh : List (Nat × Nat × Nat × Nat)}
    (hown : s.vm.findClass own = some m.cls) (hlink : (Cond.methodLink own index y).before args s = true) (hstat : (Cond.static y).before args s = true) (hinit : (Cond.initialized y.cls).before args s = true)
    (hcode : (Cond.codeWith y bytes maxL ret hh).before args s = true) (hy : y.cls ≠ "java/lang/invoke/MethodHandle" ∧ y.cls ≠ "java/lang/invoke/VarHandle")
    {W9 : Nat} {Pre : Pt → Array Value → Prop} {Post : Pt → Array Value → Option Value → Pt → Prop} {PostX : Pt → Array Value → Addr → Pt → Prop} (hK : vx_Back l R p e below s args y 3 W9 Pre Post PostX)
    {g : JFrame} (hg : g.method = m) (hsize : g.locals.size = c.maxLocals) {argsL rest : List Value} (hlen : ∀ sig, parseMethodDescriptor y.desc = some sig → argsL.length = sig.parameters.length)
    (hstack : g.stack = argsL.reverse ++ rest) (hW : 2 * g.monitorRoom + (rest.map fun v => v.category).sum ≤ W9) (hdg : decode c.code g.pc = .ok (.invokestatic index, 3))
    (hpre : ∀ vm₁, s.WarmedH vm₁ → Pre ⟨T.setVm vm₁, locs, cells, slots⟩ argsL.toArray) :
    (∃ (v : Option Value) (vm₁ : Vm) (B : Pt), s.WarmedH vm₁ ∧ Stand p l e R s m args below meth c B.U B.locs B.cells B.slots ∧ Post ⟨T.setVm vm₁, locs, cells, slots⟩ argsL.toArray v B ∧
      ∀ target, Steps p.tables e below (B.U.setTop { g with pc := g.pc + 3, stack := v.toList ++ rest }) target → Steps p.tables e below (T.setTop g) target) ∨
    (∃ (q : Addr) (vm₁ : Vm) (B : Pt), s.WarmedH vm₁ ∧ Stand p l e R s m args below meth c B.U B.locs B.cells B.slots ∧ PostX ⟨T.setVm vm₁, locs, cells, slots⟩ argsL.toArray q B ∧
      Steps p.tables e below (T.setTop g) ((B.U.setTop { g with stack := rest }).pushFrame (.throwing q))) := by
  obtain ⟨mk, methM, cM, hnamed, hmethM, -, -, -, -, -, -, hsigM⟩ := Cond.codeWith_spec hcode
  have hstatic : methM.isStatic = true := Cond.static_spec hnamed hmethM hstat
  obtain ⟨kP, hkP, -⟩ := className_of_methodNamed hnamed
  have hinitP : kP.init = .initialized := Cond.initialized_spec (findClass_of_methodNamed hnamed) hkP hinit
  obtain ⟨vm₁, X₁, hstep₁⟩ := X.invokestatic hexec hown hlink hnamed hmethM hstatic hkP hinitP hy (g := g) hg (argsL := argsL) (rest := rest) (hlen _ hsigM) hstack hdg
  rcases hK m meth c ⟨T.setVm vm₁, locs, cells, slots⟩ { g with stack := rest } (.invokestatic index) mk argsL.toArray X₁ hg hsize hdg hW (X₁.named hnamed) (hpre vm₁ X₁.warmed) with ⟨v, B, X', hpost, hsteps⟩ | ⟨q, B, X', hpost, hsteps⟩
  · exact Or.inl ⟨v, vm₁, B, X₁.warmed, X', hpost, fun target h => hstep₁ _ fun acts => by rw [doInvoke_state]; exact hsteps.trans h⟩
  · exact Or.inr ⟨q, vm₁, B, X₁.warmed, X', hpost, hstep₁ _ fun acts => by rw [doInvoke_state]; exact hsteps⟩
theorem vx_callVW (X : Stand p l e R s m args below meth c T locs cells slots) (hexec : p.tables.exec = Jvm.exec) {own C : String} {index : Nat} {y : MethodName} {bytes : ByteArray} {maxL : Nat} {ret : Option FieldType} {hh : List (Nat × Nat × Nat × Nat)}
    (hown : s.vm.findClass own = some m.cls) (hlink : (Cond.methodLink own index y).before args s = true) (hinst : (Cond.instanceMethod y).before args s = true) (hsel : (Cond.selects C y y).before args s = true)
    (hcode : (Cond.codeWith y bytes maxL ret hh).before args s = true) (hy : y.cls ≠ "java/lang/invoke/MethodHandle" ∧ y.cls ≠ "java/lang/invoke/VarHandle")
    {W9 : Nat} {Pre : Pt → Array Value → Prop} {Post : Pt → Array Value → Option Value → Pt → Prop} (hK : Back l R p e below s args y 3 W9 Pre Post)
    {b : Addr} {cellB : Cell} (hcell : T.heap[b]? = some cellB) (hobj : cellB.vm.isStatics = false) (hcls : s.vm.findClass C = some cellB.cls)
    {g : JFrame} (hg : g.method = m) (hsize : g.locals.size = c.maxLocals) {argsL rest : List Value} (hlen : ∀ sig, parseMethodDescriptor y.desc = some sig → argsL.length = sig.parameters.length)
    (hstack : g.stack = argsL.reverse ++ .ref b :: rest) (hW : 2 * g.monitorRoom + (rest.map fun v => v.category).sum ≤ W9) (hdg : decode c.code g.pc = .ok (.invokevirtual index, 3))
    (hpre : ∀ vm₁, s.WarmedH vm₁ → Pre ⟨T.setVm vm₁, locs, cells, slots⟩ (Value.ref b :: argsL).toArray) :
    ∃ (v : Option Value) (vm₁ : Vm) (B : Pt), s.WarmedH vm₁ ∧ Stand p l e R s m args below meth c B.U B.locs B.cells B.slots ∧ Post ⟨T.setVm vm₁, locs, cells, slots⟩ (Value.ref b :: argsL).toArray v B ∧
      ∀ target, Steps p.tables e below (B.U.setTop { g with pc := g.pc + 3, stack := v.toList ++ rest }) target → Steps p.tables e below (T.setTop g) target := by
  obtain ⟨mk, methM, hnamed, hmethM, hstM, habM⟩ := Cond.instanceMethod_spec hinst
  obtain ⟨m8, methM', cM, hn8, hmethM', -, -, -, -, -, -, hsigM⟩ := Cond.codeWith_spec hcode
  cases Option.some.inj (hn8.symm.trans hnamed)
  cases hmethM.symm.trans hmethM'
  obtain ⟨c2, r2, m2, q1, q2, q3, q4, kP, hkP, hkPi⟩ := Cond.selects_spec hsel
  cases hcls.symm.trans q1
  cases (State.methodFound?_of_named hnamed hy).symm.trans q2
  cases hnamed.symm.trans q3
  have hselP : selectMethod e.platform s.vm cellB.cls mk = .method mk := by rw [Launch.admits_selectMethod X.admits]; exact q4
  obtain ⟨vm₁, X₁, hstep₁⟩ := X.invokevirtual hexec hown hlink hnamed hmethM hstM hkP hkPi hy (a := b) (cell := cellB) hcell
    (fun z h => by rw [h] at hobj; cases hobj) hselP hmethM habM hkP hkPi (g := g) hg (argsL := argsL) (rest := rest) (hlen _ hsigM) hstack hdg
  obtain ⟨v, B, X', hpost, hsteps⟩ := hK m meth c ⟨T.setVm vm₁, locs, cells, slots⟩ { g with stack := rest } (.invokevirtual index) mk (Value.ref b :: argsL).toArray X₁ hg hsize hdg hW (X₁.named hnamed) (hpre vm₁ X₁.warmed)
  exact ⟨v, vm₁, B, X₁.warmed, X', hpost, fun target h => hstep₁ _ fun acts => by rw [doInvoke_state]; exact hsteps.trans h⟩
abbrev vx_CVW (R : Room) (s : State) (args : Array Value) (own C : String) (index : Nat) (y : MethodName) (bytes : ByteArray) (maxL : Nat) (ret : Option FieldType) (hh : List (Nat × Nat × Nat × Nat)) (ws : List Cond) (rm : Room) (mc ms n : Nat) : Prop :=
  (rm.cells = mc ∧ rm.slots = ms ∧ rm.frames + 1 ≤ R.frames ∧ 8 + (maxL + 11) + rm.locals ≤ R.locals ∧ (∀ w ∈ ws, ∀ (a' : Array Value) (U : State), s.WarmedH U.vm → w.before a' U = true) ∧ Cond.codeWith y bytes maxL ret hh ∈ ws) ∧
  (Cond.codeWith y bytes maxL ret hh).before args s = true ∧ (Cond.initialized y.cls).before args s = true ∧ (y.cls ≠ "java/lang/invoke/MethodHandle" ∧ y.cls ≠ "java/lang/invoke/VarHandle") ∧
  (∀ sig, parseMethodDescriptor y.desc = some sig → n = sig.parameters.length) ∧ (Cond.methodLink own index y).before args s = true ∧ (Cond.instanceMethod y).before args s = true ∧ (Cond.selects C y y).before args s = true
theorem vx_cwVW {own C : String} {index maxL mc ms : Nat} {y : MethodName} {bytes : ByteArray} {ret : Option FieldType} {hh : List (Nat × Nat × Nat × Nat)} {Ts ws ws' : List Cond} {rm : Room} (n : Nat) (ht : ∀ w ∈ Ts, w.before args s = true) (hT : GoodIn Ts (wsV own index C y ws)) (hw : ws = Cond.codeWith y bytes maxL ret hh :: ws') (hrc : rm.cells = mc) (hrs : rm.slots = ms)
    (hd : y.cls = C ∧ y.cls ≠ "java/lang/invoke/MethodHandle" ∧ y.cls ≠ "java/lang/invoke/VarHandle" ∧ (parseMethodDescriptor y.desc).map (fun d => d.parameters.length) = some n) (hR : rm.frames + 1 ≤ R.frames ∧ 8 + (maxL + 11) + rm.locals ≤ R.locals) :
    vx_CVW R s args own C index y bytes maxL ret hh ws rm mc ms n := by
  obtain ⟨hC, hd⟩ := hd
  subst hC
  have ok : ∀ w ∈ wsV own index y.cls y ws, w.before args s = true := fun w h => ht w (hT w h).1
  have hG : GoodIn Ts ws := fun w h => hT w (by unfold wsV; exact List.mem_append_right _ h)
  have hc : Cond.codeWith y bytes maxL ret hh ∈ ws := by rw [hw]; exact List.mem_cons_self
  refine ⟨⟨hrc, hrs, hR.1, hR.2, pay_in ht hG, hc⟩, ht _ (hG _ hc).1, ok _ (by simp [wsV]), ⟨hd.1, hd.2.1⟩, fun sig h => ?_, ok _ (by simp [wsV]), ok _ (by simp [wsV]), ok _ (by simp [wsV])⟩
  have h2 := hd.2.2
  rw [h] at h2
  exact (Option.some.inj h2).symm
theorem vx_runVW {y : MethodName} {bytes cc : ByteArray} {maxL nL mc ms n index : Nat} {ret : Option FieldType} {hh : List (Nat × Nat × Nat × Nat)} {ws : List Cond} {rm : Room} {Pc : Array Value → State → Prop} {Qc : Array Value → State → Outcome → State → Prop} {free : Addr → Prop} {Ts : List Cond} {own C : String} {b : Addr} {As rest : List Value} {g : JFrame}
    (S : CallFix p m c cc nL s args Ts own) (hM : Met l y ws rm Pc Qc mc ms free) (cw : vx_CVW R s args own C index y bytes maxL ret hh ws rm mc ms n) (hp : PreV s H C b Pc As)
    (hg : g.method = m) (hn : As.length = n) (hsize : g.locals.size = nL) (hstack : g.stack = As.reverse ++ .ref b :: rest) (hW : 2 * g.monitorRoom + (rest.map fun v => v.category).sum ≤ 8) (hdg : decode cc g.pc = .ok (.invokevirtual index, 3)) (hf : cells + mc ≤ R.cells ∧ slots + ms ≤ R.slots) :
    va_Run p l e R s m args below meth c H locs cells slots mc ms g rest (Qc (Value.ref b :: As).toArray) free := by
  obtain ⟨⟨hrc, hrs, hfr, hlo, hws, hcw⟩, hcode, hini, hy, hlen, hl, hin, hse⟩ := cw
  have hK : Back l R p e below s args y 3 8 (PreOf R mc ms Pc) (PostOf Qc mc ms free) := va_backW (hh := hh) (bytes := bytes) (maxL := maxL) (ret := ret) hM hp.1 hrc hrs hfr hlo hws hcw (fun a' U hW => word_at hW (Or.inl (by first | rfl | simp [Cond.onTables, Cond.keeps, Cond.steady])) hini)
  obtain ⟨hx, hb, hml, ho, -⟩ := S
  obtain ⟨-, ⟨cellB, hcB, hoB, hclB⟩, hPc⟩ := hp
  intro T hT X
  obtain ⟨v, vm₁, ⟨U', l2, c2, s2⟩, hW₁, X', ⟨g', mk, t, L, e1, e2, hq, h1, hL, h2, h3⟩, st⟩ := vx_callVW X hx (C := C) (hh := hh) (bytes := bytes) (maxL := maxL) (ret := ret) ho hl hin hse hcode hy hK (by rw [hT]; exact hcB) hoB hclB hg (hsize.trans hml.symm) (argsL := As) (rest := rest) (fun sig h => hn.trans (hlen sig h)) hstack hW (by rw [hb]; exact hdg)
    (fun vm₁ hW₁ => ⟨hf.1, hf.2, hPc (T.setVm vm₁) hT hW₁⟩)
  dsimp only [Pt.U, Pt.locs, Pt.cells, Pt.slots] at X' e1 e2 h1 h2 h3 st
  subst h1; subst h2; subst h3
  exact ⟨v, (T.setVm vm₁).calling g' mk (Value.ref b :: As).toArray, t, U', L, hT, X', hL, e1, e2, hq, st⟩
section
variable {y : MethodName} {bytes cc : ByteArray} {maxL nL mc ms n index : Nat} {ret : Option FieldType} {ws : List Cond} {rm : Room} {Pc : Array Value → State → Prop} {Qc : Array Value → State → Outcome → State → Prop} {XC : String → State → State → Prop} {free : Addr → Prop} {Ts : List Cond} {own C : String} {b : Addr} {As rest : List Value} {g : JFrame}
theorem vx_runVX {hh : List (Nat × Nat × Nat × Nat)} (S : CallFix p m c cc nL s args Ts own) (hM : vx_Met l y ws rm Pc Qc XC mc ms free) (cw : vx_CVW R s args own C index y bytes maxL ret hh ws rm mc ms n) (hp : PreV s H C b Pc As)
    (hg : g.method = m) (hn : As.length = n) (hsize : g.locals.size = nL) (hstack : g.stack = As.reverse ++ .ref b :: rest) (hW : 2 * g.monitorRoom + (rest.map fun v => v.category).sum ≤ 8) (hdg : decode cc g.pc = .ok (.invokevirtual index, 3)) (hf : cells + mc ≤ R.cells ∧ slots + ms ≤ R.slots) :
    vx_Run p l e R s m args below meth c H locs cells slots mc ms g rest (Qc (Value.ref b :: As).toArray) XC free := by
  obtain ⟨⟨hrc, hrs, hfr, hlo, hws, hcw⟩, hcode, hini, hy, hlen, hl, hin, hse⟩ := cw
  have hK : vx_Back l R p e below s args y 3 8 (PreOf R mc ms Pc) (PostOf Qc mc ms free) (vx_Post XC mc ms free) := vx_backW (hh := hh) (bytes := bytes) (maxL := maxL) (ret := ret) hM hp.1 hrc hrs hfr hlo hws hcw (fun a' U hW => word_at hW (Or.inl (by first | rfl | simp [Cond.onTables, Cond.keeps, Cond.steady])) hini)
  obtain ⟨hx, hb, hml, ho, -⟩ := S
  obtain ⟨-, ⟨cellB, hcB, hoB, hclB⟩, hPc⟩ := hp
  intro T hT X
  rcases vx_callVX X hx (C := C) (hh := hh) (bytes := bytes) (maxL := maxL) (ret := ret) ho hl hin hse hcode hy hK (by rw [hT]; exact hcB) hoB hclB hg (hsize.trans hml.symm) (argsL := As) (rest := rest) (fun sig h => hn.trans (hlen sig h)) hstack hW (by rw [hb]; exact hdg)
    (fun vm₁ hW₁ => ⟨hf.1, hf.2, hPc (T.setVm vm₁) hT hW₁⟩) with ⟨v, vm₁, ⟨U', l2, c2, s2⟩, hW₁, X', ⟨g', mk, t, L, e1, e2, hq, h1, hL, h2, h3⟩, st⟩ | ⟨q, vm₁, ⟨U', l2, c2, s2⟩, hW₁, X', ⟨g', mk, t, L, E, ce, e1, e2, hq, hce, hcv, hcl, h1, hL, h2, h3⟩, st⟩
  · dsimp only [Pt.U, Pt.locs, Pt.cells, Pt.slots] at X' e1 e2 h1 h2 h3 st
    subst h1; subst h2; subst h3
    exact Or.inl ⟨v, (T.setVm vm₁).calling g' mk (Value.ref b :: As).toArray, t, U', L, hT, X', hL, e1, e2, hq, st⟩
  · dsimp only [Pt.U, Pt.locs, Pt.cells, Pt.slots] at X' e1 e2 h1 h2 h3 st hcl
    subst h1; subst h2; subst h3
    exact Or.inr ⟨q, (T.setVm vm₁).calling g' mk (Value.ref b :: As).toArray, t, U', L, E, ce, hT, X', hL, e1, e2, hq, hce, hcv, vx_cls hW₁ hcl, st⟩
theorem vx_runSX {hh : List (Nat × Nat × Nat × Nat)} (S : CallFix p m c cc nL s args Ts own) (hM : vx_Met l y ws rm Pc Qc XC mc ms free) (cw : vx_CSW R s args own index y bytes maxL ret hh ws rm mc ms n) (hp : PreS s H Pc As)
    (hg : g.method = m) (hn : As.length = n) (hsize : g.locals.size = nL) (hstack : g.stack = As.reverse ++ rest) (hW : 2 * g.monitorRoom + (rest.map fun v => v.category).sum ≤ 8) (hdg : decode cc g.pc = .ok (.invokestatic index, 3)) (hf : cells + mc ≤ R.cells ∧ slots + ms ≤ R.slots) :
    vx_Run p l e R s m args below meth c H locs cells slots mc ms g rest (Qc As.toArray) XC free := by
  obtain ⟨⟨hrc, hrs, hfr, hlo, hws, hcw⟩, hcode, hini, hy, hlen, hl, hstt⟩ := cw
  have hK : vx_Back l R p e below s args y 3 8 (PreOf R mc ms Pc) (PostOf Qc mc ms free) (vx_Post XC mc ms free) := vx_backW (hh := hh) (bytes := bytes) (maxL := maxL) (ret := ret) hM hp.1 hrc hrs hfr hlo hws hcw (fun a' U hW => word_at hW (Or.inl (by first | rfl | simp [Cond.onTables, Cond.keeps, Cond.steady])) hini)
  obtain ⟨hx, hb, hml, ho, -⟩ := S
  intro T hT X
  rcases vx_callSX X hx (hh := hh) (bytes := bytes) (maxL := maxL) (ret := ret) ho hl hstt hini hcode hy hK hg (hsize.trans hml.symm) (argsL := As) (rest := rest) (fun sig h => hn.trans (hlen sig h)) hstack hW (by rw [hb]; exact hdg)
    (fun vm₁ hW₁ => ⟨hf.1, hf.2, hp.2 (T.setVm vm₁) hT hW₁⟩) with ⟨v, vm₁, ⟨U', l2, c2, s2⟩, hW₁, X', ⟨g', mk, t, L, e1, e2, hq, h1, hL, h2, h3⟩, st⟩ | ⟨q, vm₁, ⟨U', l2, c2, s2⟩, hW₁, X', ⟨g', mk, t, L, E, ce, e1, e2, hq, hce, hcv, hcl, h1, hL, h2, h3⟩, st⟩
  · dsimp only [Pt.U, Pt.locs, Pt.cells, Pt.slots] at X' e1 e2 h1 h2 h3 st
    subst h1; subst h2; subst h3
    exact Or.inl ⟨v, (T.setVm vm₁).calling g' mk As.toArray, t, U', L, hT, X', hL, e1, e2, hq, st⟩
  · dsimp only [Pt.U, Pt.locs, Pt.cells, Pt.slots] at X' e1 e2 h1 h2 h3 st hcl
    subst h1; subst h2; subst h3
    exact Or.inr ⟨q, (T.setVm vm₁).calling g' mk As.toArray, t, U', L, E, ce, hT, X', hL, e1, e2, hq, hce, hcv, vx_cls hW₁ hcl, st⟩
end
end VXH
theorem vx_ofWH {l : Launch} {y : MethodName} {ws ws' : List Cond} {rm : Room} {Pc : Array Value → State → Prop} {Qc : Array Value → State → Outcome → State → Prop} {XC : String → State → State → Prop} {mc ms : Nat} {free : Addr → Prop} {cc : ByteArray} {maxL : Nat} {ret : Option FieldType} {hh : List (Nat × Nat × Nat × Nat)}
    (hy : plainName y.cls = true) (hw : ws = Cond.codeWith y cc maxL ret hh :: ws')
    (body : ∀ p e s m args below meth c s₁, BodyLoose p l y (headSpec ws rm) cc maxL ret e s m args below meth c s₁ → c.maxLocals = maxL → Pc args s →
      W p l e (headSpec ws rm).room s m args below meth c s.heap [] 0 0 (vx_MQ below Qc XC args s mc ms free) (entryFrame m args maxL)) : vx_Met l y ws rm Pc Qc XC mc ms free := by
  refine MetFree.of_bodyS (code := cc) (maxLocals := maxL) (ret := ret) hy ?_ ?_
  · intro args s m h hn
    obtain ⟨m9, meth, c, hn9, h1, h2, h3, h4, -, h5, h6, -⟩ := Cond.codeWith_spec (atoms_spec (ws := ws) h _ (by rw [hw]; exact List.mem_cons_self))
    cases hn.symm.trans hn9
    exact ⟨meth, c, h1, h2, h3, h4, h5, h6⟩
  · intro p e s m args below meth c s₁ B hml hP _
    have hh0 : s₁.heap = s.heap := by rw [B.state]; rfl
    obtain ⟨t, a1, o, b1, b2, b3⟩ := body p e s m args below meth c s₁ B hml hP s₁ hh0 (Stand.of_body B)
    exact ⟨t, o, a1, b1, b2, b3⟩
/-! ===== END ===== -/
end
section
/-! NAMES, by program out of the listing: classes, fields, codes, methods. -/
def R_X : String := "StockRows2"
def F_X : u_T := fun k => match k with
  | 0 => ("StockRows2", "lotRows", "LStockRows2$Rows;", true)
  | 1 => ("StockRows2", "moveRows", "LStockRows2$Rows;", true)
  | 2 => ("StockRows2", "orderRows", "LStockRows2$Rows;", true)
  | 3 => ("StockRows2", "emergencyRows", "LStockRows2$Rows;", true)
  | 4 => ("StockRows2", "differenceRows", "LStockRows2$Rows;", true)
  | 5 => ("StockRows2", "table", "LStockRows2$Table;", true)
  | 6 => ("StockRows2", "there", "[I", true)
  | 7 => ("StockRows2", "least", "[I", true)
  | 8 => ("StockRows2", "most", "[I", true)
  | 9 => ("StockRows2", "parts", "[I", true)
  | 10 => ("StockRows2", "stores", "I", false)
  | _ => ("StockRows2", "day", "I", false)
def ty_X : Nat → FieldType := fun k => match k with
  | 0 => .object "StockRows2$Rows"
  | 1 => .object "StockRows2$Rows"
  | 2 => .object "StockRows2$Rows"
  | 3 => .object "StockRows2$Rows"
  | 4 => .object "StockRows2$Rows"
  | 5 => .object "StockRows2$Table"
  | 6 => .array .int
  | 7 => .array .int
  | 8 => .array .int
  | 9 => .array .int
  | 10 => .int
  | _ => .int
theorem n_X : ∀ a, a < 12 → ∀ b, b < 12 → a ≠ b → (F_X a).2.1 ≠ (F_X b).2.1 := by decide +kernel
theorem ty_X_ok : ∀ k, k < 12 → parseFieldDescriptor (F_X k).2.2.1 = some (ty_X k) := by decide +kernel
def R_W : String := "StockRows2$Rows"
def F_W : u_T := fun k => match k with
  | 0 => ("StockRows2$Rows", "room", "I", true)
  | 1 => ("StockRows2$Rows", "cells", "[I", true)
  | _ => ("StockRows2$Rows", "made", "I", false)
def ty_W : Nat → FieldType := fun k => match k with
  | 0 => .int
  | 1 => .array .int
  | _ => .int
theorem n_W : ∀ a, a < 3 → ∀ b, b < 3 → a ≠ b → (F_W a).2.1 ≠ (F_W b).2.1 := by decide +kernel
theorem ty_W_ok : ∀ k, k < 3 → parseFieldDescriptor (F_W k).2.2.1 = some (ty_W k) := by decide +kernel
def R_H : String := "StockRows2$Table"
def F_H : u_T := fun k => match k with
  | 0 => ("StockRows2$Table", "heights", "[I", true)
  | 1 => ("StockRows2$Table", "litres", "[I", true)
  | _ => ("StockRows2$Table", "made", "I", false)
def ty_H : Nat → FieldType := fun k => match k with
  | 0 => .array .int
  | 1 => .array .int
  | _ => .int
theorem n_H : ∀ a, a < 3 → ∀ b, b < 3 → a ≠ b → (F_H a).2.1 ≠ (F_H b).2.1 := by decide +kernel
theorem ty_H_ok : ∀ k, k < 3 → parseFieldDescriptor (F_H k).2.2.1 = some (ty_H k) := by decide +kernel
def R_M : String := "StockRows2Model"
def F_M : u_T := fun k => match k with
  | 0 => ("StockRows2Model", "thrown", "I", false)
  | 1 => ("StockRows2Model", "day", "I", false)
  | 2 => ("StockRows2Model", "stores", "I", false)
  | 3 => ("StockRows2Model", "lots", "I", false)
  | 4 => ("StockRows2Model", "kind", "[I", true)
  | 5 => ("StockRows2Model", "end", "[I", true)
  | 6 => ("StockRows2Model", "out", "[I", true)
  | 7 => ("StockRows2Model", "wasted", "[I", true)
  | 8 => ("StockRows2Model", "paper", "[I", true)
  | 9 => ("StockRows2Model", "has", "[I", true)
  | 10 => ("StockRows2Model", "moves", "I", false)
  | 11 => ("StockRows2Model", "moveTo", "[I", true)
  | 12 => ("StockRows2Model", "moveLot", "[I", true)
  | 13 => ("StockRows2Model", "moveMany", "[I", true)
  | 14 => ("StockRows2Model", "arrives", "[I", true)
  | 15 => ("StockRows2Model", "onWay", "[Z", true)
  | 16 => ("StockRows2Model", "isLevel", "[Z", true)
  | 17 => ("StockRows2Model", "least", "[I", true)
  | 18 => ("StockRows2Model", "most", "[I", true)
  | 19 => ("StockRows2Model", "orders", "I", false)
  | 20 => ("StockRows2Model", "orderStore", "[I", true)
  | 21 => ("StockRows2Model", "orderKind", "[I", true)
  | 22 => ("StockRows2Model", "orderMany", "[I", true)
  | 23 => ("StockRows2Model", "orderDay", "[I", true)
  | 24 => ("StockRows2Model", "open", "[Z", true)
  | 25 => ("StockRows2Model", "emergencies", "I", false)
  | 26 => ("StockRows2Model", "emStore", "[I", true)
  | 27 => ("StockRows2Model", "emKind", "[I", true)
  | 28 => ("StockRows2Model", "emMany", "[I", true)
  | 29 => ("StockRows2Model", "emPerson", "[I", true)
  | 30 => ("StockRows2Model", "emDone", "[Z", true)
  | 31 => ("StockRows2Model", "rows", "I", false)
  | 32 => ("StockRows2Model", "row", "[I", true)
  | 33 => ("StockRows2Model", "parts", "[I", true)
  | 34 => ("StockRows2Model", "heights", "I", false)
  | 35 => ("StockRows2Model", "height", "[I", true)
  | _ => ("StockRows2Model", "litres", "[I", true)
def ty_M : Nat → FieldType := fun k => match k with
  | 0 => .int
  | 1 => .int
  | 2 => .int
  | 3 => .int
  | 4 => .array .int
  | 5 => .array .int
  | 6 => .array .int
  | 7 => .array .int
  | 8 => .array .int
  | 9 => .array .int
  | 10 => .int
  | 11 => .array .int
  | 12 => .array .int
  | 13 => .array .int
  | 14 => .array .int
  | 15 => .array .boolean
  | 16 => .array .boolean
  | 17 => .array .int
  | 18 => .array .int
  | 19 => .int
  | 20 => .array .int
  | 21 => .array .int
  | 22 => .array .int
  | 23 => .array .int
  | 24 => .array .boolean
  | 25 => .int
  | 26 => .array .int
  | 27 => .array .int
  | 28 => .array .int
  | 29 => .array .int
  | 30 => .array .boolean
  | 31 => .int
  | 32 => .array .int
  | 33 => .array .int
  | 34 => .int
  | 35 => .array .int
  | _ => .array .int
theorem n_M : ∀ a, a < 37 → ∀ b, b < 37 → a ≠ b → (F_M a).2.1 ≠ (F_M b).2.1 := by decide +kernel
theorem ty_M_ok : ∀ k, k < 37 → parseFieldDescriptor (F_M k).2.2.1 = some (ty_M k) := by decide +kernel
def R_L : String := "StockRows2Law"
abbrev classes : List vw_C := [(R_X, F_X, 12), (R_W, F_W, 3), (R_H, F_H, 3), (R_M, F_M, 37)]
/-- the words that hold wherever the tables are warm -/
def bg : List Cond := lw_tbl.filter goodWord
theorem bgm {w : Cond} (k : Nat) (h : lw_tbl[k]? = some w) (hg : goodWord w = true) : w ∈ bg := List.mem_filter.mpr ⟨List.mem_of_getElem? h, hg⟩
abbrev b_X_init : ByteArray := prog_1_method_1_code
def y_X_init : MethodName := ⟨R_X, "<init>", "()V"⟩
abbrev b_X_store : ByteArray := prog_1_method_2_code
def y_X_store : MethodName := ⟨R_X, "store", "()I"⟩
abbrev b_X_lot : ByteArray := prog_1_method_3_code
def y_X_lot : MethodName := ⟨R_X, "lot", "(II)I"⟩
abbrev b_X_bring : ByteArray := prog_1_method_4_code
def y_X_bring : MethodName := ⟨R_X, "bring", "(III)I"⟩
abbrev b_X_move : ByteArray := prog_1_method_5_code
def y_X_move : MethodName := ⟨R_X, "move", "(IIIII)I"⟩
abbrev b_X_use : ByteArray := prog_1_method_6_code
def y_X_use : MethodName := ⟨R_X, "use", "(III)I"⟩
abbrev b_X_sum : ByteArray := prog_1_method_7_code
def y_X_sum : MethodName := ⟨R_X, "sum", "(III)I"⟩
abbrev b_X_has : ByteArray := prog_1_method_8_code
def y_X_has : MethodName := ⟨R_X, "has", "(II)I"⟩
abbrev b_X_level : ByteArray := prog_1_method_9_code
def y_X_level : MethodName := ⟨R_X, "level", "(IIII)V"⟩
abbrev b_X_orders : ByteArray := prog_1_method_10_code
def y_X_orders : MethodName := ⟨R_X, "orders", "()I"⟩
abbrev b_X_order : ByteArray := prog_1_method_11_code
def y_X_order : MethodName := ⟨R_X, "order", "(II)I"⟩
abbrev b_X_deliver : ByteArray := prog_1_method_12_code
def y_X_deliver : MethodName := ⟨R_X, "deliver", "(II)I"⟩
abbrev b_X_emergency : ByteArray := prog_1_method_13_code
def y_X_emergency : MethodName := ⟨R_X, "emergency", "(IIII)I"⟩
abbrev b_X_second : ByteArray := prog_1_method_14_code
def y_X_second : MethodName := ⟨R_X, "second", "(II)I"⟩
abbrev b_X_count : ByteArray := prog_1_method_15_code
def y_X_count : MethodName := ⟨R_X, "count", "(IIII)I"⟩
abbrev b_X_difference : ByteArray := prog_1_method_16_code
def y_X_difference : MethodName := ⟨R_X, "difference", "(II)I"⟩
abbrev b_X_kit : ByteArray := prog_1_method_17_code
def y_X_kit : MethodName := ⟨R_X, "kit", "(III)V"⟩
abbrev b_X_give : ByteArray := prog_1_method_18_code
def y_X_give : MethodName := ⟨R_X, "give", "(II)I"⟩
abbrev b_X_back : ByteArray := prog_1_method_19_code
def y_X_back : MethodName := ⟨R_X, "back", "(III)Z"⟩
abbrev b_X_waste : ByteArray := prog_1_method_20_code
def y_X_waste : MethodName := ⟨R_X, "waste", "(IIII)I"⟩
abbrev b_X_lotAt : ByteArray := prog_1_method_21_code
def y_X_lotAt : MethodName := ⟨R_X, "lotAt", "(II)I"⟩
abbrev b_X_row : ByteArray := prog_1_method_22_code
def y_X_row : MethodName := ⟨R_X, "row", "(II)I"⟩
abbrev b_X_dip : ByteArray := prog_1_method_23_code
def y_X_dip : MethodName := ⟨R_X, "dip", "(I)I"⟩
abbrev b_X_tick : ByteArray := prog_1_method_24_code
def y_X_tick : MethodName := ⟨R_X, "tick", "(I)I"⟩
abbrev b_X_needStore : ByteArray := prog_1_method_25_code
def y_X_needStore : MethodName := ⟨R_X, "needStore", "(I)V"⟩
abbrev b_X_needLot : ByteArray := prog_1_method_26_code
def y_X_needLot : MethodName := ⟨R_X, "needLot", "(I)V"⟩
abbrev b_X_needRow : ByteArray := prog_1_method_27_code
def y_X_needRow : MethodName := ⟨R_X, "needRow", "(LStockRows2$Rows;I)V"⟩
abbrev b_X_needKind : ByteArray := prog_1_method_28_code
def y_X_needKind : MethodName := ⟨R_X, "needKind", "(I)V"⟩
abbrev b_X_needPerson : ByteArray := prog_1_method_29_code
def y_X_needPerson : MethodName := ⟨R_X, "needPerson", "(I)V"⟩
abbrev b_X_needKit : ByteArray := prog_1_method_30_code
def y_X_needKit : MethodName := ⟨R_X, "needKit", "(I)V"⟩
abbrev b_X_needRange : ByteArray := prog_1_method_31_code
def y_X_needRange : MethodName := ⟨R_X, "needRange", "(III)V"⟩
abbrev b_X_needThere : ByteArray := prog_1_method_32_code
def y_X_needThere : MethodName := ⟨R_X, "needThere", "(III)V"⟩
abbrev b_X_needPlace : ByteArray := prog_1_method_33_code
def y_X_needPlace : MethodName := ⟨R_X, "needPlace", "(III)V"⟩
abbrev b_X_needRoom : ByteArray := prog_1_method_34_code
def y_X_needRoom : MethodName := ⟨R_X, "needRoom", "(LStockRows2$Rows;)V"⟩
abbrev b_X_cell : ByteArray := prog_1_method_35_code
def y_X_cell : MethodName := ⟨R_X, "cell", "(LStockRows2$Rows;II)I"⟩
abbrev b_X_place : ByteArray := prog_1_method_36_code
def y_X_place : MethodName := ⟨R_X, "place", "(II)I"⟩
abbrev b_X_pair : ByteArray := prog_1_method_37_code
def y_X_pair : MethodName := ⟨R_X, "pair", "(II)I"⟩
abbrev b_X_change : ByteArray := prog_1_method_38_code
def y_X_change : MethodName := ⟨R_X, "change", "(III)V"⟩
abbrev b_X_addUpToMost : ByteArray := prog_1_method_39_code
def y_X_addUpToMost : MethodName := ⟨R_X, "addUpToMost", "(III)V"⟩
abbrev b_X_arrive : ByteArray := prog_1_method_40_code
def y_X_arrive : MethodName := ⟨R_X, "arrive", "(I)V"⟩
abbrev b_X_isGoodOn : ByteArray := prog_1_method_41_code
def y_X_isGoodOn : MethodName := ⟨R_X, "isGoodOn", "(II)Z"⟩
abbrev b_X_inStore : ByteArray := prog_1_method_42_code
def y_X_inStore : MethodName := ⟨R_X, "inStore", "(IIZ)I"⟩
abbrev b_X_inAllStores : ByteArray := prog_1_method_43_code
def y_X_inAllStores : MethodName := ⟨R_X, "inAllStores", "(I)I"⟩
abbrev b_X_onTheWay : ByteArray := prog_1_method_44_code
def y_X_onTheWay : MethodName := ⟨R_X, "onTheWay", "(IIZ)I"⟩
abbrev b_X_inOpenOrders : ByteArray := prog_1_method_45_code
def y_X_inOpenOrders : MethodName := ⟨R_X, "inOpenOrders", "(II)I"⟩
abbrev b_X_orderByLevel : ByteArray := prog_1_method_46_code
def y_X_orderByLevel : MethodName := ⟨R_X, "orderByLevel", "(II)V"⟩
abbrev b_X_addOrder : ByteArray := prog_1_method_47_code
def y_X_addOrder : MethodName := ⟨R_X, "addOrder", "(III)I"⟩
abbrev b_X_take : ByteArray := prog_1_method_48_code
def y_X_take : MethodName := ⟨R_X, "take", "(III)V"⟩
abbrev b_X_firstToTake : ByteArray := prog_1_method_49_code
def y_X_firstToTake : MethodName := ⟨R_X, "firstToTake", "(II)I"⟩
abbrev b_X_isTakenBefore : ByteArray := prog_1_method_50_code
def y_X_isTakenBefore : MethodName := ⟨R_X, "isTakenBefore", "(III)Z"⟩
abbrev b_X_hasParts : ByteArray := prog_1_method_51_code
def y_X_hasParts : MethodName := ⟨R_X, "hasParts", "(I)Z"⟩
abbrev b_X_lackingKind : ByteArray := prog_1_method_52_code
def y_X_lackingKind : MethodName := ⟨R_X, "lackingKind", "(II)I"⟩
abbrev b_M_init : ByteArray := prog_5_method_1_code
def y_M_init : MethodName := ⟨R_M, "<init>", "()V"⟩
abbrev b_M_thrown : ByteArray := prog_5_method_2_code
def y_M_thrown : MethodName := ⟨R_M, "thrown", "()I"⟩
abbrev b_M_in : ByteArray := prog_5_method_3_code
def y_M_in : MethodName := ⟨R_M, "in", "(III)Z"⟩
abbrev b_M_goes : ByteArray := prog_5_method_4_code
def y_M_goes : MethodName := ⟨R_M, "goes", "(IZZZZ)Z"⟩
abbrev b_M_isStore : ByteArray := prog_5_method_5_code
def y_M_isStore : MethodName := ⟨R_M, "isStore", "(I)Z"⟩
abbrev b_M_isKind : ByteArray := prog_5_method_6_code
def y_M_isKind : MethodName := ⟨R_M, "isKind", "(I)Z"⟩
abbrev b_M_isLot : ByteArray := prog_5_method_7_code
def y_M_isLot : MethodName := ⟨R_M, "isLot", "(I)Z"⟩
abbrev b_M_isMany : ByteArray := prog_5_method_8_code
def y_M_isMany : MethodName := ⟨R_M, "isMany", "(I)Z"⟩
abbrev b_M_at : ByteArray := prog_5_method_9_code
def y_M_at : MethodName := ⟨R_M, "at", "(II)I"⟩
abbrev b_M_lesser : ByteArray := prog_5_method_10_code
def y_M_lesser : MethodName := ⟨R_M, "lesser", "(II)I"⟩
abbrev b_M_store : ByteArray := prog_5_method_11_code
def y_M_store : MethodName := ⟨R_M, "store", "()I"⟩
abbrev b_M_lot : ByteArray := prog_5_method_12_code
def y_M_lot : MethodName := ⟨R_M, "lot", "(II)I"⟩
abbrev b_M_bring : ByteArray := prog_5_method_13_code
def y_M_bring : MethodName := ⟨R_M, "bring", "(III)I"⟩
abbrev b_M_comes : ByteArray := prog_5_method_14_code
def y_M_comes : MethodName := ⟨R_M, "comes", "(III)V"⟩
abbrev b_M_move : ByteArray := prog_5_method_15_code
def y_M_move : MethodName := ⟨R_M, "move", "(IIIII)I"⟩
abbrev b_M_isGood : ByteArray := prog_5_method_16_code
def y_M_isGood : MethodName := ⟨R_M, "isGood", "(I)Z"⟩
abbrev b_M_good : ByteArray := prog_5_method_17_code
def y_M_good : MethodName := ⟨R_M, "good", "(II)I"⟩
abbrev b_M_takes : ByteArray := prog_5_method_18_code
def y_M_takes : MethodName := ⟨R_M, "takes", "(III)V"⟩
abbrev b_M_use : ByteArray := prog_5_method_19_code
def y_M_use : MethodName := ⟨R_M, "use", "(III)I"⟩
abbrev b_M_sum : ByteArray := prog_5_method_20_code
def y_M_sum : MethodName := ⟨R_M, "sum", "(III)I"⟩
abbrev b_M_has : ByteArray := prog_5_method_21_code
def y_M_has : MethodName := ⟨R_M, "has", "(II)I"⟩
abbrev b_M_level : ByteArray := prog_5_method_22_code
def y_M_level : MethodName := ⟨R_M, "level", "(IIII)V"⟩
abbrev b_M_makes : ByteArray := prog_5_method_23_code
def y_M_makes : MethodName := ⟨R_M, "makes", "(III)V"⟩
abbrev b_M_expected : ByteArray := prog_5_method_24_code
def y_M_expected : MethodName := ⟨R_M, "expected", "(II)I"⟩
abbrev b_M_orders : ByteArray := prog_5_method_25_code
def y_M_orders : MethodName := ⟨R_M, "orders", "()I"⟩
abbrev b_M_order : ByteArray := prog_5_method_26_code
def y_M_order : MethodName := ⟨R_M, "order", "(II)I"⟩
abbrev b_M_deliver : ByteArray := prog_5_method_27_code
def y_M_deliver : MethodName := ⟨R_M, "deliver", "(II)I"⟩
abbrev b_M_emergency : ByteArray := prog_5_method_28_code
def y_M_emergency : MethodName := ⟨R_M, "emergency", "(IIII)I"⟩
abbrev b_M_second : ByteArray := prog_5_method_29_code
def y_M_second : MethodName := ⟨R_M, "second", "(II)I"⟩
abbrev b_M_count : ByteArray := prog_5_method_30_code
def y_M_count : MethodName := ⟨R_M, "count", "(IIII)I"⟩
abbrev b_M_difference : ByteArray := prog_5_method_31_code
def y_M_difference : MethodName := ⟨R_M, "difference", "(II)I"⟩
abbrev b_M_kit : ByteArray := prog_5_method_32_code
def y_M_kit : MethodName := ⟨R_M, "kit", "(III)V"⟩
abbrev b_M_give : ByteArray := prog_5_method_33_code
def y_M_give : MethodName := ⟨R_M, "give", "(II)I"⟩
abbrev b_M_back : ByteArray := prog_5_method_34_code
def y_M_back : MethodName := ⟨R_M, "back", "(III)Z"⟩
abbrev b_M_waste : ByteArray := prog_5_method_35_code
def y_M_waste : MethodName := ⟨R_M, "waste", "(IIII)I"⟩
abbrev b_M_lotAt : ByteArray := prog_5_method_36_code
def y_M_lotAt : MethodName := ⟨R_M, "lotAt", "(II)I"⟩
abbrev b_M_row : ByteArray := prog_5_method_37_code
def y_M_row : MethodName := ⟨R_M, "row", "(II)I"⟩
abbrev b_M_dip : ByteArray := prog_5_method_38_code
def y_M_dip : MethodName := ⟨R_M, "dip", "(I)I"⟩
abbrev b_M_tick : ByteArray := prog_5_method_39_code
def y_M_tick : MethodName := ⟨R_M, "tick", "(I)I"⟩
abbrev b_W_init : ByteArray := prog_2_method_1_code
def y_W_init : MethodName := ⟨R_W, "<init>", "(I)V"⟩
abbrev b_W_made : ByteArray := prog_2_method_2_code
def y_W_made : MethodName := ⟨R_W, "made", "()I"⟩
abbrev b_W_isFull : ByteArray := prog_2_method_3_code
def y_W_isFull : MethodName := ⟨R_W, "isFull", "()Z"⟩
abbrev b_W_isMade : ByteArray := prog_2_method_4_code
def y_W_isMade : MethodName := ⟨R_W, "isMade", "(I)Z"⟩
abbrev b_W_isColumn : ByteArray := prog_2_method_5_code
def y_W_isColumn : MethodName := ⟨R_W, "isColumn", "(I)Z"⟩
abbrev b_W_at : ByteArray := prog_2_method_6_code
def y_W_at : MethodName := ⟨R_W, "at", "(II)I"⟩
abbrev b_W_put : ByteArray := prog_2_method_7_code
def y_W_put : MethodName := ⟨R_W, "put", "(III)V"⟩
abbrev b_W_add : ByteArray := prog_2_method_8_code
def y_W_add : MethodName := ⟨R_W, "add", "(IIIII)I"⟩
abbrev b_H_init : ByteArray := prog_3_method_1_code
def y_H_init : MethodName := ⟨R_H, "<init>", "()V"⟩
abbrev b_H_isFull : ByteArray := prog_3_method_2_code
def y_H_isFull : MethodName := ⟨R_H, "isFull", "()Z"⟩
abbrev b_H_isBelow : ByteArray := prog_3_method_3_code
def y_H_isBelow : MethodName := ⟨R_H, "isBelow", "(II)Z"⟩
abbrev b_H_add : ByteArray := prog_3_method_4_code
def y_H_add : MethodName := ⟨R_H, "add", "(II)I"⟩
abbrev b_H_litresAt : ByteArray := prog_3_method_5_code
def y_H_litresAt : MethodName := ⟨R_H, "litresAt", "(I)I"⟩
abbrev b_H_lastNotAbove : ByteArray := prog_3_method_6_code
def y_H_lastNotAbove : MethodName := ⟨R_H, "lastNotAbove", "(I)I"⟩
abbrev b_H_litresBetween : ByteArray := prog_3_method_7_code
def y_H_litresBetween : MethodName := ⟨R_H, "litresBetween", "(III)I"⟩
abbrev b_L_store : ByteArray := method_3_code
def y_L_store : MethodName := ⟨R_L, "store", "(LStockRows2;[J)I"⟩
abbrev b_L_lot : ByteArray := method_4_code
def y_L_lot : MethodName := ⟨R_L, "lot", "(LStockRows2;II[J)I"⟩
abbrev b_L_bring : ByteArray := method_5_code
def y_L_bring : MethodName := ⟨R_L, "bring", "(LStockRows2;III[J)I"⟩
abbrev b_L_move : ByteArray := method_6_code
def y_L_move : MethodName := ⟨R_L, "move", "(LStockRows2;IIIII[J)I"⟩
abbrev b_L_use : ByteArray := method_7_code
def y_L_use : MethodName := ⟨R_L, "use", "(LStockRows2;III[J)I"⟩
abbrev b_L_sum : ByteArray := method_8_code
def y_L_sum : MethodName := ⟨R_L, "sum", "(LStockRows2;III[J)I"⟩
abbrev b_L_has : ByteArray := method_9_code
def y_L_has : MethodName := ⟨R_L, "has", "(LStockRows2;II[J)I"⟩
abbrev b_L_level : ByteArray := method_10_code
def y_L_level : MethodName := ⟨R_L, "level", "(LStockRows2;IIII)I"⟩
abbrev b_L_order : ByteArray := method_11_code
def y_L_order : MethodName := ⟨R_L, "order", "(LStockRows2;II[J)I"⟩
abbrev b_L_deliver : ByteArray := method_12_code
def y_L_deliver : MethodName := ⟨R_L, "deliver", "(LStockRows2;II[J)I"⟩
abbrev b_L_emergency : ByteArray := method_13_code
def y_L_emergency : MethodName := ⟨R_L, "emergency", "(LStockRows2;IIII[J)I"⟩
abbrev b_L_second : ByteArray := method_14_code
def y_L_second : MethodName := ⟨R_L, "second", "(LStockRows2;II[J)I"⟩
abbrev b_L_count : ByteArray := method_15_code
def y_L_count : MethodName := ⟨R_L, "count", "(LStockRows2;IIII[J)I"⟩
abbrev b_L_difference : ByteArray := method_16_code
def y_L_difference : MethodName := ⟨R_L, "difference", "(LStockRows2;II[J)I"⟩
abbrev b_L_kit : ByteArray := method_17_code
def y_L_kit : MethodName := ⟨R_L, "kit", "(LStockRows2;III)I"⟩
abbrev b_L_give : ByteArray := method_18_code
def y_L_give : MethodName := ⟨R_L, "give", "(LStockRows2;II[J)I"⟩
abbrev b_L_back : ByteArray := method_19_code
def y_L_back : MethodName := ⟨R_L, "back", "(LStockRows2;III[J)I"⟩
abbrev b_L_waste : ByteArray := method_20_code
def y_L_waste : MethodName := ⟨R_L, "waste", "(LStockRows2;IIII[J)I"⟩
abbrev b_L_lotAt : ByteArray := method_21_code
def y_L_lotAt : MethodName := ⟨R_L, "lotAt", "(LStockRows2;II[J)I"⟩
abbrev b_L_row : ByteArray := method_22_code
def y_L_row : MethodName := ⟨R_L, "row", "(LStockRows2;II[J)I"⟩
abbrev b_L_dip : ByteArray := method_23_code
def y_L_dip : MethodName := ⟨R_L, "dip", "(LStockRows2;I[J)I"⟩
abbrev b_L_tick : ByteArray := method_24_code
def y_L_tick : MethodName := ⟨R_L, "tick", "(LStockRows2;I[J)I"⟩
abbrev b_L_law : ByteArray := code
def y_L_law : MethodName := ⟨R_L, "law", "([I)Z"⟩
end
section
theorem d_X_init_0 : decode b_X_init 0 = .ok (.aload_n 0, 1) := by decide +kernel
theorem d_X_init_1 : decode b_X_init 1 = .ok (.invokespecial 1, 3) := by decide +kernel
theorem d_X_init_4 : decode b_X_init 4 = .ok (.aload_n 0, 1) := by decide +kernel
theorem d_X_init_5 : decode b_X_init 5 = .ok (.new 7, 3) := by decide +kernel
theorem d_X_init_8 : decode b_X_init 8 = .ok (.dup, 1) := by decide +kernel
theorem d_X_init_9 : decode b_X_init 9 = .ok (.bipush 60, 2) := by decide +kernel
theorem d_X_init_11 : decode b_X_init 11 = .ok (.invokespecial 11, 3) := by decide +kernel
theorem d_X_init_14 : decode b_X_init 14 = .ok (.putfield 14, 3) := by decide +kernel
theorem d_X_init_17 : decode b_X_init 17 = .ok (.aload_n 0, 1) := by decide +kernel
theorem d_X_init_18 : decode b_X_init 18 = .ok (.new 7, 3) := by decide +kernel
theorem d_X_init_21 : decode b_X_init 21 = .ok (.dup, 1) := by decide +kernel
theorem d_X_init_22 : decode b_X_init 22 = .ok (.bipush 60, 2) := by decide +kernel
theorem d_X_init_24 : decode b_X_init 24 = .ok (.invokespecial 11, 3) := by decide +kernel
theorem d_X_init_27 : decode b_X_init 27 = .ok (.putfield 18, 3) := by decide +kernel
theorem d_X_init_30 : decode b_X_init 30 = .ok (.aload_n 0, 1) := by decide +kernel
theorem d_X_init_31 : decode b_X_init 31 = .ok (.new 7, 3) := by decide +kernel
theorem d_X_init_34 : decode b_X_init 34 = .ok (.dup, 1) := by decide +kernel
theorem d_X_init_35 : decode b_X_init 35 = .ok (.bipush 80, 2) := by decide +kernel
theorem d_X_init_37 : decode b_X_init 37 = .ok (.invokespecial 11, 3) := by decide +kernel
theorem d_X_init_40 : decode b_X_init 40 = .ok (.putfield 21, 3) := by decide +kernel
theorem d_X_init_43 : decode b_X_init 43 = .ok (.aload_n 0, 1) := by decide +kernel
theorem d_X_init_44 : decode b_X_init 44 = .ok (.new 7, 3) := by decide +kernel
theorem d_X_init_47 : decode b_X_init 47 = .ok (.dup, 1) := by decide +kernel
theorem d_X_init_48 : decode b_X_init 48 = .ok (.bipush 20, 2) := by decide +kernel
theorem d_X_init_50 : decode b_X_init 50 = .ok (.invokespecial 11, 3) := by decide +kernel
theorem d_X_init_53 : decode b_X_init 53 = .ok (.putfield 24, 3) := by decide +kernel
theorem d_X_init_56 : decode b_X_init 56 = .ok (.aload_n 0, 1) := by decide +kernel
theorem d_X_init_57 : decode b_X_init 57 = .ok (.new 7, 3) := by decide +kernel
theorem d_X_init_60 : decode b_X_init 60 = .ok (.dup, 1) := by decide +kernel
theorem d_X_init_61 : decode b_X_init 61 = .ok (.bipush 80, 2) := by decide +kernel
theorem d_X_init_63 : decode b_X_init 63 = .ok (.invokespecial 11, 3) := by decide +kernel
theorem d_X_init_66 : decode b_X_init 66 = .ok (.putfield 27, 3) := by decide +kernel
theorem d_X_init_69 : decode b_X_init 69 = .ok (.aload_n 0, 1) := by decide +kernel
theorem d_X_init_70 : decode b_X_init 70 = .ok (.new 30, 3) := by decide +kernel
theorem d_X_init_73 : decode b_X_init 73 = .ok (.dup, 1) := by decide +kernel
theorem d_X_init_74 : decode b_X_init 74 = .ok (.invokespecial 32, 3) := by decide +kernel
theorem d_X_init_77 : decode b_X_init 77 = .ok (.putfield 33, 3) := by decide +kernel
theorem d_X_init_80 : decode b_X_init 80 = .ok (.aload_n 0, 1) := by decide +kernel
theorem d_X_init_81 : decode b_X_init 81 = .ok (.sipush 480, 3) := by decide +kernel
theorem d_X_init_84 : decode b_X_init 84 = .ok (.newarray .int, 2) := by decide +kernel
theorem d_X_init_86 : decode b_X_init 86 = .ok (.putfield 37, 3) := by decide +kernel
theorem d_X_init_89 : decode b_X_init 89 = .ok (.aload_n 0, 1) := by decide +kernel
theorem d_X_init_90 : decode b_X_init 90 = .ok (.bipush 80, 2) := by decide +kernel
theorem d_X_init_92 : decode b_X_init 92 = .ok (.newarray .int, 2) := by decide +kernel
theorem d_X_init_94 : decode b_X_init 94 = .ok (.putfield 41, 3) := by decide +kernel
theorem d_X_init_97 : decode b_X_init 97 = .ok (.aload_n 0, 1) := by decide +kernel
theorem d_X_init_98 : decode b_X_init 98 = .ok (.bipush 80, 2) := by decide +kernel
theorem d_X_init_100 : decode b_X_init 100 = .ok (.newarray .int, 2) := by decide +kernel
theorem d_X_init_102 : decode b_X_init 102 = .ok (.putfield 44, 3) := by decide +kernel
theorem d_X_init_105 : decode b_X_init 105 = .ok (.aload_n 0, 1) := by decide +kernel
theorem d_X_init_106 : decode b_X_init 106 = .ok (.bipush 50, 2) := by decide +kernel
theorem d_X_init_108 : decode b_X_init 108 = .ok (.newarray .int, 2) := by decide +kernel
theorem d_X_init_110 : decode b_X_init 110 = .ok (.putfield 47, 3) := by decide +kernel
theorem d_X_init_113 : decode b_X_init 113 = .ok (.return_, 1) := by decide +kernel
theorem d_X_store_0 : decode b_X_store 0 = .ok (.aload_n 0, 1) := by decide +kernel
theorem d_X_store_1 : decode b_X_store 1 = .ok (.getfield 50, 3) := by decide +kernel
theorem d_X_store_4 : decode b_X_store 4 = .ok (.bipush 8, 2) := by decide +kernel
theorem d_X_store_6 : decode b_X_store 6 = .ok (.if_icmp .lt 13, 3) := by decide +kernel
theorem d_X_store_9 : decode b_X_store 9 = .ok (.new 54, 3) := by decide +kernel
theorem d_X_store_12 : decode b_X_store 12 = .ok (.dup, 1) := by decide +kernel
theorem d_X_store_13 : decode b_X_store 13 = .ok (.ldc 56, 2) := by decide +kernel
theorem d_X_store_15 : decode b_X_store 15 = .ok (.invokespecial 58, 3) := by decide +kernel
theorem d_X_store_18 : decode b_X_store 18 = .ok (.athrow, 1) := by decide +kernel
theorem d_X_store_19 : decode b_X_store 19 = .ok (.aload_n 0, 1) := by decide +kernel
theorem d_X_store_20 : decode b_X_store 20 = .ok (.dup, 1) := by decide +kernel
theorem d_X_store_21 : decode b_X_store 21 = .ok (.getfield 50, 3) := by decide +kernel
theorem d_X_store_24 : decode b_X_store 24 = .ok (.iconst 1, 1) := by decide +kernel
theorem d_X_store_25 : decode b_X_store 25 = .ok (.iadd, 1) := by decide +kernel
theorem d_X_store_26 : decode b_X_store 26 = .ok (.putfield 50, 3) := by decide +kernel
theorem d_X_store_29 : decode b_X_store 29 = .ok (.aload_n 0, 1) := by decide +kernel
theorem d_X_store_30 : decode b_X_store 30 = .ok (.getfield 50, 3) := by decide +kernel
theorem d_X_store_33 : decode b_X_store 33 = .ok (.iconst 1, 1) := by decide +kernel
theorem d_X_store_34 : decode b_X_store 34 = .ok (.isub, 1) := by decide +kernel
theorem d_X_store_35 : decode b_X_store 35 = .ok (.ireturn, 1) := by decide +kernel
theorem d_X_lot_0 : decode b_X_lot 0 = .ok (.iload_n 1, 1) := by decide +kernel
theorem d_X_lot_1 : decode b_X_lot 1 = .ok (.invokestatic 61, 3) := by decide +kernel
theorem d_X_lot_4 : decode b_X_lot 4 = .ok (.iload_n 2, 1) := by decide +kernel
theorem d_X_lot_5 : decode b_X_lot 5 = .ok (.iconst 0, 1) := by decide +kernel
theorem d_X_lot_6 : decode b_X_lot 6 = .ok (.sipush 9999, 3) := by decide +kernel
theorem d_X_lot_9 : decode b_X_lot 9 = .ok (.invokestatic 64, 3) := by decide +kernel
theorem d_X_lot_12 : decode b_X_lot 12 = .ok (.aload_n 0, 1) := by decide +kernel
theorem d_X_lot_13 : decode b_X_lot 13 = .ok (.getfield 14, 3) := by decide +kernel
theorem d_X_lot_16 : decode b_X_lot 16 = .ok (.invokestatic 68, 3) := by decide +kernel
theorem d_X_lot_19 : decode b_X_lot 19 = .ok (.aload_n 0, 1) := by decide +kernel
theorem d_X_lot_20 : decode b_X_lot 20 = .ok (.getfield 14, 3) := by decide +kernel
theorem d_X_lot_23 : decode b_X_lot 23 = .ok (.iload_n 1, 1) := by decide +kernel
theorem d_X_lot_24 : decode b_X_lot 24 = .ok (.iload_n 2, 1) := by decide +kernel
theorem d_X_lot_25 : decode b_X_lot 25 = .ok (.iconst 0, 1) := by decide +kernel
theorem d_X_lot_26 : decode b_X_lot 26 = .ok (.iconst 0, 1) := by decide +kernel
theorem d_X_lot_27 : decode b_X_lot 27 = .ok (.iconst 0, 1) := by decide +kernel
theorem d_X_lot_28 : decode b_X_lot 28 = .ok (.invokevirtual 72, 3) := by decide +kernel
theorem d_X_lot_31 : decode b_X_lot 31 = .ok (.ireturn, 1) := by decide +kernel
theorem d_X_bring_0 : decode b_X_bring 0 = .ok (.aload_n 0, 1) := by decide +kernel
theorem d_X_bring_1 : decode b_X_bring 1 = .ok (.iload_n 1, 1) := by decide +kernel
theorem d_X_bring_2 : decode b_X_bring 2 = .ok (.invokevirtual 76, 3) := by decide +kernel
theorem d_X_bring_5 : decode b_X_bring 5 = .ok (.aload_n 0, 1) := by decide +kernel
theorem d_X_bring_6 : decode b_X_bring 6 = .ok (.iload_n 2, 1) := by decide +kernel
theorem d_X_bring_7 : decode b_X_bring 7 = .ok (.invokevirtual 79, 3) := by decide +kernel
theorem d_X_bring_10 : decode b_X_bring 10 = .ok (.iload_n 3, 1) := by decide +kernel
theorem d_X_bring_11 : decode b_X_bring 11 = .ok (.iconst 1, 1) := by decide +kernel
theorem d_X_bring_12 : decode b_X_bring 12 = .ok (.sipush 9999, 3) := by decide +kernel
theorem d_X_bring_15 : decode b_X_bring 15 = .ok (.invokestatic 64, 3) := by decide +kernel
theorem d_X_bring_18 : decode b_X_bring 18 = .ok (.aload_n 0, 1) := by decide +kernel
theorem d_X_bring_19 : decode b_X_bring 19 = .ok (.iload_n 1, 1) := by decide +kernel
theorem d_X_bring_20 : decode b_X_bring 20 = .ok (.iload_n 2, 1) := by decide +kernel
theorem d_X_bring_21 : decode b_X_bring 21 = .ok (.iload_n 3, 1) := by decide +kernel
theorem d_X_bring_22 : decode b_X_bring 22 = .ok (.invokevirtual 82, 3) := by decide +kernel
theorem d_X_bring_25 : decode b_X_bring 25 = .ok (.aload_n 0, 1) := by decide +kernel
theorem d_X_bring_26 : decode b_X_bring 26 = .ok (.iload_n 1, 1) := by decide +kernel
theorem d_X_bring_27 : decode b_X_bring 27 = .ok (.iload_n 2, 1) := by decide +kernel
theorem d_X_bring_28 : decode b_X_bring 28 = .ok (.iload_n 3, 1) := by decide +kernel
theorem d_X_bring_29 : decode b_X_bring 29 = .ok (.invokevirtual 85, 3) := by decide +kernel
theorem d_X_bring_32 : decode b_X_bring 32 = .ok (.aload_n 0, 1) := by decide +kernel
theorem d_X_bring_33 : decode b_X_bring 33 = .ok (.getfield 37, 3) := by decide +kernel
theorem d_X_bring_36 : decode b_X_bring 36 = .ok (.iload_n 1, 1) := by decide +kernel
theorem d_X_bring_37 : decode b_X_bring 37 = .ok (.iload_n 2, 1) := by decide +kernel
theorem d_X_bring_38 : decode b_X_bring 38 = .ok (.invokestatic 88, 3) := by decide +kernel
theorem d_X_bring_41 : decode b_X_bring 41 = .ok (.iaload, 1) := by decide +kernel
theorem d_X_bring_42 : decode b_X_bring 42 = .ok (.ireturn, 1) := by decide +kernel
theorem d_X_move_0 : decode b_X_move 0 = .ok (.aload_n 0, 1) := by decide +kernel
theorem d_X_move_1 : decode b_X_move 1 = .ok (.iload_n 1, 1) := by decide +kernel
theorem d_X_move_2 : decode b_X_move 2 = .ok (.invokevirtual 76, 3) := by decide +kernel
theorem d_X_move_5 : decode b_X_move 5 = .ok (.aload_n 0, 1) := by decide +kernel
theorem d_X_move_6 : decode b_X_move 6 = .ok (.iload_n 2, 1) := by decide +kernel
theorem d_X_move_7 : decode b_X_move 7 = .ok (.invokevirtual 76, 3) := by decide +kernel
theorem d_X_move_10 : decode b_X_move 10 = .ok (.iload_n 1, 1) := by decide +kernel
theorem d_X_move_11 : decode b_X_move 11 = .ok (.iload_n 2, 1) := by decide +kernel
theorem d_X_move_12 : decode b_X_move 12 = .ok (.if_icmp .ne 13, 3) := by decide +kernel
theorem d_X_move_15 : decode b_X_move 15 = .ok (.new 92, 3) := by decide +kernel
theorem d_X_move_18 : decode b_X_move 18 = .ok (.dup, 1) := by decide +kernel
theorem d_X_move_19 : decode b_X_move 19 = .ok (.ldc 94, 2) := by decide +kernel
theorem d_X_move_21 : decode b_X_move 21 = .ok (.invokespecial 96, 3) := by decide +kernel
theorem d_X_move_24 : decode b_X_move 24 = .ok (.athrow, 1) := by decide +kernel
theorem d_X_move_25 : decode b_X_move 25 = .ok (.aload_n 0, 1) := by decide +kernel
theorem d_X_move_26 : decode b_X_move 26 = .ok (.iload_n 3, 1) := by decide +kernel
theorem d_X_move_27 : decode b_X_move 27 = .ok (.invokevirtual 79, 3) := by decide +kernel
theorem d_X_move_30 : decode b_X_move 30 = .ok (.iload 4, 2) := by decide +kernel
theorem d_X_move_32 : decode b_X_move 32 = .ok (.iconst 1, 1) := by decide +kernel
theorem d_X_move_33 : decode b_X_move 33 = .ok (.sipush 9999, 3) := by decide +kernel
theorem d_X_move_36 : decode b_X_move 36 = .ok (.invokestatic 64, 3) := by decide +kernel
theorem d_X_move_39 : decode b_X_move 39 = .ok (.iload 5, 2) := by decide +kernel
theorem d_X_move_41 : decode b_X_move 41 = .ok (.iconst 0, 1) := by decide +kernel
theorem d_X_move_42 : decode b_X_move 42 = .ok (.bipush 30, 2) := by decide +kernel
theorem d_X_move_44 : decode b_X_move 44 = .ok (.invokestatic 64, 3) := by decide +kernel
theorem d_X_move_47 : decode b_X_move 47 = .ok (.aload_n 0, 1) := by decide +kernel
theorem d_X_move_48 : decode b_X_move 48 = .ok (.iload_n 1, 1) := by decide +kernel
theorem d_X_move_49 : decode b_X_move 49 = .ok (.iload_n 3, 1) := by decide +kernel
theorem d_X_move_50 : decode b_X_move 50 = .ok (.iload 4, 2) := by decide +kernel
theorem d_X_move_52 : decode b_X_move 52 = .ok (.invokevirtual 97, 3) := by decide +kernel
theorem d_X_move_55 : decode b_X_move 55 = .ok (.aload_n 0, 1) := by decide +kernel
theorem d_X_move_56 : decode b_X_move 56 = .ok (.getfield 18, 3) := by decide +kernel
theorem d_X_move_59 : decode b_X_move 59 = .ok (.invokestatic 68, 3) := by decide +kernel
theorem d_X_move_62 : decode b_X_move 62 = .ok (.aload_n 0, 1) := by decide +kernel
theorem d_X_move_63 : decode b_X_move 63 = .ok (.iload_n 1, 1) := by decide +kernel
theorem d_X_move_64 : decode b_X_move 64 = .ok (.iload_n 3, 1) := by decide +kernel
theorem d_X_move_65 : decode b_X_move 65 = .ok (.iload 4, 2) := by decide +kernel
theorem d_X_move_67 : decode b_X_move 67 = .ok (.ineg, 1) := by decide +kernel
theorem d_X_move_68 : decode b_X_move 68 = .ok (.invokevirtual 85, 3) := by decide +kernel
theorem d_X_move_71 : decode b_X_move 71 = .ok (.aload_n 0, 1) := by decide +kernel
theorem d_X_move_72 : decode b_X_move 72 = .ok (.getfield 18, 3) := by decide +kernel
theorem d_X_move_75 : decode b_X_move 75 = .ok (.iload_n 2, 1) := by decide +kernel
theorem d_X_move_76 : decode b_X_move 76 = .ok (.iload_n 3, 1) := by decide +kernel
theorem d_X_move_77 : decode b_X_move 77 = .ok (.iload 4, 2) := by decide +kernel
theorem d_X_move_79 : decode b_X_move 79 = .ok (.aload_n 0, 1) := by decide +kernel
theorem d_X_move_80 : decode b_X_move 80 = .ok (.getfield 100, 3) := by decide +kernel
theorem d_X_move_83 : decode b_X_move 83 = .ok (.iload 5, 2) := by decide +kernel
theorem d_X_move_85 : decode b_X_move 85 = .ok (.iadd, 1) := by decide +kernel
theorem d_X_move_86 : decode b_X_move 86 = .ok (.iconst 1, 1) := by decide +kernel
theorem d_X_move_87 : decode b_X_move 87 = .ok (.invokevirtual 72, 3) := by decide +kernel
theorem d_X_move_90 : decode b_X_move 90 = .ok (.istore 6, 2) := by decide +kernel
theorem d_X_move_92 : decode b_X_move 92 = .ok (.iload 5, 2) := by decide +kernel
theorem d_X_move_94 : decode b_X_move 94 = .ok (.ifCond .ne 9, 3) := by decide +kernel
theorem d_X_move_97 : decode b_X_move 97 = .ok (.aload_n 0, 1) := by decide +kernel
theorem d_X_move_98 : decode b_X_move 98 = .ok (.iload 6, 2) := by decide +kernel
theorem d_X_move_100 : decode b_X_move 100 = .ok (.invokevirtual 103, 3) := by decide +kernel
theorem d_X_move_103 : decode b_X_move 103 = .ok (.iload 6, 2) := by decide +kernel
theorem d_X_move_105 : decode b_X_move 105 = .ok (.ireturn, 1) := by decide +kernel
theorem d_X_use_0 : decode b_X_use 0 = .ok (.aload_n 0, 1) := by decide +kernel
theorem d_X_use_1 : decode b_X_use 1 = .ok (.iload_n 1, 1) := by decide +kernel
theorem d_X_use_2 : decode b_X_use 2 = .ok (.invokevirtual 76, 3) := by decide +kernel
theorem d_X_use_5 : decode b_X_use 5 = .ok (.iload_n 2, 1) := by decide +kernel
theorem d_X_use_6 : decode b_X_use 6 = .ok (.invokestatic 61, 3) := by decide +kernel
theorem d_X_use_9 : decode b_X_use 9 = .ok (.iload_n 3, 1) := by decide +kernel
theorem d_X_use_10 : decode b_X_use 10 = .ok (.iconst 1, 1) := by decide +kernel
theorem d_X_use_11 : decode b_X_use 11 = .ok (.sipush 9999, 3) := by decide +kernel
theorem d_X_use_14 : decode b_X_use 14 = .ok (.invokestatic 64, 3) := by decide +kernel
theorem d_X_use_17 : decode b_X_use 17 = .ok (.aload_n 0, 1) := by decide +kernel
theorem d_X_use_18 : decode b_X_use 18 = .ok (.iload_n 1, 1) := by decide +kernel
theorem d_X_use_19 : decode b_X_use 19 = .ok (.iload_n 2, 1) := by decide +kernel
theorem d_X_use_20 : decode b_X_use 20 = .ok (.iconst 1, 1) := by decide +kernel
theorem d_X_use_21 : decode b_X_use 21 = .ok (.invokevirtual 106, 3) := by decide +kernel
theorem d_X_use_24 : decode b_X_use 24 = .ok (.istore 4, 2) := by decide +kernel
theorem d_X_use_26 : decode b_X_use 26 = .ok (.iload 4, 2) := by decide +kernel
theorem d_X_use_28 : decode b_X_use 28 = .ok (.iload_n 3, 1) := by decide +kernel
theorem d_X_use_29 : decode b_X_use 29 = .ok (.if_icmp .ge 13, 3) := by decide +kernel
theorem d_X_use_32 : decode b_X_use 32 = .ok (.new 110, 3) := by decide +kernel
theorem d_X_use_35 : decode b_X_use 35 = .ok (.dup, 1) := by decide +kernel
theorem d_X_use_36 : decode b_X_use 36 = .ok (.ldc 112, 2) := by decide +kernel
theorem d_X_use_38 : decode b_X_use 38 = .ok (.invokespecial 114, 3) := by decide +kernel
theorem d_X_use_41 : decode b_X_use 41 = .ok (.athrow, 1) := by decide +kernel
theorem d_X_use_42 : decode b_X_use 42 = .ok (.aload_n 0, 1) := by decide +kernel
theorem d_X_use_43 : decode b_X_use 43 = .ok (.iload_n 1, 1) := by decide +kernel
theorem d_X_use_44 : decode b_X_use 44 = .ok (.iload_n 2, 1) := by decide +kernel
theorem d_X_use_45 : decode b_X_use 45 = .ok (.iload_n 3, 1) := by decide +kernel
theorem d_X_use_46 : decode b_X_use 46 = .ok (.invokevirtual 115, 3) := by decide +kernel
theorem d_X_use_49 : decode b_X_use 49 = .ok (.iload 4, 2) := by decide +kernel
theorem d_X_use_51 : decode b_X_use 51 = .ok (.iload_n 3, 1) := by decide +kernel
theorem d_X_use_52 : decode b_X_use 52 = .ok (.isub, 1) := by decide +kernel
theorem d_X_use_53 : decode b_X_use 53 = .ok (.ireturn, 1) := by decide +kernel
theorem d_X_sum_0 : decode b_X_sum 0 = .ok (.aload_n 0, 1) := by decide +kernel
theorem d_X_sum_1 : decode b_X_sum 1 = .ok (.iload_n 1, 1) := by decide +kernel
theorem d_X_sum_2 : decode b_X_sum 2 = .ok (.invokevirtual 76, 3) := by decide +kernel
theorem d_X_sum_5 : decode b_X_sum 5 = .ok (.iload_n 2, 1) := by decide +kernel
theorem d_X_sum_6 : decode b_X_sum 6 = .ok (.invokestatic 61, 3) := by decide +kernel
theorem d_X_sum_9 : decode b_X_sum 9 = .ok (.iload_n 3, 1) := by decide +kernel
theorem d_X_sum_10 : decode b_X_sum 10 = .ok (.tableswitch 50 0 2 #[26, 34, 42], 26) := by decide +kernel
theorem d_X_sum_36 : decode b_X_sum 36 = .ok (.aload_n 0, 1) := by decide +kernel
theorem d_X_sum_37 : decode b_X_sum 37 = .ok (.iload_n 1, 1) := by decide +kernel
theorem d_X_sum_38 : decode b_X_sum 38 = .ok (.iload_n 2, 1) := by decide +kernel
theorem d_X_sum_39 : decode b_X_sum 39 = .ok (.iconst 1, 1) := by decide +kernel
theorem d_X_sum_40 : decode b_X_sum 40 = .ok (.invokevirtual 106, 3) := by decide +kernel
theorem d_X_sum_43 : decode b_X_sum 43 = .ok (.ireturn, 1) := by decide +kernel
theorem d_X_sum_44 : decode b_X_sum 44 = .ok (.aload_n 0, 1) := by decide +kernel
theorem d_X_sum_45 : decode b_X_sum 45 = .ok (.iload_n 1, 1) := by decide +kernel
theorem d_X_sum_46 : decode b_X_sum 46 = .ok (.iload_n 2, 1) := by decide +kernel
theorem d_X_sum_47 : decode b_X_sum 47 = .ok (.iconst 0, 1) := by decide +kernel
theorem d_X_sum_48 : decode b_X_sum 48 = .ok (.invokevirtual 106, 3) := by decide +kernel
theorem d_X_sum_51 : decode b_X_sum 51 = .ok (.ireturn, 1) := by decide +kernel
theorem d_X_sum_52 : decode b_X_sum 52 = .ok (.aload_n 0, 1) := by decide +kernel
theorem d_X_sum_53 : decode b_X_sum 53 = .ok (.iload_n 1, 1) := by decide +kernel
theorem d_X_sum_54 : decode b_X_sum 54 = .ok (.iload_n 2, 1) := by decide +kernel
theorem d_X_sum_55 : decode b_X_sum 55 = .ok (.iconst 0, 1) := by decide +kernel
theorem d_X_sum_56 : decode b_X_sum 56 = .ok (.invokevirtual 118, 3) := by decide +kernel
theorem d_X_sum_59 : decode b_X_sum 59 = .ok (.ireturn, 1) := by decide +kernel
theorem d_X_sum_60 : decode b_X_sum 60 = .ok (.new 92, 3) := by decide +kernel
theorem d_X_sum_63 : decode b_X_sum 63 = .ok (.dup, 1) := by decide +kernel
theorem d_X_sum_64 : decode b_X_sum 64 = .ok (.ldc 121, 2) := by decide +kernel
theorem d_X_sum_66 : decode b_X_sum 66 = .ok (.invokespecial 96, 3) := by decide +kernel
theorem d_X_sum_69 : decode b_X_sum 69 = .ok (.athrow, 1) := by decide +kernel
theorem d_X_has_0 : decode b_X_has 0 = .ok (.aload_n 0, 1) := by decide +kernel
theorem d_X_has_1 : decode b_X_has 1 = .ok (.iload_n 1, 1) := by decide +kernel
theorem d_X_has_2 : decode b_X_has 2 = .ok (.invokevirtual 76, 3) := by decide +kernel
theorem d_X_has_5 : decode b_X_has 5 = .ok (.aload_n 0, 1) := by decide +kernel
theorem d_X_has_6 : decode b_X_has 6 = .ok (.iload_n 2, 1) := by decide +kernel
theorem d_X_has_7 : decode b_X_has 7 = .ok (.invokevirtual 79, 3) := by decide +kernel
theorem d_X_has_10 : decode b_X_has 10 = .ok (.aload_n 0, 1) := by decide +kernel
theorem d_X_has_11 : decode b_X_has 11 = .ok (.getfield 37, 3) := by decide +kernel
theorem d_X_has_14 : decode b_X_has 14 = .ok (.iload_n 1, 1) := by decide +kernel
theorem d_X_has_15 : decode b_X_has 15 = .ok (.iload_n 2, 1) := by decide +kernel
theorem d_X_has_16 : decode b_X_has 16 = .ok (.invokestatic 88, 3) := by decide +kernel
theorem d_X_has_19 : decode b_X_has 19 = .ok (.iaload, 1) := by decide +kernel
theorem d_X_has_20 : decode b_X_has 20 = .ok (.ireturn, 1) := by decide +kernel
theorem d_X_level_0 : decode b_X_level 0 = .ok (.aload_n 0, 1) := by decide +kernel
theorem d_X_level_1 : decode b_X_level 1 = .ok (.iload_n 1, 1) := by decide +kernel
theorem d_X_level_2 : decode b_X_level 2 = .ok (.invokevirtual 76, 3) := by decide +kernel
theorem d_X_level_5 : decode b_X_level 5 = .ok (.iload_n 2, 1) := by decide +kernel
theorem d_X_level_6 : decode b_X_level 6 = .ok (.invokestatic 61, 3) := by decide +kernel
theorem d_X_level_9 : decode b_X_level 9 = .ok (.iload 4, 2) := by decide +kernel
theorem d_X_level_11 : decode b_X_level 11 = .ok (.iconst 0, 1) := by decide +kernel
theorem d_X_level_12 : decode b_X_level 12 = .ok (.sipush 9999, 3) := by decide +kernel
theorem d_X_level_15 : decode b_X_level 15 = .ok (.invokestatic 64, 3) := by decide +kernel
theorem d_X_level_18 : decode b_X_level 18 = .ok (.iload_n 3, 1) := by decide +kernel
theorem d_X_level_19 : decode b_X_level 19 = .ok (.iconst 0, 1) := by decide +kernel
theorem d_X_level_20 : decode b_X_level 20 = .ok (.iload 4, 2) := by decide +kernel
theorem d_X_level_22 : decode b_X_level 22 = .ok (.invokestatic 64, 3) := by decide +kernel
theorem d_X_level_25 : decode b_X_level 25 = .ok (.aload_n 0, 1) := by decide +kernel
theorem d_X_level_26 : decode b_X_level 26 = .ok (.getfield 41, 3) := by decide +kernel
theorem d_X_level_29 : decode b_X_level 29 = .ok (.iload_n 1, 1) := by decide +kernel
theorem d_X_level_30 : decode b_X_level 30 = .ok (.iload_n 2, 1) := by decide +kernel
theorem d_X_level_31 : decode b_X_level 31 = .ok (.invokestatic 123, 3) := by decide +kernel
theorem d_X_level_34 : decode b_X_level 34 = .ok (.iload_n 3, 1) := by decide +kernel
theorem d_X_level_35 : decode b_X_level 35 = .ok (.iastore, 1) := by decide +kernel
theorem d_X_level_36 : decode b_X_level 36 = .ok (.aload_n 0, 1) := by decide +kernel
theorem d_X_level_37 : decode b_X_level 37 = .ok (.getfield 44, 3) := by decide +kernel
theorem d_X_level_40 : decode b_X_level 40 = .ok (.iload_n 1, 1) := by decide +kernel
theorem d_X_level_41 : decode b_X_level 41 = .ok (.iload_n 2, 1) := by decide +kernel
theorem d_X_level_42 : decode b_X_level 42 = .ok (.invokestatic 123, 3) := by decide +kernel
theorem d_X_level_45 : decode b_X_level 45 = .ok (.iload 4, 2) := by decide +kernel
theorem d_X_level_47 : decode b_X_level 47 = .ok (.iastore, 1) := by decide +kernel
theorem d_X_level_48 : decode b_X_level 48 = .ok (.return_, 1) := by decide +kernel
theorem d_X_orders_0 : decode b_X_orders 0 = .ok (.aload_n 0, 1) := by decide +kernel
theorem d_X_orders_1 : decode b_X_orders 1 = .ok (.getfield 21, 3) := by decide +kernel
theorem d_X_orders_4 : decode b_X_orders 4 = .ok (.invokevirtual 126, 3) := by decide +kernel
theorem d_X_orders_7 : decode b_X_orders 7 = .ok (.istore_n 1, 1) := by decide +kernel
theorem d_X_orders_8 : decode b_X_orders 8 = .ok (.iconst 0, 1) := by decide +kernel
theorem d_X_orders_9 : decode b_X_orders 9 = .ok (.istore_n 2, 1) := by decide +kernel
theorem d_X_orders_10 : decode b_X_orders 10 = .ok (.iload_n 2, 1) := by decide +kernel
theorem d_X_orders_11 : decode b_X_orders 11 = .ok (.aload_n 0, 1) := by decide +kernel
theorem d_X_orders_12 : decode b_X_orders 12 = .ok (.getfield 50, 3) := by decide +kernel
theorem d_X_orders_15 : decode b_X_orders 15 = .ok (.if_icmp .ge 29, 3) := by decide +kernel
theorem d_X_orders_18 : decode b_X_orders 18 = .ok (.iconst 0, 1) := by decide +kernel
theorem d_X_orders_19 : decode b_X_orders 19 = .ok (.istore_n 3, 1) := by decide +kernel
theorem d_X_orders_20 : decode b_X_orders 20 = .ok (.iload_n 3, 1) := by decide +kernel
theorem d_X_orders_21 : decode b_X_orders 21 = .ok (.bipush 10, 2) := by decide +kernel
theorem d_X_orders_23 : decode b_X_orders 23 = .ok (.if_icmp .ge 15, 3) := by decide +kernel
theorem d_X_orders_26 : decode b_X_orders 26 = .ok (.aload_n 0, 1) := by decide +kernel
theorem d_X_orders_27 : decode b_X_orders 27 = .ok (.iload_n 2, 1) := by decide +kernel
theorem d_X_orders_28 : decode b_X_orders 28 = .ok (.iload_n 3, 1) := by decide +kernel
theorem d_X_orders_29 : decode b_X_orders 29 = .ok (.invokevirtual 130, 3) := by decide +kernel
theorem d_X_orders_32 : decode b_X_orders 32 = .ok (.iinc 3 1, 3) := by decide +kernel
theorem d_X_orders_35 : decode b_X_orders 35 = .ok (.goto (-15), 3) := by decide +kernel
theorem d_X_orders_38 : decode b_X_orders 38 = .ok (.iinc 2 1, 3) := by decide +kernel
theorem d_X_orders_41 : decode b_X_orders 41 = .ok (.goto (-31), 3) := by decide +kernel
theorem d_X_orders_44 : decode b_X_orders 44 = .ok (.aload_n 0, 1) := by decide +kernel
theorem d_X_orders_45 : decode b_X_orders 45 = .ok (.getfield 21, 3) := by decide +kernel
theorem d_X_orders_48 : decode b_X_orders 48 = .ok (.invokevirtual 126, 3) := by decide +kernel
theorem d_X_orders_51 : decode b_X_orders 51 = .ok (.iload_n 1, 1) := by decide +kernel
theorem d_X_orders_52 : decode b_X_orders 52 = .ok (.isub, 1) := by decide +kernel
theorem d_X_orders_53 : decode b_X_orders 53 = .ok (.ireturn, 1) := by decide +kernel
theorem d_X_order_0 : decode b_X_order 0 = .ok (.aload_n 0, 1) := by decide +kernel
theorem d_X_order_1 : decode b_X_order 1 = .ok (.getfield 21, 3) := by decide +kernel
theorem d_X_order_4 : decode b_X_order 4 = .ok (.iload_n 1, 1) := by decide +kernel
theorem d_X_order_5 : decode b_X_order 5 = .ok (.iload_n 2, 1) := by decide +kernel
theorem d_X_order_6 : decode b_X_order 6 = .ok (.invokestatic 134, 3) := by decide +kernel
theorem d_X_order_9 : decode b_X_order 9 = .ok (.ireturn, 1) := by decide +kernel
theorem d_X_deliver_0 : decode b_X_deliver 0 = .ok (.aload_n 0, 1) := by decide +kernel
theorem d_X_deliver_1 : decode b_X_deliver 1 = .ok (.getfield 21, 3) := by decide +kernel
theorem d_X_deliver_4 : decode b_X_deliver 4 = .ok (.iload_n 1, 1) := by decide +kernel
theorem d_X_deliver_5 : decode b_X_deliver 5 = .ok (.invokestatic 138, 3) := by decide +kernel
theorem d_X_deliver_8 : decode b_X_deliver 8 = .ok (.aload_n 0, 1) := by decide +kernel
theorem d_X_deliver_9 : decode b_X_deliver 9 = .ok (.iload_n 2, 1) := by decide +kernel
theorem d_X_deliver_10 : decode b_X_deliver 10 = .ok (.invokevirtual 79, 3) := by decide +kernel
theorem d_X_deliver_13 : decode b_X_deliver 13 = .ok (.aload_n 0, 1) := by decide +kernel
theorem d_X_deliver_14 : decode b_X_deliver 14 = .ok (.getfield 21, 3) := by decide +kernel
theorem d_X_deliver_17 : decode b_X_deliver 17 = .ok (.iload_n 1, 1) := by decide +kernel
theorem d_X_deliver_18 : decode b_X_deliver 18 = .ok (.iconst 4, 1) := by decide +kernel
theorem d_X_deliver_19 : decode b_X_deliver 19 = .ok (.invokevirtual 142, 3) := by decide +kernel
theorem d_X_deliver_22 : decode b_X_deliver 22 = .ok (.iconst 1, 1) := by decide +kernel
theorem d_X_deliver_23 : decode b_X_deliver 23 = .ok (.if_icmp .eq 13, 3) := by decide +kernel
theorem d_X_deliver_26 : decode b_X_deliver 26 = .ok (.new 110, 3) := by decide +kernel
theorem d_X_deliver_29 : decode b_X_deliver 29 = .ok (.dup, 1) := by decide +kernel
theorem d_X_deliver_30 : decode b_X_deliver 30 = .ok (.ldc 145, 2) := by decide +kernel
theorem d_X_deliver_32 : decode b_X_deliver 32 = .ok (.invokespecial 114, 3) := by decide +kernel
theorem d_X_deliver_35 : decode b_X_deliver 35 = .ok (.athrow, 1) := by decide +kernel
theorem d_X_deliver_36 : decode b_X_deliver 36 = .ok (.aload_n 0, 1) := by decide +kernel
theorem d_X_deliver_37 : decode b_X_deliver 37 = .ok (.getfield 21, 3) := by decide +kernel
theorem d_X_deliver_40 : decode b_X_deliver 40 = .ok (.iload_n 1, 1) := by decide +kernel
theorem d_X_deliver_41 : decode b_X_deliver 41 = .ok (.iconst 1, 1) := by decide +kernel
theorem d_X_deliver_42 : decode b_X_deliver 42 = .ok (.invokevirtual 142, 3) := by decide +kernel
theorem d_X_deliver_45 : decode b_X_deliver 45 = .ok (.aload_n 0, 1) := by decide +kernel
theorem d_X_deliver_46 : decode b_X_deliver 46 = .ok (.getfield 14, 3) := by decide +kernel
theorem d_X_deliver_49 : decode b_X_deliver 49 = .ok (.iload_n 2, 1) := by decide +kernel
theorem d_X_deliver_50 : decode b_X_deliver 50 = .ok (.iconst 0, 1) := by decide +kernel
theorem d_X_deliver_51 : decode b_X_deliver 51 = .ok (.invokevirtual 142, 3) := by decide +kernel
theorem d_X_deliver_54 : decode b_X_deliver 54 = .ok (.if_icmp .eq 13, 3) := by decide +kernel
theorem d_X_deliver_57 : decode b_X_deliver 57 = .ok (.new 110, 3) := by decide +kernel
theorem d_X_deliver_60 : decode b_X_deliver 60 = .ok (.dup, 1) := by decide +kernel
theorem d_X_deliver_61 : decode b_X_deliver 61 = .ok (.ldc 147, 2) := by decide +kernel
theorem d_X_deliver_63 : decode b_X_deliver 63 = .ok (.invokespecial 114, 3) := by decide +kernel
theorem d_X_deliver_66 : decode b_X_deliver 66 = .ok (.athrow, 1) := by decide +kernel
theorem d_X_deliver_67 : decode b_X_deliver 67 = .ok (.aload_n 0, 1) := by decide +kernel
theorem d_X_deliver_68 : decode b_X_deliver 68 = .ok (.getfield 21, 3) := by decide +kernel
theorem d_X_deliver_71 : decode b_X_deliver 71 = .ok (.iload_n 1, 1) := by decide +kernel
theorem d_X_deliver_72 : decode b_X_deliver 72 = .ok (.iconst 0, 1) := by decide +kernel
theorem d_X_deliver_73 : decode b_X_deliver 73 = .ok (.invokevirtual 142, 3) := by decide +kernel
theorem d_X_deliver_76 : decode b_X_deliver 76 = .ok (.istore_n 3, 1) := by decide +kernel
theorem d_X_deliver_77 : decode b_X_deliver 77 = .ok (.aload_n 0, 1) := by decide +kernel
theorem d_X_deliver_78 : decode b_X_deliver 78 = .ok (.getfield 21, 3) := by decide +kernel
theorem d_X_deliver_81 : decode b_X_deliver 81 = .ok (.iload_n 1, 1) := by decide +kernel
theorem d_X_deliver_82 : decode b_X_deliver 82 = .ok (.iconst 4, 1) := by decide +kernel
theorem d_X_deliver_83 : decode b_X_deliver 83 = .ok (.iconst 0, 1) := by decide +kernel
theorem d_X_deliver_84 : decode b_X_deliver 84 = .ok (.invokevirtual 149, 3) := by decide +kernel
theorem d_X_deliver_87 : decode b_X_deliver 87 = .ok (.aload_n 0, 1) := by decide +kernel
theorem d_X_deliver_88 : decode b_X_deliver 88 = .ok (.iload_n 3, 1) := by decide +kernel
theorem d_X_deliver_89 : decode b_X_deliver 89 = .ok (.iload_n 2, 1) := by decide +kernel
theorem d_X_deliver_90 : decode b_X_deliver 90 = .ok (.aload_n 0, 1) := by decide +kernel
theorem d_X_deliver_91 : decode b_X_deliver 91 = .ok (.getfield 21, 3) := by decide +kernel
theorem d_X_deliver_94 : decode b_X_deliver 94 = .ok (.iload_n 1, 1) := by decide +kernel
theorem d_X_deliver_95 : decode b_X_deliver 95 = .ok (.iconst 2, 1) := by decide +kernel
theorem d_X_deliver_96 : decode b_X_deliver 96 = .ok (.invokevirtual 142, 3) := by decide +kernel
theorem d_X_deliver_99 : decode b_X_deliver 99 = .ok (.invokevirtual 152, 3) := by decide +kernel
theorem d_X_deliver_102 : decode b_X_deliver 102 = .ok (.aload_n 0, 1) := by decide +kernel
theorem d_X_deliver_103 : decode b_X_deliver 103 = .ok (.getfield 37, 3) := by decide +kernel
theorem d_X_deliver_106 : decode b_X_deliver 106 = .ok (.iload_n 3, 1) := by decide +kernel
theorem d_X_deliver_107 : decode b_X_deliver 107 = .ok (.iload_n 2, 1) := by decide +kernel
theorem d_X_deliver_108 : decode b_X_deliver 108 = .ok (.invokestatic 88, 3) := by decide +kernel
theorem d_X_deliver_111 : decode b_X_deliver 111 = .ok (.iaload, 1) := by decide +kernel
theorem d_X_deliver_112 : decode b_X_deliver 112 = .ok (.ireturn, 1) := by decide +kernel
theorem d_X_emergency_0 : decode b_X_emergency 0 = .ok (.aload_n 0, 1) := by decide +kernel
theorem d_X_emergency_1 : decode b_X_emergency 1 = .ok (.iload_n 1, 1) := by decide +kernel
theorem d_X_emergency_2 : decode b_X_emergency 2 = .ok (.invokevirtual 76, 3) := by decide +kernel
theorem d_X_emergency_5 : decode b_X_emergency 5 = .ok (.iload_n 2, 1) := by decide +kernel
theorem d_X_emergency_6 : decode b_X_emergency 6 = .ok (.invokestatic 61, 3) := by decide +kernel
theorem d_X_emergency_9 : decode b_X_emergency 9 = .ok (.iload 4, 2) := by decide +kernel
theorem d_X_emergency_11 : decode b_X_emergency 11 = .ok (.invokestatic 155, 3) := by decide +kernel
theorem d_X_emergency_14 : decode b_X_emergency 14 = .ok (.iload_n 3, 1) := by decide +kernel
theorem d_X_emergency_15 : decode b_X_emergency 15 = .ok (.iconst 1, 1) := by decide +kernel
theorem d_X_emergency_16 : decode b_X_emergency 16 = .ok (.sipush 9999, 3) := by decide +kernel
theorem d_X_emergency_19 : decode b_X_emergency 19 = .ok (.invokestatic 64, 3) := by decide +kernel
theorem d_X_emergency_22 : decode b_X_emergency 22 = .ok (.aload_n 0, 1) := by decide +kernel
theorem d_X_emergency_23 : decode b_X_emergency 23 = .ok (.getfield 24, 3) := by decide +kernel
theorem d_X_emergency_26 : decode b_X_emergency 26 = .ok (.invokestatic 68, 3) := by decide +kernel
theorem d_X_emergency_29 : decode b_X_emergency 29 = .ok (.aload_n 0, 1) := by decide +kernel
theorem d_X_emergency_30 : decode b_X_emergency 30 = .ok (.getfield 24, 3) := by decide +kernel
theorem d_X_emergency_33 : decode b_X_emergency 33 = .ok (.iload_n 1, 1) := by decide +kernel
theorem d_X_emergency_34 : decode b_X_emergency 34 = .ok (.iload_n 2, 1) := by decide +kernel
theorem d_X_emergency_35 : decode b_X_emergency 35 = .ok (.iload_n 3, 1) := by decide +kernel
theorem d_X_emergency_36 : decode b_X_emergency 36 = .ok (.iload 4, 2) := by decide +kernel
theorem d_X_emergency_38 : decode b_X_emergency 38 = .ok (.iconst 1, 1) := by decide +kernel
theorem d_X_emergency_39 : decode b_X_emergency 39 = .ok (.invokevirtual 72, 3) := by decide +kernel
theorem d_X_emergency_42 : decode b_X_emergency 42 = .ok (.ireturn, 1) := by decide +kernel
theorem d_X_second_0 : decode b_X_second 0 = .ok (.aload_n 0, 1) := by decide +kernel
theorem d_X_second_1 : decode b_X_second 1 = .ok (.getfield 24, 3) := by decide +kernel
theorem d_X_second_4 : decode b_X_second 4 = .ok (.iload_n 1, 1) := by decide +kernel
theorem d_X_second_5 : decode b_X_second 5 = .ok (.invokestatic 138, 3) := by decide +kernel
theorem d_X_second_8 : decode b_X_second 8 = .ok (.iload_n 2, 1) := by decide +kernel
theorem d_X_second_9 : decode b_X_second 9 = .ok (.invokestatic 155, 3) := by decide +kernel
theorem d_X_second_12 : decode b_X_second 12 = .ok (.aload_n 0, 1) := by decide +kernel
theorem d_X_second_13 : decode b_X_second 13 = .ok (.getfield 24, 3) := by decide +kernel
theorem d_X_second_16 : decode b_X_second 16 = .ok (.iload_n 1, 1) := by decide +kernel
theorem d_X_second_17 : decode b_X_second 17 = .ok (.iconst 4, 1) := by decide +kernel
theorem d_X_second_18 : decode b_X_second 18 = .ok (.invokevirtual 142, 3) := by decide +kernel
theorem d_X_second_21 : decode b_X_second 21 = .ok (.iconst 1, 1) := by decide +kernel
theorem d_X_second_22 : decode b_X_second 22 = .ok (.if_icmp .eq 13, 3) := by decide +kernel
theorem d_X_second_25 : decode b_X_second 25 = .ok (.new 110, 3) := by decide +kernel
theorem d_X_second_28 : decode b_X_second 28 = .ok (.dup, 1) := by decide +kernel
theorem d_X_second_29 : decode b_X_second 29 = .ok (.ldc 158, 2) := by decide +kernel
theorem d_X_second_31 : decode b_X_second 31 = .ok (.invokespecial 114, 3) := by decide +kernel
theorem d_X_second_34 : decode b_X_second 34 = .ok (.athrow, 1) := by decide +kernel
theorem d_X_second_35 : decode b_X_second 35 = .ok (.aload_n 0, 1) := by decide +kernel
theorem d_X_second_36 : decode b_X_second 36 = .ok (.getfield 24, 3) := by decide +kernel
theorem d_X_second_39 : decode b_X_second 39 = .ok (.iload_n 1, 1) := by decide +kernel
theorem d_X_second_40 : decode b_X_second 40 = .ok (.iconst 3, 1) := by decide +kernel
theorem d_X_second_41 : decode b_X_second 41 = .ok (.invokevirtual 142, 3) := by decide +kernel
theorem d_X_second_44 : decode b_X_second 44 = .ok (.iload_n 2, 1) := by decide +kernel
theorem d_X_second_45 : decode b_X_second 45 = .ok (.if_icmp .ne 13, 3) := by decide +kernel
theorem d_X_second_48 : decode b_X_second 48 = .ok (.new 110, 3) := by decide +kernel
theorem d_X_second_51 : decode b_X_second 51 = .ok (.dup, 1) := by decide +kernel
theorem d_X_second_52 : decode b_X_second 52 = .ok (.ldc 160, 2) := by decide +kernel
theorem d_X_second_54 : decode b_X_second 54 = .ok (.invokespecial 114, 3) := by decide +kernel
theorem d_X_second_57 : decode b_X_second 57 = .ok (.athrow, 1) := by decide +kernel
theorem d_X_second_58 : decode b_X_second 58 = .ok (.aload_n 0, 1) := by decide +kernel
theorem d_X_second_59 : decode b_X_second 59 = .ok (.getfield 21, 3) := by decide +kernel
theorem d_X_second_62 : decode b_X_second 62 = .ok (.invokestatic 68, 3) := by decide +kernel
theorem d_X_second_65 : decode b_X_second 65 = .ok (.aload_n 0, 1) := by decide +kernel
theorem d_X_second_66 : decode b_X_second 66 = .ok (.getfield 24, 3) := by decide +kernel
theorem d_X_second_69 : decode b_X_second 69 = .ok (.iload_n 1, 1) := by decide +kernel
theorem d_X_second_70 : decode b_X_second 70 = .ok (.iconst 4, 1) := by decide +kernel
theorem d_X_second_71 : decode b_X_second 71 = .ok (.iconst 0, 1) := by decide +kernel
theorem d_X_second_72 : decode b_X_second 72 = .ok (.invokevirtual 149, 3) := by decide +kernel
theorem d_X_second_75 : decode b_X_second 75 = .ok (.aload_n 0, 1) := by decide +kernel
theorem d_X_second_76 : decode b_X_second 76 = .ok (.aload_n 0, 1) := by decide +kernel
theorem d_X_second_77 : decode b_X_second 77 = .ok (.getfield 24, 3) := by decide +kernel
theorem d_X_second_80 : decode b_X_second 80 = .ok (.iload_n 1, 1) := by decide +kernel
theorem d_X_second_81 : decode b_X_second 81 = .ok (.iconst 0, 1) := by decide +kernel
theorem d_X_second_82 : decode b_X_second 82 = .ok (.invokevirtual 142, 3) := by decide +kernel
theorem d_X_second_85 : decode b_X_second 85 = .ok (.aload_n 0, 1) := by decide +kernel
theorem d_X_second_86 : decode b_X_second 86 = .ok (.getfield 24, 3) := by decide +kernel
theorem d_X_second_89 : decode b_X_second 89 = .ok (.iload_n 1, 1) := by decide +kernel
theorem d_X_second_90 : decode b_X_second 90 = .ok (.iconst 1, 1) := by decide +kernel
theorem d_X_second_91 : decode b_X_second 91 = .ok (.invokevirtual 142, 3) := by decide +kernel
theorem d_X_second_94 : decode b_X_second 94 = .ok (.aload_n 0, 1) := by decide +kernel
theorem d_X_second_95 : decode b_X_second 95 = .ok (.getfield 24, 3) := by decide +kernel
theorem d_X_second_98 : decode b_X_second 98 = .ok (.iload_n 1, 1) := by decide +kernel
theorem d_X_second_99 : decode b_X_second 99 = .ok (.iconst 2, 1) := by decide +kernel
theorem d_X_second_100 : decode b_X_second 100 = .ok (.invokevirtual 142, 3) := by decide +kernel
theorem d_X_second_103 : decode b_X_second 103 = .ok (.invokevirtual 162, 3) := by decide +kernel
theorem d_X_second_106 : decode b_X_second 106 = .ok (.ireturn, 1) := by decide +kernel
theorem d_X_count_0 : decode b_X_count 0 = .ok (.aload_n 0, 1) := by decide +kernel
theorem d_X_count_1 : decode b_X_count 1 = .ok (.iload_n 1, 1) := by decide +kernel
theorem d_X_count_2 : decode b_X_count 2 = .ok (.invokevirtual 76, 3) := by decide +kernel
theorem d_X_count_5 : decode b_X_count 5 = .ok (.aload_n 0, 1) := by decide +kernel
theorem d_X_count_6 : decode b_X_count 6 = .ok (.iload_n 2, 1) := by decide +kernel
theorem d_X_count_7 : decode b_X_count 7 = .ok (.invokevirtual 79, 3) := by decide +kernel
theorem d_X_count_10 : decode b_X_count 10 = .ok (.iload_n 3, 1) := by decide +kernel
theorem d_X_count_11 : decode b_X_count 11 = .ok (.iconst 0, 1) := by decide +kernel
theorem d_X_count_12 : decode b_X_count 12 = .ok (.sipush 9999, 3) := by decide +kernel
theorem d_X_count_15 : decode b_X_count 15 = .ok (.invokestatic 64, 3) := by decide +kernel
theorem d_X_count_18 : decode b_X_count 18 = .ok (.iload 4, 2) := by decide +kernel
theorem d_X_count_20 : decode b_X_count 20 = .ok (.iconst 1, 1) := by decide +kernel
theorem d_X_count_21 : decode b_X_count 21 = .ok (.bipush 99, 2) := by decide +kernel
theorem d_X_count_23 : decode b_X_count 23 = .ok (.invokestatic 64, 3) := by decide +kernel
theorem d_X_count_26 : decode b_X_count 26 = .ok (.iload_n 3, 1) := by decide +kernel
theorem d_X_count_27 : decode b_X_count 27 = .ok (.aload_n 0, 1) := by decide +kernel
theorem d_X_count_28 : decode b_X_count 28 = .ok (.getfield 37, 3) := by decide +kernel
theorem d_X_count_31 : decode b_X_count 31 = .ok (.iload_n 1, 1) := by decide +kernel
theorem d_X_count_32 : decode b_X_count 32 = .ok (.iload_n 2, 1) := by decide +kernel
theorem d_X_count_33 : decode b_X_count 33 = .ok (.invokestatic 88, 3) := by decide +kernel
theorem d_X_count_36 : decode b_X_count 36 = .ok (.iaload, 1) := by decide +kernel
theorem d_X_count_37 : decode b_X_count 37 = .ok (.isub, 1) := by decide +kernel
theorem d_X_count_38 : decode b_X_count 38 = .ok (.istore 5, 2) := by decide +kernel
theorem d_X_count_40 : decode b_X_count 40 = .ok (.iload 5, 2) := by decide +kernel
theorem d_X_count_42 : decode b_X_count 42 = .ok (.ifCond .ne 5, 3) := by decide +kernel
theorem d_X_count_45 : decode b_X_count 45 = .ok (.iconst 0, 1) := by decide +kernel
theorem d_X_count_46 : decode b_X_count 46 = .ok (.ireturn, 1) := by decide +kernel
theorem d_X_count_47 : decode b_X_count 47 = .ok (.aload_n 0, 1) := by decide +kernel
theorem d_X_count_48 : decode b_X_count 48 = .ok (.getfield 27, 3) := by decide +kernel
theorem d_X_count_51 : decode b_X_count 51 = .ok (.invokestatic 68, 3) := by decide +kernel
theorem d_X_count_54 : decode b_X_count 54 = .ok (.aload_n 0, 1) := by decide +kernel
theorem d_X_count_55 : decode b_X_count 55 = .ok (.iload_n 1, 1) := by decide +kernel
theorem d_X_count_56 : decode b_X_count 56 = .ok (.iload_n 2, 1) := by decide +kernel
theorem d_X_count_57 : decode b_X_count 57 = .ok (.iload 5, 2) := by decide +kernel
theorem d_X_count_59 : decode b_X_count 59 = .ok (.invokevirtual 85, 3) := by decide +kernel
theorem d_X_count_62 : decode b_X_count 62 = .ok (.aload_n 0, 1) := by decide +kernel
theorem d_X_count_63 : decode b_X_count 63 = .ok (.getfield 27, 3) := by decide +kernel
theorem d_X_count_66 : decode b_X_count 66 = .ok (.iload_n 1, 1) := by decide +kernel
theorem d_X_count_67 : decode b_X_count 67 = .ok (.iload_n 2, 1) := by decide +kernel
theorem d_X_count_68 : decode b_X_count 68 = .ok (.iload 5, 2) := by decide +kernel
theorem d_X_count_70 : decode b_X_count 70 = .ok (.iload 4, 2) := by decide +kernel
theorem d_X_count_72 : decode b_X_count 72 = .ok (.aload_n 0, 1) := by decide +kernel
theorem d_X_count_73 : decode b_X_count 73 = .ok (.getfield 100, 3) := by decide +kernel
theorem d_X_count_76 : decode b_X_count 76 = .ok (.invokevirtual 72, 3) := by decide +kernel
theorem d_X_count_79 : decode b_X_count 79 = .ok (.pop, 1) := by decide +kernel
theorem d_X_count_80 : decode b_X_count 80 = .ok (.iload 5, 2) := by decide +kernel
theorem d_X_count_82 : decode b_X_count 82 = .ok (.ireturn, 1) := by decide +kernel
theorem d_X_difference_0 : decode b_X_difference 0 = .ok (.aload_n 0, 1) := by decide +kernel
theorem d_X_difference_1 : decode b_X_difference 1 = .ok (.getfield 27, 3) := by decide +kernel
theorem d_X_difference_4 : decode b_X_difference 4 = .ok (.iload_n 1, 1) := by decide +kernel
theorem d_X_difference_5 : decode b_X_difference 5 = .ok (.iload_n 2, 1) := by decide +kernel
theorem d_X_difference_6 : decode b_X_difference 6 = .ok (.invokestatic 134, 3) := by decide +kernel
theorem d_X_difference_9 : decode b_X_difference 9 = .ok (.ireturn, 1) := by decide +kernel
theorem d_X_kit_0 : decode b_X_kit 0 = .ok (.iload_n 1, 1) := by decide +kernel
theorem d_X_kit_1 : decode b_X_kit 1 = .ok (.invokestatic 166, 3) := by decide +kernel
theorem d_X_kit_4 : decode b_X_kit 4 = .ok (.iload_n 2, 1) := by decide +kernel
theorem d_X_kit_5 : decode b_X_kit 5 = .ok (.invokestatic 61, 3) := by decide +kernel
theorem d_X_kit_8 : decode b_X_kit 8 = .ok (.iload_n 3, 1) := by decide +kernel
theorem d_X_kit_9 : decode b_X_kit 9 = .ok (.iconst 0, 1) := by decide +kernel
theorem d_X_kit_10 : decode b_X_kit 10 = .ok (.bipush 20, 2) := by decide +kernel
theorem d_X_kit_12 : decode b_X_kit 12 = .ok (.invokestatic 64, 3) := by decide +kernel
theorem d_X_kit_15 : decode b_X_kit 15 = .ok (.aload_n 0, 1) := by decide +kernel
theorem d_X_kit_16 : decode b_X_kit 16 = .ok (.getfield 47, 3) := by decide +kernel
theorem d_X_kit_19 : decode b_X_kit 19 = .ok (.iload_n 1, 1) := by decide +kernel
theorem d_X_kit_20 : decode b_X_kit 20 = .ok (.iload_n 2, 1) := by decide +kernel
theorem d_X_kit_21 : decode b_X_kit 21 = .ok (.invokestatic 123, 3) := by decide +kernel
theorem d_X_kit_24 : decode b_X_kit 24 = .ok (.iload_n 3, 1) := by decide +kernel
theorem d_X_kit_25 : decode b_X_kit 25 = .ok (.iastore, 1) := by decide +kernel
theorem d_X_kit_26 : decode b_X_kit 26 = .ok (.return_, 1) := by decide +kernel
theorem d_X_give_0 : decode b_X_give 0 = .ok (.aload_n 0, 1) := by decide +kernel
theorem d_X_give_1 : decode b_X_give 1 = .ok (.iload_n 1, 1) := by decide +kernel
theorem d_X_give_2 : decode b_X_give 2 = .ok (.invokevirtual 76, 3) := by decide +kernel
theorem d_X_give_5 : decode b_X_give 5 = .ok (.iload_n 2, 1) := by decide +kernel
theorem d_X_give_6 : decode b_X_give 6 = .ok (.invokestatic 166, 3) := by decide +kernel
theorem d_X_give_9 : decode b_X_give 9 = .ok (.aload_n 0, 1) := by decide +kernel
theorem d_X_give_10 : decode b_X_give 10 = .ok (.iload_n 2, 1) := by decide +kernel
theorem d_X_give_11 : decode b_X_give 11 = .ok (.invokevirtual 169, 3) := by decide +kernel
theorem d_X_give_14 : decode b_X_give 14 = .ok (.ifCond .ne 13, 3) := by decide +kernel
theorem d_X_give_17 : decode b_X_give 17 = .ok (.new 110, 3) := by decide +kernel
theorem d_X_give_20 : decode b_X_give 20 = .ok (.dup, 1) := by decide +kernel
theorem d_X_give_21 : decode b_X_give 21 = .ok (.ldc 173, 2) := by decide +kernel
theorem d_X_give_23 : decode b_X_give 23 = .ok (.invokespecial 114, 3) := by decide +kernel
theorem d_X_give_26 : decode b_X_give 26 = .ok (.athrow, 1) := by decide +kernel
theorem d_X_give_27 : decode b_X_give 27 = .ok (.aload_n 0, 1) := by decide +kernel
theorem d_X_give_28 : decode b_X_give 28 = .ok (.iload_n 1, 1) := by decide +kernel
theorem d_X_give_29 : decode b_X_give 29 = .ok (.iload_n 2, 1) := by decide +kernel
theorem d_X_give_30 : decode b_X_give 30 = .ok (.invokevirtual 175, 3) := by decide +kernel
theorem d_X_give_33 : decode b_X_give 33 = .ok (.istore_n 3, 1) := by decide +kernel
theorem d_X_give_34 : decode b_X_give 34 = .ok (.iload_n 3, 1) := by decide +kernel
theorem d_X_give_35 : decode b_X_give 35 = .ok (.ifCond .lt 5, 3) := by decide +kernel
theorem d_X_give_38 : decode b_X_give 38 = .ok (.iload_n 3, 1) := by decide +kernel
theorem d_X_give_39 : decode b_X_give 39 = .ok (.ireturn, 1) := by decide +kernel
theorem d_X_give_40 : decode b_X_give 40 = .ok (.iconst 0, 1) := by decide +kernel
theorem d_X_give_41 : decode b_X_give 41 = .ok (.istore 4, 2) := by decide +kernel
theorem d_X_give_43 : decode b_X_give 43 = .ok (.iload 4, 2) := by decide +kernel
theorem d_X_give_45 : decode b_X_give 45 = .ok (.bipush 10, 2) := by decide +kernel
theorem d_X_give_47 : decode b_X_give 47 = .ok (.if_icmp .ge 27, 3) := by decide +kernel
theorem d_X_give_50 : decode b_X_give 50 = .ok (.aload_n 0, 1) := by decide +kernel
theorem d_X_give_51 : decode b_X_give 51 = .ok (.iload_n 1, 1) := by decide +kernel
theorem d_X_give_52 : decode b_X_give 52 = .ok (.iload 4, 2) := by decide +kernel
theorem d_X_give_54 : decode b_X_give 54 = .ok (.aload_n 0, 1) := by decide +kernel
theorem d_X_give_55 : decode b_X_give 55 = .ok (.getfield 47, 3) := by decide +kernel
theorem d_X_give_58 : decode b_X_give 58 = .ok (.iload_n 2, 1) := by decide +kernel
theorem d_X_give_59 : decode b_X_give 59 = .ok (.iload 4, 2) := by decide +kernel
theorem d_X_give_61 : decode b_X_give 61 = .ok (.invokestatic 123, 3) := by decide +kernel
theorem d_X_give_64 : decode b_X_give 64 = .ok (.iaload, 1) := by decide +kernel
theorem d_X_give_65 : decode b_X_give 65 = .ok (.invokevirtual 115, 3) := by decide +kernel
theorem d_X_give_68 : decode b_X_give 68 = .ok (.iinc 4 1, 3) := by decide +kernel
theorem d_X_give_71 : decode b_X_give 71 = .ok (.goto (-28), 3) := by decide +kernel
theorem d_X_give_74 : decode b_X_give 74 = .ok (.iconst (-1), 1) := by decide +kernel
theorem d_X_give_75 : decode b_X_give 75 = .ok (.ireturn, 1) := by decide +kernel
theorem d_X_back_0 : decode b_X_back 0 = .ok (.aload_n 0, 1) := by decide +kernel
theorem d_X_back_1 : decode b_X_back 1 = .ok (.iload_n 1, 1) := by decide +kernel
theorem d_X_back_2 : decode b_X_back 2 = .ok (.invokevirtual 76, 3) := by decide +kernel
theorem d_X_back_5 : decode b_X_back 5 = .ok (.aload_n 0, 1) := by decide +kernel
theorem d_X_back_6 : decode b_X_back 6 = .ok (.iload_n 2, 1) := by decide +kernel
theorem d_X_back_7 : decode b_X_back 7 = .ok (.invokevirtual 79, 3) := by decide +kernel
theorem d_X_back_10 : decode b_X_back 10 = .ok (.iload_n 3, 1) := by decide +kernel
theorem d_X_back_11 : decode b_X_back 11 = .ok (.iconst 1, 1) := by decide +kernel
theorem d_X_back_12 : decode b_X_back 12 = .ok (.sipush 9999, 3) := by decide +kernel
theorem d_X_back_15 : decode b_X_back 15 = .ok (.invokestatic 64, 3) := by decide +kernel
theorem d_X_back_18 : decode b_X_back 18 = .ok (.aload_n 0, 1) := by decide +kernel
theorem d_X_back_19 : decode b_X_back 19 = .ok (.getfield 14, 3) := by decide +kernel
theorem d_X_back_22 : decode b_X_back 22 = .ok (.iload_n 2, 1) := by decide +kernel
theorem d_X_back_23 : decode b_X_back 23 = .ok (.iconst 2, 1) := by decide +kernel
theorem d_X_back_24 : decode b_X_back 24 = .ok (.invokevirtual 142, 3) := by decide +kernel
theorem d_X_back_27 : decode b_X_back 27 = .ok (.iload_n 3, 1) := by decide +kernel
theorem d_X_back_28 : decode b_X_back 28 = .ok (.if_icmp .ge 5, 3) := by decide +kernel
theorem d_X_back_31 : decode b_X_back 31 = .ok (.iconst 0, 1) := by decide +kernel
theorem d_X_back_32 : decode b_X_back 32 = .ok (.ireturn, 1) := by decide +kernel
theorem d_X_back_33 : decode b_X_back 33 = .ok (.aload_n 0, 1) := by decide +kernel
theorem d_X_back_34 : decode b_X_back 34 = .ok (.iload_n 1, 1) := by decide +kernel
theorem d_X_back_35 : decode b_X_back 35 = .ok (.iload_n 2, 1) := by decide +kernel
theorem d_X_back_36 : decode b_X_back 36 = .ok (.iload_n 3, 1) := by decide +kernel
theorem d_X_back_37 : decode b_X_back 37 = .ok (.invokevirtual 82, 3) := by decide +kernel
theorem d_X_back_40 : decode b_X_back 40 = .ok (.aload_n 0, 1) := by decide +kernel
theorem d_X_back_41 : decode b_X_back 41 = .ok (.getfield 14, 3) := by decide +kernel
theorem d_X_back_44 : decode b_X_back 44 = .ok (.iload_n 2, 1) := by decide +kernel
theorem d_X_back_45 : decode b_X_back 45 = .ok (.iconst 2, 1) := by decide +kernel
theorem d_X_back_46 : decode b_X_back 46 = .ok (.aload_n 0, 1) := by decide +kernel
theorem d_X_back_47 : decode b_X_back 47 = .ok (.getfield 14, 3) := by decide +kernel
theorem d_X_back_50 : decode b_X_back 50 = .ok (.iload_n 2, 1) := by decide +kernel
theorem d_X_back_51 : decode b_X_back 51 = .ok (.iconst 2, 1) := by decide +kernel
theorem d_X_back_52 : decode b_X_back 52 = .ok (.invokevirtual 142, 3) := by decide +kernel
theorem d_X_back_55 : decode b_X_back 55 = .ok (.iload_n 3, 1) := by decide +kernel
theorem d_X_back_56 : decode b_X_back 56 = .ok (.isub, 1) := by decide +kernel
theorem d_X_back_57 : decode b_X_back 57 = .ok (.invokevirtual 149, 3) := by decide +kernel
theorem d_X_back_60 : decode b_X_back 60 = .ok (.aload_n 0, 1) := by decide +kernel
theorem d_X_back_61 : decode b_X_back 61 = .ok (.iload_n 1, 1) := by decide +kernel
theorem d_X_back_62 : decode b_X_back 62 = .ok (.iload_n 2, 1) := by decide +kernel
theorem d_X_back_63 : decode b_X_back 63 = .ok (.iload_n 3, 1) := by decide +kernel
theorem d_X_back_64 : decode b_X_back 64 = .ok (.invokevirtual 85, 3) := by decide +kernel
theorem d_X_back_67 : decode b_X_back 67 = .ok (.iconst 1, 1) := by decide +kernel
theorem d_X_back_68 : decode b_X_back 68 = .ok (.ireturn, 1) := by decide +kernel
theorem d_X_waste_0 : decode b_X_waste 0 = .ok (.aload_n 0, 1) := by decide +kernel
theorem d_X_waste_1 : decode b_X_waste 1 = .ok (.iload_n 1, 1) := by decide +kernel
theorem d_X_waste_2 : decode b_X_waste 2 = .ok (.invokevirtual 76, 3) := by decide +kernel
theorem d_X_waste_5 : decode b_X_waste 5 = .ok (.aload_n 0, 1) := by decide +kernel
theorem d_X_waste_6 : decode b_X_waste 6 = .ok (.iload_n 2, 1) := by decide +kernel
theorem d_X_waste_7 : decode b_X_waste 7 = .ok (.invokevirtual 79, 3) := by decide +kernel
theorem d_X_waste_10 : decode b_X_waste 10 = .ok (.iload_n 3, 1) := by decide +kernel
theorem d_X_waste_11 : decode b_X_waste 11 = .ok (.iconst 1, 1) := by decide +kernel
theorem d_X_waste_12 : decode b_X_waste 12 = .ok (.sipush 9999, 3) := by decide +kernel
theorem d_X_waste_15 : decode b_X_waste 15 = .ok (.invokestatic 64, 3) := by decide +kernel
theorem d_X_waste_18 : decode b_X_waste 18 = .ok (.iload 4, 2) := by decide +kernel
theorem d_X_waste_20 : decode b_X_waste 20 = .ok (.iconst 1, 1) := by decide +kernel
theorem d_X_waste_21 : decode b_X_waste 21 = .ok (.sipush 9999, 3) := by decide +kernel
theorem d_X_waste_24 : decode b_X_waste 24 = .ok (.invokestatic 64, 3) := by decide +kernel
theorem d_X_waste_27 : decode b_X_waste 27 = .ok (.aload_n 0, 1) := by decide +kernel
theorem d_X_waste_28 : decode b_X_waste 28 = .ok (.iload_n 1, 1) := by decide +kernel
theorem d_X_waste_29 : decode b_X_waste 29 = .ok (.iload_n 2, 1) := by decide +kernel
theorem d_X_waste_30 : decode b_X_waste 30 = .ok (.iload_n 3, 1) := by decide +kernel
theorem d_X_waste_31 : decode b_X_waste 31 = .ok (.invokevirtual 97, 3) := by decide +kernel
theorem d_X_waste_34 : decode b_X_waste 34 = .ok (.aload_n 0, 1) := by decide +kernel
theorem d_X_waste_35 : decode b_X_waste 35 = .ok (.iload_n 1, 1) := by decide +kernel
theorem d_X_waste_36 : decode b_X_waste 36 = .ok (.iload_n 2, 1) := by decide +kernel
theorem d_X_waste_37 : decode b_X_waste 37 = .ok (.iload_n 3, 1) := by decide +kernel
theorem d_X_waste_38 : decode b_X_waste 38 = .ok (.ineg, 1) := by decide +kernel
theorem d_X_waste_39 : decode b_X_waste 39 = .ok (.invokevirtual 85, 3) := by decide +kernel
theorem d_X_waste_42 : decode b_X_waste 42 = .ok (.aload_n 0, 1) := by decide +kernel
theorem d_X_waste_43 : decode b_X_waste 43 = .ok (.getfield 14, 3) := by decide +kernel
theorem d_X_waste_46 : decode b_X_waste 46 = .ok (.iload_n 2, 1) := by decide +kernel
theorem d_X_waste_47 : decode b_X_waste 47 = .ok (.iconst 3, 1) := by decide +kernel
theorem d_X_waste_48 : decode b_X_waste 48 = .ok (.aload_n 0, 1) := by decide +kernel
theorem d_X_waste_49 : decode b_X_waste 49 = .ok (.getfield 14, 3) := by decide +kernel
theorem d_X_waste_52 : decode b_X_waste 52 = .ok (.iload_n 2, 1) := by decide +kernel
theorem d_X_waste_53 : decode b_X_waste 53 = .ok (.iconst 3, 1) := by decide +kernel
theorem d_X_waste_54 : decode b_X_waste 54 = .ok (.invokevirtual 142, 3) := by decide +kernel
theorem d_X_waste_57 : decode b_X_waste 57 = .ok (.iload_n 3, 1) := by decide +kernel
theorem d_X_waste_58 : decode b_X_waste 58 = .ok (.iadd, 1) := by decide +kernel
theorem d_X_waste_59 : decode b_X_waste 59 = .ok (.invokevirtual 149, 3) := by decide +kernel
theorem d_X_waste_62 : decode b_X_waste 62 = .ok (.aload_n 0, 1) := by decide +kernel
theorem d_X_waste_63 : decode b_X_waste 63 = .ok (.getfield 14, 3) := by decide +kernel
theorem d_X_waste_66 : decode b_X_waste 66 = .ok (.iload_n 2, 1) := by decide +kernel
theorem d_X_waste_67 : decode b_X_waste 67 = .ok (.iconst 4, 1) := by decide +kernel
theorem d_X_waste_68 : decode b_X_waste 68 = .ok (.iload 4, 2) := by decide +kernel
theorem d_X_waste_70 : decode b_X_waste 70 = .ok (.invokevirtual 149, 3) := by decide +kernel
theorem d_X_waste_73 : decode b_X_waste 73 = .ok (.aload_n 0, 1) := by decide +kernel
theorem d_X_waste_74 : decode b_X_waste 74 = .ok (.getfield 14, 3) := by decide +kernel
theorem d_X_waste_77 : decode b_X_waste 77 = .ok (.iload_n 2, 1) := by decide +kernel
theorem d_X_waste_78 : decode b_X_waste 78 = .ok (.iconst 3, 1) := by decide +kernel
theorem d_X_waste_79 : decode b_X_waste 79 = .ok (.invokevirtual 142, 3) := by decide +kernel
theorem d_X_waste_82 : decode b_X_waste 82 = .ok (.ireturn, 1) := by decide +kernel
theorem d_X_lotAt_0 : decode b_X_lotAt 0 = .ok (.aload_n 0, 1) := by decide +kernel
theorem d_X_lotAt_1 : decode b_X_lotAt 1 = .ok (.iload_n 1, 1) := by decide +kernel
theorem d_X_lotAt_2 : decode b_X_lotAt 2 = .ok (.invokevirtual 79, 3) := by decide +kernel
theorem d_X_lotAt_5 : decode b_X_lotAt 5 = .ok (.iload_n 2, 1) := by decide +kernel
theorem d_X_lotAt_6 : decode b_X_lotAt 6 = .ok (.iconst 5, 1) := by decide +kernel
theorem d_X_lotAt_7 : decode b_X_lotAt 7 = .ok (.if_icmp .ne 9, 3) := by decide +kernel
theorem d_X_lotAt_10 : decode b_X_lotAt 10 = .ok (.aload_n 0, 1) := by decide +kernel
theorem d_X_lotAt_11 : decode b_X_lotAt 11 = .ok (.iload_n 1, 1) := by decide +kernel
theorem d_X_lotAt_12 : decode b_X_lotAt 12 = .ok (.invokevirtual 178, 3) := by decide +kernel
theorem d_X_lotAt_15 : decode b_X_lotAt 15 = .ok (.ireturn, 1) := by decide +kernel
theorem d_X_lotAt_16 : decode b_X_lotAt 16 = .ok (.aload_n 0, 1) := by decide +kernel
theorem d_X_lotAt_17 : decode b_X_lotAt 17 = .ok (.getfield 14, 3) := by decide +kernel
theorem d_X_lotAt_20 : decode b_X_lotAt 20 = .ok (.iload_n 1, 1) := by decide +kernel
theorem d_X_lotAt_21 : decode b_X_lotAt 21 = .ok (.iload_n 2, 1) := by decide +kernel
theorem d_X_lotAt_22 : decode b_X_lotAt 22 = .ok (.invokestatic 134, 3) := by decide +kernel
theorem d_X_lotAt_25 : decode b_X_lotAt 25 = .ok (.ireturn, 1) := by decide +kernel
theorem d_X_row_0 : decode b_X_row 0 = .ok (.iload_n 1, 1) := by decide +kernel
theorem d_X_row_1 : decode b_X_row 1 = .ok (.iconst 0, 1) := by decide +kernel
theorem d_X_row_2 : decode b_X_row 2 = .ok (.ldc 182, 2) := by decide +kernel
theorem d_X_row_4 : decode b_X_row 4 = .ok (.invokestatic 64, 3) := by decide +kernel
theorem d_X_row_7 : decode b_X_row 7 = .ok (.iload_n 2, 1) := by decide +kernel
theorem d_X_row_8 : decode b_X_row 8 = .ok (.iconst 0, 1) := by decide +kernel
theorem d_X_row_9 : decode b_X_row 9 = .ok (.ldc 182, 2) := by decide +kernel
theorem d_X_row_11 : decode b_X_row 11 = .ok (.invokestatic 64, 3) := by decide +kernel
theorem d_X_row_14 : decode b_X_row 14 = .ok (.aload_n 0, 1) := by decide +kernel
theorem d_X_row_15 : decode b_X_row 15 = .ok (.getfield 33, 3) := by decide +kernel
theorem d_X_row_18 : decode b_X_row 18 = .ok (.iload_n 1, 1) := by decide +kernel
theorem d_X_row_19 : decode b_X_row 19 = .ok (.iload_n 2, 1) := by decide +kernel
theorem d_X_row_20 : decode b_X_row 20 = .ok (.invokevirtual 183, 3) := by decide +kernel
theorem d_X_row_23 : decode b_X_row 23 = .ok (.ifCond .ne 13, 3) := by decide +kernel
theorem d_X_row_26 : decode b_X_row 26 = .ok (.new 110, 3) := by decide +kernel
theorem d_X_row_29 : decode b_X_row 29 = .ok (.dup, 1) := by decide +kernel
theorem d_X_row_30 : decode b_X_row 30 = .ok (.ldc 187, 2) := by decide +kernel
theorem d_X_row_32 : decode b_X_row 32 = .ok (.invokespecial 114, 3) := by decide +kernel
theorem d_X_row_35 : decode b_X_row 35 = .ok (.athrow, 1) := by decide +kernel
theorem d_X_row_36 : decode b_X_row 36 = .ok (.aload_n 0, 1) := by decide +kernel
theorem d_X_row_37 : decode b_X_row 37 = .ok (.getfield 33, 3) := by decide +kernel
theorem d_X_row_40 : decode b_X_row 40 = .ok (.invokevirtual 189, 3) := by decide +kernel
theorem d_X_row_43 : decode b_X_row 43 = .ok (.ifCond .eq 13, 3) := by decide +kernel
end
section
/-! ROWS OVER NATURAL NUMBERS, and calls of methods that only look (the heap stays as it is). -/
def b2 (b : Bool) : Int32 := if b = true then 1 else 0
theorem b2_t : b2 true = 1 := rfl
theorem b2_f : b2 false = 0 := rfl
theorem b2_n (b : Bool) : b2 b = nI (if b = true then 1 else 0) := by cases b <;> rfl
section NV
variable {p : Program} {l : Launch} {e : Env} {R : Room} {s : State} {m : MethodId} {args : Array Value} {below : List Frame} {meth : Method} {c : Code} {H : Heap} {locs : List Loc} {cells slots : Nat} {Q : State → Prop}
variable {cc : ByteArray} {pc : Nat} {ls : Array Slot} {rest : List Value}
theorem nv_add (hexec : p.tables.exec = Jvm.exec) (hb : c.code = cc) {x y : Nat} (hdg : decode cc pc = .ok (.iadd, 1)) (k : W p l e R s m args below meth c H locs cells slots Q (F0 m (pc + 1) ls (.int (nI (x + y)) :: rest))) :
    W p l e R s m args below meth c H locs cells slots Q (F0 m pc ls (.int (nI y) :: .int (nI x) :: rest)) := lv_iadd hexec hb hdg (by rw [nI_add]; exact k)
theorem nv_sub (hexec : p.tables.exec = Jvm.exec) (hb : c.code = cc) {x y : Nat} (h : y ≤ x) (hdg : decode cc pc = .ok (.isub, 1)) (k : W p l e R s m args below meth c H locs cells slots Q (F0 m (pc + 1) ls (.int (nI (x - y)) :: rest))) :
    W p l e R s m args below meth c H locs cells slots Q (F0 m pc ls (.int (nI y) :: .int (nI x) :: rest)) := lv_isub hexec hb hdg (by rw [pk_sub h]; exact k)
theorem nv_mul (hexec : p.tables.exec = Jvm.exec) (hb : c.code = cc) {x y : Nat} (hdg : decode cc pc = .ok (.imul, 1)) (k : W p l e R s m args below meth c H locs cells slots Q (F0 m (pc + 1) ls (.int (nI (x * y)) :: rest))) :
    W p l e R s m args below meth c H locs cells slots Q (F0 m pc ls (.int (nI y) :: .int (nI x) :: rest)) := lv_imul hexec hb hdg (by rw [pk_mul]; exact k)
/-- the number on the stack, said otherwise -/
theorem nv_as {x : Int32} (y : Int32) (h : x = y) (k : W p l e R s m args below meth c H locs cells slots Q (F0 m pc ls (.int y :: rest))) : W p l e R s m args below meth c H locs cells slots Q (F0 m pc ls (.int x :: rest)) := by rw [h]; exact k
variable {off : Int} {tgt : Nat} {x y : Nat}
theorem nv_cge (hexec : p.tables.exec = Jvm.exec) (hb : c.code = cc) (hx : x < 2 ^ 31) (hy : y < 2 ^ 31) (hdg : decode cc pc = .ok (.if_icmp .ge off, 3)) (ht : (pc : Int) + off = (tgt : Int))
    (kt : y ≤ x → W p l e R s m args below meth c H locs cells slots Q (F0 m tgt ls rest)) (kf : x < y → W p l e R s m args below meth c H locs cells slots Q (F0 m (pc + 3) ls rest)) : W p l e R s m args below meth c H locs cells slots Q (F0 m pc ls (.int (nI y) :: .int (nI x) :: rest)) :=
  lv_icmp_ge hexec hb hdg ht (fun h => kt ((nI_leI hy hx).mp h)) (fun h => kf (Nat.not_le.mp fun z => h ((nI_leI hy hx).mpr z)))
theorem nv_clt (hexec : p.tables.exec = Jvm.exec) (hb : c.code = cc) (hx : x < 2 ^ 31) (hy : y < 2 ^ 31) (hdg : decode cc pc = .ok (.if_icmp .lt off, 3)) (ht : (pc : Int) + off = (tgt : Int))
    (kt : x < y → W p l e R s m args below meth c H locs cells slots Q (F0 m tgt ls rest)) (kf : y ≤ x → W p l e R s m args below meth c H locs cells slots Q (F0 m (pc + 3) ls rest)) : W p l e R s m args below meth c H locs cells slots Q (F0 m pc ls (.int (nI y) :: .int (nI x) :: rest)) :=
  lv_icmp_lt hexec hb hdg ht (fun h => kt ((nI_ltI hx hy).mp h)) (fun h => kf (Nat.not_lt.mp fun z => h ((nI_ltI hx hy).mpr z)))
theorem nv_cgt (hexec : p.tables.exec = Jvm.exec) (hb : c.code = cc) (hx : x < 2 ^ 31) (hy : y < 2 ^ 31) (hdg : decode cc pc = .ok (.if_icmp .gt off, 3)) (ht : (pc : Int) + off = (tgt : Int))
    (kt : y < x → W p l e R s m args below meth c H locs cells slots Q (F0 m tgt ls rest)) (kf : x ≤ y → W p l e R s m args below meth c H locs cells slots Q (F0 m (pc + 3) ls rest)) : W p l e R s m args below meth c H locs cells slots Q (F0 m pc ls (.int (nI y) :: .int (nI x) :: rest)) :=
  lv_icmp_gt hexec hb hdg ht (fun h => kt ((nI_ltI hy hx).mp h)) (fun h => kf (Nat.not_lt.mp fun z => h ((nI_ltI hy hx).mpr z)))
theorem nv_cle (hexec : p.tables.exec = Jvm.exec) (hb : c.code = cc) (hx : x < 2 ^ 31) (hy : y < 2 ^ 31) (hdg : decode cc pc = .ok (.if_icmp .le off, 3)) (ht : (pc : Int) + off = (tgt : Int))
    (kt : x ≤ y → W p l e R s m args below meth c H locs cells slots Q (F0 m tgt ls rest)) (kf : y < x → W p l e R s m args below meth c H locs cells slots Q (F0 m (pc + 3) ls rest)) : W p l e R s m args below meth c H locs cells slots Q (F0 m pc ls (.int (nI y) :: .int (nI x) :: rest)) :=
  lv_icmp_le hexec hb hdg ht (fun h => kt ((nI_leI hx hy).mp h)) (fun h => kf (Nat.not_le.mp fun z => h ((nI_leI hx hy).mpr z)))
theorem nv_ceq (hexec : p.tables.exec = Jvm.exec) (hb : c.code = cc) (hx : x < 2 ^ 31) (hy : y < 2 ^ 31) (hdg : decode cc pc = .ok (.if_icmp .eq off, 3)) (ht : (pc : Int) + off = (tgt : Int))
    (kt : x = y → W p l e R s m args below meth c H locs cells slots Q (F0 m tgt ls rest)) (kf : x ≠ y → W p l e R s m args below meth c H locs cells slots Q (F0 m (pc + 3) ls rest)) : W p l e R s m args below meth c H locs cells slots Q (F0 m pc ls (.int (nI y) :: .int (nI x) :: rest)) :=
  lv_icmp_eq hexec hb hdg ht (fun h => kt ((nI_eq hx hy).mp h)) (fun h => kf fun z => h ((nI_eq hx hy).mpr z))
theorem nv_cne (hexec : p.tables.exec = Jvm.exec) (hb : c.code = cc) (hx : x < 2 ^ 31) (hy : y < 2 ^ 31) (hdg : decode cc pc = .ok (.if_icmp .ne off, 3)) (ht : (pc : Int) + off = (tgt : Int))
    (kt : x ≠ y → W p l e R s m args below meth c H locs cells slots Q (F0 m tgt ls rest)) (kf : x = y → W p l e R s m args below meth c H locs cells slots Q (F0 m (pc + 3) ls rest)) : W p l e R s m args below meth c H locs cells slots Q (F0 m pc ls (.int (nI y) :: .int (nI x) :: rest)) :=
  lv_icmp_ne hexec hb hdg ht (fun h => kt fun z => h ((nI_eq hx hy).mpr z)) (fun h => kf ((nI_eq hx hy).mp h))
theorem b2_0 {b : Bool} (h : b2 b = 0) : b = false := by
  cases b with
  | false => rfl
  | true => exact absurd h (by decide)
theorem b2_1 {b : Bool} (h : ¬ b2 b = 0) : b = true := by
  cases b with
  | true => rfl
  | false => exact absurd rfl h
theorem nv_bz (hexec : p.tables.exec = Jvm.exec) (hb : c.code = cc) {b : Bool} (hdg : decode cc pc = .ok (.ifCond .eq off, 3)) (ht : (pc : Int) + off = (tgt : Int))
    (kt : b = false → W p l e R s m args below meth c H locs cells slots Q (F0 m tgt ls rest)) (kf : b = true → W p l e R s m args below meth c H locs cells slots Q (F0 m (pc + 3) ls rest)) : W p l e R s m args below meth c H locs cells slots Q (F0 m pc ls (.int (b2 b) :: rest)) :=
  lv_if_eq hexec hb hdg ht (fun h => kt (b2_0 h)) (fun h => kf (b2_1 h))
theorem nv_bn (hexec : p.tables.exec = Jvm.exec) (hb : c.code = cc) {b : Bool} (hdg : decode cc pc = .ok (.ifCond .ne off, 3)) (ht : (pc : Int) + off = (tgt : Int))
    (kt : b = true → W p l e R s m args below meth c H locs cells slots Q (F0 m tgt ls rest)) (kf : b = false → W p l e R s m args below meth c H locs cells slots Q (F0 m (pc + 3) ls rest)) : W p l e R s m args below meth c H locs cells slots Q (F0 m pc ls (.int (b2 b) :: rest)) :=
  lv_if_ne hexec hb hdg ht (fun h => kt (b2_1 h)) (fun h => kf (b2_0 h))
theorem nv_zeq (hexec : p.tables.exec = Jvm.exec) (hb : c.code = cc) (hx : x < 2 ^ 31) (hdg : decode cc pc = .ok (.ifCond .eq off, 3)) (ht : (pc : Int) + off = (tgt : Int))
    (kt : x = 0 → W p l e R s m args below meth c H locs cells slots Q (F0 m tgt ls rest)) (kf : x ≠ 0 → W p l e R s m args below meth c H locs cells slots Q (F0 m (pc + 3) ls rest)) : W p l e R s m args below meth c H locs cells slots Q (F0 m pc ls (.int (nI x) :: rest)) :=
  lv_if_eq hexec hb hdg ht (fun h => kt ((nI_eq hx (by decide)).mp h)) (fun h => kf fun z => h ((nI_eq hx (by decide)).mpr z))
theorem nv_zne (hexec : p.tables.exec = Jvm.exec) (hb : c.code = cc) (hx : x < 2 ^ 31) (hdg : decode cc pc = .ok (.ifCond .ne off, 3)) (ht : (pc : Int) + off = (tgt : Int))
    (kt : x ≠ 0 → W p l e R s m args below meth c H locs cells slots Q (F0 m tgt ls rest)) (kf : x = 0 → W p l e R s m args below meth c H locs cells slots Q (F0 m (pc + 3) ls rest)) : W p l e R s m args below meth c H locs cells slots Q (F0 m pc ls (.int (nI x) :: rest)) :=
  lv_if_ne hexec hb hdg ht (fun h => kt fun z => h ((nI_eq hx (by decide)).mpr z)) (fun h => kf ((nI_eq hx (by decide)).mp h))
theorem nv_zgt (hexec : p.tables.exec = Jvm.exec) (hb : c.code = cc) (hx : x < 2 ^ 31) (hdg : decode cc pc = .ok (.ifCond .gt off, 3)) (ht : (pc : Int) + off = (tgt : Int))
    (kt : 0 < x → W p l e R s m args below meth c H locs cells slots Q (F0 m tgt ls rest)) (kf : x = 0 → W p l e R s m args below meth c H locs cells slots Q (F0 m (pc + 3) ls rest)) : W p l e R s m args below meth c H locs cells slots Q (F0 m pc ls (.int (nI x) :: rest)) :=
  lv_if_gt hexec hb hdg ht (fun h => kt ((nI_ltI (a := 0) (by decide) hx).mp h)) (fun h => kf (by
    rcases Nat.eq_zero_or_pos x with z | z
    · exact z
    · exact absurd ((nI_ltI (a := 0) (by decide) hx).mpr z) h))
theorem nv_zle (hexec : p.tables.exec = Jvm.exec) (hb : c.code = cc) (hx : x < 2 ^ 31) (hdg : decode cc pc = .ok (.ifCond .le off, 3)) (ht : (pc : Int) + off = (tgt : Int))
    (kt : x = 0 → W p l e R s m args below meth c H locs cells slots Q (F0 m tgt ls rest)) (kf : 0 < x → W p l e R s m args below meth c H locs cells slots Q (F0 m (pc + 3) ls rest)) : W p l e R s m args below meth c H locs cells slots Q (F0 m pc ls (.int (nI x) :: rest)) :=
  lv_if_le hexec hb hdg ht (fun h => kt (Nat.le_zero.mp ((nI_leI hx (by decide)).mp h))) (fun h => kf (by
    rcases Nat.eq_zero_or_pos x with z | z
    · exact absurd ((nI_leI hx (by decide)).mpr (Nat.le_of_eq z)) h
    · exact z))
theorem nv_zlt (hexec : p.tables.exec = Jvm.exec) (hb : c.code = cc) (hx : x < 2 ^ 31) (hdg : decode cc pc = .ok (.ifCond .lt off, 3)) (ht : (pc : Int) + off = (tgt : Int))
    (kf : W p l e R s m args below meth c H locs cells slots Q (F0 m (pc + 3) ls rest)) : W p l e R s m args below meth c H locs cells slots Q (F0 m pc ls (.int (nI x) :: rest)) :=
  lv_if_lt hexec hb hdg ht (fun h => absurd h (nI_pos hx)) (fun _ => kf)
variable {D : va_G} {cl : List vw_C} {tys : List (ClassId × FieldType)} {ws : va_W} {a : Nat} {A : Nat → Prop} {H0 : Heap}
theorem nv_iald (hexec : p.tables.exec = Jvm.exec) (hb : c.code = cc) (hK : va_K D cl tys s) (hP : va_P D cl ws H) (q0 t0 : Nat) {cA : ClassId} {n : Nat} {f : Nat → Int32} (ha : ws[q0]? = some (a, .inl (cA, n, .inl f))) (ht : tys[t0]? = some (cA, .int)) {i : Nat} {v : Int32} (hi : i < n) (hn : n < 2 ^ 31) (hv : f i = v) (hdg : decode cc pc = .ok (.iaload, 1))
    (kk : W p l e R s m args below meth c H locs cells slots Q (F0 m (pc + 1) ls (.int v :: rest))) : W p l e R s m args below meth c H locs cells slots Q (F0 m pc ls (.int (nI i) :: .ref a :: rest)) :=
  va_iald hexec hb hK hP q0 t0 ha ht (vp_in_nI hi hn) hdg (by rw [nI_clamp (Nat.lt_trans hi hn), hv]; exact kk)
theorem nv_zald (hexec : p.tables.exec = Jvm.exec) (hb : c.code = cc) (hK : va_K D cl tys s) (hP : va_P D cl ws H) (q0 t0 : Nat) {cA : ClassId} {n : Nat} {f : Nat → Int32} (ha : ws[q0]? = some (a, .inl (cA, n, .inl f))) (ht : tys[t0]? = some (cA, .boolean)) {i : Nat} {v : Int32} (hi : i < n) (hn : n < 2 ^ 31) (hv : f i = v) (hdg : decode cc pc = .ok (.baload, 1))
    (kk : W p l e R s m args below meth c H locs cells slots Q (F0 m (pc + 1) ls (.int v :: rest))) : W p l e R s m args below meth c H locs cells slots Q (F0 m pc ls (.int (nI i) :: .ref a :: rest)) :=
  va_zald hexec hb hK hP q0 t0 ha ht (vp_in_nI hi hn) hdg (by rw [nI_clamp (Nat.lt_trans hi hn), hv]; exact kk)
theorem nv_iast (hexec : p.tables.exec = Jvm.exec) (hb : c.code = cc) (hK : va_K D cl tys s) (hP : va_P D cl ws H) (hD : va_D A ws) (hS : va_S A H0 H locs) (q0 t0 : Nat) {cA : ClassId} {n : Nat} {f f' : Nat → Int32} (ha : ws[q0]? = some (a, .inl (cA, n, .inl f))) (ht : tys[t0]? = some (cA, .int)) {i : Nat} {x : Int32} (hi : i < n) (hn : n < 2 ^ 31) (hf : upd f i x = f') (ws' : va_W) (hw : ws.set q0 (a, .inl (cA, n, .inl f')) = ws') (hdg : decode cc pc = .ok (.iastore, 1))
    (kk : ∀ (H1 : Heap) (locs1 : List Loc), va_P D cl ws' H1 → va_D A ws' → va_S A H0 H1 locs1 → W p l e R s m args below meth c H1 locs1 cells slots Q (F0 m (pc + 1) ls rest)) : W p l e R s m args below meth c H locs cells slots Q (F0 m pc ls (.int x :: .int (nI i) :: .ref a :: rest)) := by
  refine va_iast hexec hb hK hP hD hS q0 t0 ha ht (vp_in_nI hi hn) hdg (fun H1 locs1 h1 h2 h3 => ?_)
  rw [nI_clamp (Nat.lt_trans hi hn), hf, hw] at h1 h2
  exact kk H1 locs1 h1 h2 h3
end NV
/-! Methods that only look: they come back with v, and the heap is as it was. -/
theorem tm_nil {L : List Loc} (h : ∀ q ∈ L, (fun _ : Addr => False) q.base) : L = [] := by
  cases L with
  | nil => rfl
  | cons a t => exact (h a List.mem_cons_self).elim
def pu_Q (v : Value) : Array Value → State → Outcome → State → Prop := fun _ st o t => o = .returned (some v) ∧ t.heap = st.heap
def pu_P (D : va_G) (cl : List vw_C) (ws : va_W) (tys : List (ClassId × FieldType)) (av : List Value) : Array Value → State → Prop := va_Pc av (fun U => va_P D cl ws U.heap ∧ va_K D cl tys U)
theorem pu_blind {D : va_G} {cl : List vw_C} {ws : va_W} {tys : List (ClassId × FieldType)} {av : List Value} : FrameBlind (pu_P D cl ws tys av) := fun a U g mk q => by
  obtain ⟨q0, qP, qK⟩ := q
  exact ⟨q0, qP, va_K.moved (u := U) (U := U.calling g mk a) (Vm.Alike.refl U.vm) qK⟩
section PU
variable {p : Program} {l : Launch} {e : Env} {R : Room} {s : State} {m : MethodId} {args : Array Value} {below : List Frame} {meth : Method} {c : Code} {H : Heap} {locs : List Loc} {cells slots : Nat} {Q : State → Prop}
variable {pc : Nat} {ls : Array Slot} {rest st0 As : List Value} {a : Array Value} {D : va_G} {cl : List vw_C} {tys : List (ClassId × FieldType)} {ws : va_W} {b : Nat}
theorem pu_go {v : Value} (hr : va_Run p l e R s m args below meth c H locs cells slots 0 0 (F0 m pc ls st0) rest (pu_Q v a) (fun _ => False)) (k : W p l e R s m args below meth c H locs cells slots Q (F0 m (pc + 3) ls (v :: rest))) :
    W p l e R s m args below meth c H locs cells slots Q (F0 m pc ls st0) := by
  intro T hT X
  obtain ⟨w, st₀, t, T', L, h0, X', hL, e1, e2, ⟨hv, hh⟩, st⟩ := hr T hT X
  have hn := tm_nil hL
  subst hn
  rw [List.append_nil] at X'
  obtain rfl : w = some v := Outcome.returned.inj hv
  obtain ⟨t2, a1, b1⟩ := k T' (by rw [e1, hh, h0]) X'
  exact ⟨t2, st t2 a1, b1⟩
theorem pu_preS (hK : va_K D cl tys s) (hP : va_P D cl ws H) : PreS s H (pu_P D cl ws tys As) As :=
  ⟨pu_blind, fun U hU hW => ⟨rfl, by rw [hU]; exact hP, va_K.moved hW.alike hK⟩⟩
theorem pu_preV {ci q0 : Nat} {q : vw_C} {fs : List Value} (hK : va_K D cl tys s) (hP : va_P D cl ws H) (hc : cl[ci]? = some q) (he : ws[q0]? = some (b, .inr (ci, fs))) : PreV s H q.1 b (pu_P D cl ws tys (.ref b :: As)) As :=
  ⟨pu_blind, va_recv hK hP hc he, fun U hU hW => ⟨rfl, by rw [hU]; exact hP, va_K.moved hW.alike hK⟩⟩
end PU
end
section
/-! THE STATE: arrays of numbers by their places, counts, and the differences (which may be below 0).
arrays: 0..4 lots (kind, end, out, waste, paper), 5..9 moves (to, lot, n, arrival, on), 10..14 orders (store, kind, n, day, on), 15..19 emergencies (store, kind, n, person, on), 20..24 differences (store, lot, -, reason, day),
25 there, 26 least, 27 most, 28 parts, 29 heights, 30 litres, 31 is there a level; numbers: 0 stores, 1 day, 2 lots, 3 moves, 4 orders, 5 emergencies, 6 differences, 7 rows of the table -/
abbrev St : Type := (Nat → Nat → Nat) × (Nat → Nat) × (Nat → Int32)
def aU (a : Nat → Nat → Nat) (k j v : Nat) : Nat → Nat → Nat := va_up a k (va_up (a k) j v)
theorem aU_s {a : Nat → Nat → Nat} {k j v : Nat} : aU a k j v k j = v := by simp [aU, va_up]
theorem aU_e {a : Nat → Nat → Nat} {k j v i : Nat} (h : i ≠ j) : aU a k j v k i = a k i := by simp [aU, va_up, h]
theorem aU_n {a : Nat → Nat → Nat} {k k' j v : Nat} (h : k' ≠ k) : aU a k j v k' = a k' := by simp [aU, va_up, h]
def S_a (S : St) (k j v : Nat) : St := (aU S.1 k j v, S.2.1, S.2.2)
def S_g (S : St) (k v : Nat) : St := (S.1, va_up S.2.1 k v, S.2.2)
def S_z (S : St) (j : Nat) (v : Int32) : St := (S.1, S.2.1, va_up S.2.2 j v)
/-- five columns side by side -/
def rowf (a : Nat → Nat → Nat) (b : Nat) : Nat → Int32 := fun j => nI (a (b + j % 5) (j / 5))
def rowd (a : Nat → Nat → Nat) (z : Nat → Int32) : Nat → Int32 := fun j => if j % 5 = 2 then z (j / 5) else nI (a (20 + j % 5) (j / 5))
theorem rowf_at {a : Nat → Nat → Nat} {b i c : Nat} (h : c < 5) : rowf a b (i * 5 + c) = nI (a (b + c) i) := by
  have h1 : (i * 5 + c) % 5 = c := by omega
  have h2 : (i * 5 + c) / 5 = i := by omega
  simp only [rowf, h1, h2]
theorem rowf_upd {a : Nat → Nat → Nat} {b i c v : Nat} (h : c < 5) : upd (rowf a b) (i * 5 + c) (nI v) = rowf (aU a (b + c) i v) b := by
  funext j
  by_cases hj : j = i * 5 + c
  · subst hj
    rw [pk_us, rowf_at h, aU_s]
  · rw [pk_un hj]
    show nI (a (b + j % 5) (j / 5)) = nI (aU a (b + c) i v (b + j % 5) (j / 5))
    by_cases h1 : j % 5 = c
    · have h2 : j / 5 ≠ i := by omega
      rw [h1, aU_e h2]
    · rw [aU_n (by omega)]
theorem rowf_off {a : Nat → Nat → Nat} {b k i v : Nat} (h : k < b ∨ b + 5 ≤ k) : rowf (aU a k i v) b = rowf a b := by
  funext j
  show nI (aU a k i v (b + j % 5) (j / 5)) = nI (a (b + j % 5) (j / 5))
  rw [aU_n (by omega)]
theorem rowd_at {a : Nat → Nat → Nat} {z : Nat → Int32} {i c : Nat} (h : c < 5) (h2 : c ≠ 2) : rowd a z (i * 5 + c) = nI (a (20 + c) i) := by
  have h1 : (i * 5 + c) % 5 = c := by omega
  have h3 : (i * 5 + c) / 5 = i := by omega
  simp only [rowd, h1, h3, if_neg h2]
theorem rowd_at2 {a : Nat → Nat → Nat} {z : Nat → Int32} {i : Nat} : rowd a z (i * 5 + 2) = z i := by
  have h1 : (i * 5 + 2) % 5 = 2 := by omega
  have h3 : (i * 5 + 2) / 5 = i := by omega
  simp only [rowd, h1, h3, if_pos]
theorem rowd_upd {a : Nat → Nat → Nat} {z : Nat → Int32} {i c v : Nat} (h : c < 5) (h2 : c ≠ 2) : upd (rowd a z) (i * 5 + c) (nI v) = rowd (aU a (20 + c) i v) z := by
  funext j
  by_cases hj : j = i * 5 + c
  · subst hj
    rw [pk_us, rowd_at h h2, aU_s]
  · rw [pk_un hj]
    show (if j % 5 = 2 then z (j / 5) else nI (a (20 + j % 5) (j / 5))) = (if j % 5 = 2 then z (j / 5) else nI (aU a (20 + c) i v (20 + j % 5) (j / 5)))
    by_cases h3 : j % 5 = 2
    · rw [if_pos h3, if_pos h3]
    · rw [if_neg h3, if_neg h3]
      by_cases h1 : j % 5 = c
      · have h4 : j / 5 ≠ i := by omega
        rw [h1, aU_e h4]
      · rw [aU_n (by omega)]
theorem rowd_upd2 {a : Nat → Nat → Nat} {z : Nat → Int32} {i : Nat} {v : Int32} : upd (rowd a z) (i * 5 + 2) v = rowd a (va_up z i v) := by
  funext j
  by_cases hj : j = i * 5 + 2
  · subst hj
    rw [pk_us, rowd_at2, va_up_self]
  · rw [pk_un hj]
    show (if j % 5 = 2 then z (j / 5) else nI (a (20 + j % 5) (j / 5))) = (if j % 5 = 2 then va_up z i v (j / 5) else nI (a (20 + j % 5) (j / 5)))
    by_cases h3 : j % 5 = 2
    · rw [if_pos h3, if_pos h3, va_up_ne _ _ (by omega)]
    · rw [if_neg h3, if_neg h3]
theorem rowd_off {a : Nat → Nat → Nat} {z : Nat → Int32} {k i v : Nat} (h : k < 20 ∨ 25 ≤ k) : rowd (aU a k i v) z = rowd a z := by
  funext j
  show (if j % 5 = 2 then z (j / 5) else nI (aU a k i v (20 + j % 5) (j / 5))) = (if j % 5 = 2 then z (j / 5) else nI (a (20 + j % 5) (j / 5)))
  rw [aU_n (by omega)]
/-- a plain array -/
def colf (a : Nat → Nat → Nat) (k : Nat) : Nat → Int32 := fun j => nI (a k j)
theorem colf_upd {a : Nat → Nat → Nat} {k i v : Nat} : upd (colf a k) i (nI v) = colf (aU a k i v) k := by
  funext j
  by_cases hj : j = i
  · subst hj
    rw [pk_us]
    show _ = nI (aU a k j v k j)
    rw [aU_s]
  · rw [pk_un hj]
    show nI (a k j) = nI (aU a k i v k j)
    rw [aU_e hj]
theorem colf_off {a : Nat → Nat → Nat} {k k' i v : Nat} (h : k' ≠ k) : colf (aU a k i v) k' = colf a k' := by
  funext j
  show nI (aU a k i v k' j) = nI (a k' j)
  rw [aU_n h]
/-- how many of those up to n, taken where P says -/
def sIf (P : Nat → Bool) (v : Nat → Nat) : Nat → Nat
  | 0 => 0
  | i + 1 => sIf P v i + (if P i = true then v i else 0)
theorem sIf_le {P : Nat → Bool} {v : Nat → Nat} {B : Nat} (h : ∀ i, v i ≤ B) : ∀ n, sIf P v n ≤ n * B
  | 0 => by simp [sIf]
  | n + 1 => by
    have h1 := sIf_le (P := P) h n
    have h2 := h n
    have h3 : (n + 1) * B = n * B + B := Nat.succ_mul n B
    simp only [sIf]
    split <;> omega
theorem sIf_congr {P P' : Nat → Bool} {v v' : Nat → Nat} : ∀ n, (∀ i, i < n → P i = P' i ∧ (P i = true → v i = v' i)) → sIf P v n = sIf P' v' n
  | 0, _ => rfl
  | n + 1, h => by
    have h1 := sIf_congr n (fun i hi => h i (Nat.lt_succ_of_lt hi))
    obtain ⟨h2, h3⟩ := h n (Nat.lt_succ_self n)
    simp only [sIf, h1, ← h2]
    split
    · rename_i hp
      rw [h3 hp]
    · rfl
end
section
/-! WHAT EACH CALL DOES, on the state: (0 and an answer, or the number of the exception; the answer; the state behind it). -/
def ok (x : Int32) (n : Nat) : Bool := decide (0 ≤ x.toInt) && decide (x.toInt < n)
def rg (x : Int32) (lo hi : Nat) : Bool := decide ((lo : Int) ≤ x.toInt) && decide (x.toInt ≤ hi)
def nn (x : Int32) : Nat := x.toInt.toNat
theorem nn_nI {x : Int32} (h : 0 ≤ x.toInt) : x = nI (nn x) := by
  have h1 := x.toInt_lt
  have h2 : (nI (nn x)).toInt = x.toInt := by
    rw [nI_toInt (by simp only [nn]; omega)]
    simp only [nn]
    omega
  exact (Int32.toInt_inj.mp h2).symm
theorem ok_of {x : Int32} {n : Nat} (h : ok x n = true) : x = nI (nn x) ∧ nn x < n := by
  simp only [ok, Bool.and_eq_true, decide_eq_true_eq] at h
  exact ⟨nn_nI h.1, by simp only [nn]; omega⟩
theorem rg_of {x : Int32} {lo hi : Nat} (h : rg x lo hi = true) : x = nI (nn x) ∧ lo ≤ nn x ∧ nn x ≤ hi := by
  simp only [rg, Bool.and_eq_true, decide_eq_true_eq] at h
  exact ⟨nn_nI (by omega), by simp only [nn]; omega, by simp only [nn]; omega⟩
theorem nn_of {j : Nat} (h : j < 2 ^ 31) : nn (nI j) = j := by
  simp only [nn, nI_toInt h]
  omega
theorem ok_nI {j n : Nat} (h : j < 2 ^ 31) : ok (nI j) n = decide (j < n) := by
  simp only [ok, nI_toInt h]
  by_cases hj : j < n
  · simp [hj]
  · simp [hj]
abbrev Op : Type := Nat × Int32 × St
def dayOf (S : St) : Nat := S.2.1 1
def good (S : St) (s k : Nat) : Nat := sIf (fun j => decide (S.1 0 j = k) && decide (S.2.1 1 ≤ S.1 1 j)) (fun j => S.1 25 (s * 60 + j)) (S.2.1 2)
def bad (S : St) (s k : Nat) : Nat := sIf (fun j => decide (S.1 0 j = k) && !decide (S.2.1 1 ≤ S.1 1 j)) (fun j => S.1 25 (s * 60 + j)) (S.2.1 2)
def way (S : St) (g : Bool) (s k : Nat) : Nat := sIf (fun j => decide (S.1 9 j = 1) && (decide (S.1 5 j = s) && (decide (S.1 0 (S.1 6 j) = k) && (!g || decide (S.1 8 j ≤ S.1 1 (S.1 6 j)))))) (fun j => S.1 7 j) (S.2.1 3)
def opn (S : St) (s k : Nat) : Nat := sIf (fun j => decide (S.1 14 j = 1) && (decide (S.1 10 j = s) && decide (S.1 11 j = k))) (fun j => S.1 12 j) (S.2.1 4)
def expd (S : St) (s k : Nat) : Nat := good S s k + way S true s k + opn S s k
/-- five columns from b on, at the row i -/
def S_row (S : St) (b i v0 v1 v2 v3 v4 : Nat) : St := S_a (S_a (S_a (S_a (S_a S b i v0) (b + 1) i v1) (b + 2) i v2) (b + 3) i v3) (b + 4) i v4
def op_store (S : St) : Op := if S.2.1 0 < 8 then (0, nI (S.2.1 0), S_g S 0 (S.2.1 0 + 1)) else (1, 0, S)
def op_lot (S : St) (k e : Int32) : Op :=
  if ok k 10 = true then if rg e 0 9999 = true then if S.2.1 2 < 60 then (0, nI (S.2.1 2), S_g (S_row S 0 (S.2.1 2) (nn k) (nn e) 0 0 0) 2 (S.2.1 2 + 1)) else (3, 0, S) else (2, 0, S) else (1, 0, S)
def op_bring (S : St) (x y n : Int32) : Op :=
  if ok x (S.2.1 0) = true then if ok y (S.2.1 2) = true then if rg n 1 9999 = true then
    if S.1 25 (nn x * 60 + nn y) + nn n ≤ 9999 then (0, nI (S.1 25 (nn x * 60 + nn y) + nn n), S_a S 25 (nn x * 60 + nn y) (S.1 25 (nn x * 60 + nn y) + nn n)) else (3, 0, S) else (2, 0, S) else (1, 0, S) else (1, 0, S)
/-- n of a lot come to a store: what is above 9,999 is lost -/
def addUp (S : St) (s l n : Nat) : St := S_a S 25 (s * 60 + l) (min 9999 (S.1 25 (s * 60 + l) + n))
def come (S : St) (i : Nat) : St := addUp (S_a S 9 i 0) (S.1 5 i) (S.1 6 i) (S.1 7 i)
def op_move (S : St) (f t y n d : Int32) : Op :=
  if ok f (S.2.1 0) = true then if ok t (S.2.1 0) = true then if f ≠ t then if ok y (S.2.1 2) = true then if rg n 1 9999 = true then if rg d 0 30 = true then
    if nn n ≤ S.1 25 (nn f * 60 + nn y) then if S.2.1 3 < 60 then
      (0, nI (S.2.1 3), if nn d = 0 then come (S_g (S_row (S_a S 25 (nn f * 60 + nn y) (S.1 25 (nn f * 60 + nn y) - nn n)) 5 (S.2.1 3) (nn t) (nn y) (nn n) (S.2.1 1 + nn d) 1) 3 (S.2.1 3 + 1)) (S.2.1 3)
        else S_g (S_row (S_a S 25 (nn f * 60 + nn y) (S.1 25 (nn f * 60 + nn y) - nn n)) 5 (S.2.1 3) (nn t) (nn y) (nn n) (S.2.1 1 + nn d) 1) 3 (S.2.1 3 + 1))
    else (4, 0, S) else (3, 0, S) else (2, 0, S) else (2, 0, S) else (1, 0, S) else (1, 0, S) else (1, 0, S) else (1, 0, S)
/-- the lot that is taken from first, of those below i -/
def before (S : St) (s l b : Nat) : Bool := if S.1 1 l ≠ S.1 1 b then decide (S.1 1 l < S.1 1 b) else decide (S.1 25 (s * 60 + l) < S.1 25 (s * 60 + b))
def takeable (S : St) (s k l : Nat) : Bool := decide (S.1 0 l = k) && (decide (S.2.1 1 ≤ S.1 1 l) && decide (0 < S.1 25 (s * 60 + l)))
def bst (S : St) (s k : Nat) : Nat → Option Nat
  | 0 => none
  | i + 1 => if takeable S s k i = true then (match bst S s k i with
    | none => some i
    | some b => if before S s i b = true then some i else some b) else bst S s k i
def takeOf (S : St) (s b p : Nat) : St := S_a (S_a S 25 (s * 60 + b) (S.1 25 (s * 60 + b) - p)) 2 b (S.1 2 b + p)
def tk (s k : Nat) : Nat → St → Nat → St
  | 0, S, _ => S
  | f + 1, S, n => if n = 0 then S else (match bst S s k (S.2.1 2) with
    | none => S
    | some b => tk s k f (takeOf S s b (min n (S.1 25 (s * 60 + b)))) (n - min n (S.1 25 (s * 60 + b))))
def op_use (S : St) (x k n : Int32) : Op :=
  if ok x (S.2.1 0) = true then if ok k 10 = true then if rg n 1 9999 = true then
    if nn n ≤ good S (nn x) (nn k) then (0, nI (good S (nn x) (nn k) - nn n), tk (nn x) (nn k) 60 S (nn n)) else (3, 0, S) else (2, 0, S) else (1, 0, S) else (1, 0, S)
def op_sum (S : St) (x k w : Int32) : Op :=
  if ok x (S.2.1 0) = true then if ok k 10 = true then if w = 0 then (0, nI (good S (nn x) (nn k)), S) else if w = 1 then (0, nI (bad S (nn x) (nn k)), S) else if w = 2 then (0, nI (way S false (nn x) (nn k)), S) else (1, 0, S) else (1, 0, S) else (1, 0, S)
def op_has (S : St) (x y : Int32) : Op := if ok x (S.2.1 0) = true then if ok y (S.2.1 2) = true then (0, nI (S.1 25 (nn x * 60 + nn y)), S) else (1, 0, S) else (1, 0, S)
def op_level (S : St) (x k a b : Int32) : Op :=
  if ok x (S.2.1 0) = true then if ok k 10 = true then if rg b 0 9999 = true then if rg a 0 (nn b) = true then
    (0, 0, S_a (S_a (S_a S 26 (nn x * 10 + nn k) (nn a)) 27 (nn x * 10 + nn k) (nn b)) 31 (nn x * 10 + nn k) 1) else (2, 0, S) else (2, 0, S) else (1, 0, S) else (1, 0, S)
def addOrd (S : St) (s k n : Nat) : St := S_g (S_row S 10 (S.2.1 4) s k n (S.2.1 1) 1) 4 (S.2.1 4 + 1)
def ordK (S : St) (s k : Nat) : St := if S.1 26 (s * 10 + k) = 0 then S else if 80 ≤ S.2.1 4 then S else if expd S s k < S.1 26 (s * 10 + k) then addOrd S s k (S.1 27 (s * 10 + k) - expd S s k) else S
def ordR (S : St) (s : Nat) : Nat → St
  | 0 => S
  | k + 1 => ordK (ordR S s k) s k
def ordN (S : St) : Nat → St
  | 0 => S
  | s + 1 => ordR (ordN S s) s 10
def op_orders (S : St) : Op := (0, nI ((ordN S (S.2.1 0)).2.1 4 - S.2.1 4), ordN S (S.2.1 0))
def op_order (S : St) (i w : Int32) : Op := if ok i (S.2.1 4) = true then if ok w 5 = true then (0, nI (S.1 (10 + nn w) (nn i)), S) else (1, 0, S) else (1, 0, S)
def op_deliver (S : St) (i y : Int32) : Op :=
  if ok i (S.2.1 4) = true then if ok y (S.2.1 2) = true then if S.1 14 (nn i) = 1 then if S.1 11 (nn i) = S.1 0 (nn y) then
    (0, nI (min 9999 (S.1 25 (S.1 10 (nn i) * 60 + nn y) + S.1 12 (nn i))), addUp (S_a S 14 (nn i) 0) (S.1 10 (nn i)) (nn y) (S.1 12 (nn i))) else (2, 0, S) else (2, 0, S) else (1, 0, S) else (1, 0, S)
def op_emergency (S : St) (x k n w : Int32) : Op :=
  if ok x (S.2.1 0) = true then if ok k 10 = true then if ok w 20 = true then if rg n 1 9999 = true then if S.2.1 5 < 20 then
    (0, nI (S.2.1 5), S_g (S_row S 15 (S.2.1 5) (nn x) (nn k) (nn n) (nn w) 1) 5 (S.2.1 5 + 1)) else (3, 0, S) else (2, 0, S) else (1, 0, S) else (1, 0, S) else (1, 0, S)
def op_second (S : St) (i w : Int32) : Op :=
  if ok i (S.2.1 5) = true then if ok w 20 = true then if S.1 19 (nn i) = 1 then if S.1 18 (nn i) ≠ nn w then if S.2.1 4 < 80 then
    (0, nI (S.2.1 4), addOrd (S_a S 19 (nn i) 0) (S.1 15 (nn i)) (S.1 16 (nn i)) (S.1 17 (nn i))) else (3, 0, S) else (2, 0, S) else (2, 0, S) else (1, 0, S) else (1, 0, S)
def addDif (S : St) (s l : Nat) (d : Int32) (r : Nat) : St := S_g (S_a (S_a (S_z (S_a (S_a S 20 (S.2.1 6) s) 21 (S.2.1 6) l) (S.2.1 6) d) 23 (S.2.1 6) r) 24 (S.2.1 6) (S.2.1 1)) 6 (S.2.1 6 + 1)
def op_count (S : St) (x y n r : Int32) : Op :=
  if ok x (S.2.1 0) = true then if ok y (S.2.1 2) = true then if rg n 0 9999 = true then if rg r 1 99 = true then
    if nn n = S.1 25 (nn x * 60 + nn y) then (0, 0, S) else if S.2.1 6 < 80 then
      (0, n - nI (S.1 25 (nn x * 60 + nn y)), addDif (S_a S 25 (nn x * 60 + nn y) (nn n)) (nn x) (nn y) (n - nI (S.1 25 (nn x * 60 + nn y))) (nn r)) else (3, 0, S) else (2, 0, S) else (2, 0, S) else (1, 0, S) else (1, 0, S)
def op_difference (S : St) (i w : Int32) : Op := if ok i (S.2.1 6) = true then if ok w 5 = true then (0, if nn w = 2 then S.2.2 (nn i) else nI (S.1 (20 + nn w) (nn i)), S) else (1, 0, S) else (1, 0, S)
def op_kit (S : St) (t k n : Int32) : Op := if ok t 5 = true then if ok k 10 = true then if rg n 0 20 = true then (0, 0, S_a S 28 (nn t * 10 + nn k) (nn n)) else (2, 0, S) else (1, 0, S) else (1, 0, S)
def anyPart (S : St) (t : Nat) : Bool := (List.range 10).any (fun k => decide (0 < S.1 28 (t * 10 + k)))
def lack (S : St) (s t : Nat) : Option Nat := (List.range 10).find? (fun k => decide (good S s k < S.1 28 (t * 10 + k)))
def gvN (S : St) (s t : Nat) : Nat → St
  | 0 => S
  | k + 1 => tk s k 60 (gvN S s t k) (S.1 28 (t * 10 + k))
def op_give (S : St) (x t : Int32) : Op :=
  if ok x (S.2.1 0) = true then if ok t 5 = true then if anyPart S (nn t) = true then (match lack S (nn x) (nn t) with
    | some k => (0, nI k, S)
    | none => (0, -1, gvN S (nn x) (nn t) 10)) else (2, 0, S) else (1, 0, S) else (1, 0, S)
def op_back (S : St) (x y n : Int32) : Op :=
  if ok x (S.2.1 0) = true then if ok y (S.2.1 2) = true then if rg n 1 9999 = true then if S.1 2 (nn y) < nn n then (0, 0, S) else
    if S.1 25 (nn x * 60 + nn y) + nn n ≤ 9999 then (0, 1, S_a (S_a S 2 (nn y) (S.1 2 (nn y) - nn n)) 25 (nn x * 60 + nn y) (S.1 25 (nn x * 60 + nn y) + nn n)) else (3, 0, S) else (2, 0, S) else (1, 0, S) else (1, 0, S)
def op_waste (S : St) (x y n w : Int32) : Op :=
  if ok x (S.2.1 0) = true then if ok y (S.2.1 2) = true then if rg n 1 9999 = true then if rg w 1 9999 = true then if nn n ≤ S.1 25 (nn x * 60 + nn y) then
    (0, nI (S.1 3 (nn y) + nn n), S_a (S_a (S_a S 25 (nn x * 60 + nn y) (S.1 25 (nn x * 60 + nn y) - nn n)) 3 (nn y) (S.1 3 (nn y) + nn n)) 4 (nn y) (nn w)) else (3, 0, S) else (2, 0, S) else (2, 0, S) else (1, 0, S) else (1, 0, S)
def allIn (S : St) (l : Nat) : Nat := sIf (fun _ => true) (fun s => S.1 25 (s * 60 + l)) (S.2.1 0)
def op_lotAt (S : St) (y w : Int32) : Op := if ok y (S.2.1 2) = true then if w = 5 then (0, nI (allIn S (nn y)), S) else if ok w 5 = true then (0, nI (S.1 (nn w) (nn y)), S) else (1, 0, S) else (1, 0, S)
def op_row (S : St) (h v : Int32) : Op :=
  if rg h 0 99999 = true then if rg v 0 99999 = true then if S.2.1 7 = 0 ∨ (S.1 29 (S.2.1 7 - 1) < nn h ∧ S.1 30 (S.2.1 7 - 1) < nn v) then if S.2.1 7 < 10 then
    (0, nI (S.2.1 7 + 1), S_g (S_a (S_a S 29 (S.2.1 7) (nn h)) 30 (S.2.1 7) (nn v)) 7 (S.2.1 7 + 1)) else (3, 0, S) else (2, 0, S) else (1, 0, S) else (1, 0, S)
/-- the last of the rows below i that isn't above h -/
def lna (S : St) (h : Nat) : Nat → Option Nat
  | 0 => none
  | i + 1 => if S.1 29 i ≤ h then some i else lna S h i
def dipv (S : St) (h : Nat) : Int32 := match lna S h (S.2.1 7) with
  | none => -1
  | some b => if S.1 29 b = h then nI (S.1 30 b) else if b + 1 < S.2.1 7 then nI (S.1 30 b + (S.1 30 (b + 1) - S.1 30 b) * (h - S.1 29 b) / (S.1 29 (b + 1) - S.1 29 b)) else -1
def op_dip (S : St) (h : Int32) : Op := if rg h 0 99999 = true then (0, dipv S (nn h), S) else (1, 0, S)
def due (S : St) (D i : Nat) : Bool := decide (S.1 9 i = 1) && decide (S.1 8 i ≤ D)
def arr (S : St) (D : Nat) : Nat → St
  | 0 => S
  | i + 1 => if due (arr S D i) D i = true then come (arr S D i) i else arr S D i
def arrC (S : St) (D : Nat) : Nat → Nat
  | 0 => 0
  | i + 1 => arrC S D i + (if due (arr S D i) D i = true then 1 else 0)
def op_tick (S : St) (d : Int32) : Op :=
  if rg d 1 1000 = true then if S.2.1 1 + nn d ≤ 9999 then (0, nI (arrC (S_g S 1 (S.2.1 1 + nn d)) (S.2.1 1 + nn d) (S.2.1 3)), arr (S_g S 1 (S.2.1 1 + nn d)) (S.2.1 1 + nn d) (S.2.1 3)) else (1, 0, S) else (1, 0, S)
end
